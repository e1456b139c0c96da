theorem k_338 : (Jvm.Cond.methodLink "LeastSolutionsLaw" (59 : Nat) ({ cls := "LeastSolutions", name := "type", desc := "(JI)I" } : Jvm.MethodName)) ∈ wd := wd_t (List.mem_of_getElem? (i := 338) (by decide +kernel)) rfl
theorem k_339 : (Jvm.Cond.instanceMethod ({ cls := "LeastSolutions", name := "type", desc := "(JI)I" } : Jvm.MethodName)) ∈ wd := wd_t (List.mem_of_getElem? (i := 339) (by decide +kernel)) rfl
theorem k_340 : (Jvm.Cond.selects "LeastSolutions" ({ cls := "LeastSolutions", name := "type", desc := "(JI)I" } : Jvm.MethodName) ({ cls := "LeastSolutions", name := "type", desc := "(JI)I" } : Jvm.MethodName)) ∈ wd := wd_t (List.mem_of_getElem? (i := 340) (by decide +kernel)) rfl
theorem k_341 : (Jvm.Cond.code ({ cls := "LeastSolutions", name := "type", desc := "(JI)I" } : Jvm.MethodName) prog_1_method_2_code (4 : Nat) (Option.some Jvm.ClassFile.FieldType.int)) ∈ wd := wd_t (List.mem_of_getElem? (i := 341) (by decide +kernel)) rfl
theorem k_342 : (Jvm.Cond.methodLink "LeastSolutions" (92 : Nat) ({ cls := "LeastSolutions$Text", name := "put", desc := "(JI)Z" } : Jvm.MethodName)) ∈ wd := wd_t (List.mem_of_getElem? (i := 342) (by decide +kernel)) rfl
theorem k_343 : (Jvm.Cond.instanceMethod ({ cls := "LeastSolutions$Text", name := "put", desc := "(JI)Z" } : Jvm.MethodName)) ∈ wd := wd_t (List.mem_of_getElem? (i := 343) (by decide +kernel)) rfl
theorem k_344 : (Jvm.Cond.selects "LeastSolutions$Text" ({ cls := "LeastSolutions$Text", name := "put", desc := "(JI)Z" } : Jvm.MethodName) ({ cls := "LeastSolutions$Text", name := "put", desc := "(JI)Z" } : Jvm.MethodName)) ∈ wd := wd_t (List.mem_of_getElem? (i := 344) (by decide +kernel)) rfl
theorem k_345 : (Jvm.Cond.code ({ cls := "LeastSolutions$Text", name := "put", desc := "(JI)Z" } : Jvm.MethodName) prog_8_method_2_code (5 : Nat) (Option.some Jvm.ClassFile.FieldType.boolean)) ∈ wd := wd_t (List.mem_of_getElem? (i := 345) (by decide +kernel)) rfl
theorem k_346 : (Jvm.Cond.methodLink "LeastSolutions$Text" (19 : Nat) ({ cls := "LeastSolutions$Text", name := "areTypable", desc := "(JI)Z" } : Jvm.MethodName)) ∈ wd := wd_t (List.mem_of_getElem? (i := 346) (by decide +kernel)) rfl
theorem k_347 : (Jvm.Cond.static ({ cls := "LeastSolutions$Text", name := "areTypable", desc := "(JI)Z" } : Jvm.MethodName)) ∈ wd := wd_t (List.mem_of_getElem? (i := 347) (by decide +kernel)) rfl
theorem k_348 : (Jvm.Cond.code ({ cls := "LeastSolutions$Text", name := "areTypable", desc := "(JI)Z" } : Jvm.MethodName) prog_8_method_3_code (5 : Nat) (Option.some Jvm.ClassFile.FieldType.boolean)) ∈ wd := wd_t (List.mem_of_getElem? (i := 348) (by decide +kernel)) rfl
theorem k_349 : (Jvm.Cond.methodLink "LeastSolutions$Text" (23 : Nat) ({ cls := "LeastSolutions$Text", name := "byteOf", desc := "(JI)I" } : Jvm.MethodName)) ∈ wd := wd_t (List.mem_of_getElem? (i := 349) (by decide +kernel)) rfl
theorem k_350 : (Jvm.Cond.static ({ cls := "LeastSolutions$Text", name := "byteOf", desc := "(JI)I" } : Jvm.MethodName)) ∈ wd := wd_t (List.mem_of_getElem? (i := 350) (by decide +kernel)) rfl
theorem k_351 : (Jvm.Cond.code ({ cls := "LeastSolutions$Text", name := "byteOf", desc := "(JI)I" } : Jvm.MethodName) prog_8_method_4_code (3 : Nat) (Option.some Jvm.ClassFile.FieldType.int)) ∈ wd := wd_t (List.mem_of_getElem? (i := 351) (by decide +kernel)) rfl
theorem k_1000 : (Jvm.Cond.methodLink "LeastSolutionsLaw" (63 : Nat) ({ cls := "LeastSolutionsModel", name := "type", desc := "(JI)I" } : Jvm.MethodName)) ∈ wd := wd_t (List.mem_of_getElem? (i := 1000) (by decide +kernel)) rfl
theorem k_1001 : (Jvm.Cond.instanceMethod ({ cls := "LeastSolutionsModel", name := "type", desc := "(JI)I" } : Jvm.MethodName)) ∈ wd := wd_t (List.mem_of_getElem? (i := 1001) (by decide +kernel)) rfl
theorem k_1002 : (Jvm.Cond.selects "LeastSolutionsModel" ({ cls := "LeastSolutionsModel", name := "type", desc := "(JI)I" } : Jvm.MethodName) ({ cls := "LeastSolutionsModel", name := "type", desc := "(JI)I" } : Jvm.MethodName)) ∈ wd := wd_t (List.mem_of_getElem? (i := 1002) (by decide +kernel)) rfl
theorem k_1003 : (Jvm.Cond.code ({ cls := "LeastSolutionsModel", name := "type", desc := "(JI)I" } : Jvm.MethodName) prog_12_method_3_code (8 : Nat) (Option.some Jvm.ClassFile.FieldType.int)) ∈ wd := wd_t (List.mem_of_getElem? (i := 1003) (by decide +kernel)) rfl
theorem k_1004 : (Jvm.Cond.constantLong "LeastSolutionsModel" (87 : Nat) (255 : Int64)) ∈ wd := wd_t (List.mem_of_getElem? (i := 1004) (by decide +kernel)) rfl
theorem k_1005 : (Jvm.Cond.constantLong "LeastSolutionsModel" (89 : Nat) (32 : Int64)) ∈ wd := wd_t (List.mem_of_getElem? (i := 1005) (by decide +kernel)) rfl
theorem k_1006 : (Jvm.Cond.constantLong "LeastSolutionsModel" (91 : Nat) (126 : Int64)) ∈ wd := wd_t (List.mem_of_getElem? (i := 1006) (by decide +kernel)) rfl
theorem k_1190 : (Jvm.Cond.constantLong "LeastSolutionsLaw" (57 : Nat) (4294967295 : Int64)) ∈ wd := wd_t (List.mem_of_getElem? (i := 1190) (by decide +kernel)) rfl
abbrev y_LS_type : MethodName := ⟨"LeastSolutions", "type", "(JI)I"⟩
abbrev b_LS_type : ByteArray := prog_1_method_2_code
abbrev y_MO_type : MethodName := ⟨"LeastSolutionsModel", "type", "(JI)I"⟩
abbrev b_MO_type : ByteArray := prog_12_method_3_code
abbrev y_TX_areTypable : MethodName := ⟨"LeastSolutions$Text", "areTypable", "(JI)Z"⟩
abbrev b_TX_areTypable : ByteArray := prog_8_method_3_code
abbrev y_TX_byteOf : MethodName := ⟨"LeastSolutions$Text", "byteOf", "(JI)I"⟩
abbrev b_TX_byteOf : ByteArray := prog_8_method_4_code
abbrev y_TX_put : MethodName := ⟨"LeastSolutions$Text", "put", "(JI)Z"⟩
abbrev b_TX_put : ByteArray := prog_8_method_2_code
theorem d_LS_type_0 : decode b_LS_type 0 = .ok (.aload_n 0, 1) := by decide +kernel
theorem d_LS_type_1 : decode b_LS_type 1 = .ok (.getfield 10, 3) := by decide +kernel
theorem d_LS_type_4 : decode b_LS_type 4 = .ok (.lload_n 1, 1) := by decide +kernel
theorem d_LS_type_5 : decode b_LS_type 5 = .ok (.iload_n 3, 1) := by decide +kernel
theorem d_LS_type_6 : decode b_LS_type 6 = .ok (.invokevirtual 92, 3) := by decide +kernel
theorem d_LS_type_9 : decode b_LS_type 9 = .ok (.ifCond .eq 13, 3) := by decide +kernel
theorem d_LS_type_12 : decode b_LS_type 12 = .ok (.aload_n 0, 1) := by decide +kernel
theorem d_LS_type_13 : decode b_LS_type 13 = .ok (.getfield 10, 3) := by decide +kernel
theorem d_LS_type_16 : decode b_LS_type 16 = .ok (.getfield 96, 3) := by decide +kernel
theorem d_LS_type_19 : decode b_LS_type 19 = .ok (.goto 4, 3) := by decide +kernel
theorem d_LS_type_22 : decode b_LS_type 22 = .ok (.iconst (-1), 1) := by decide +kernel
theorem d_LS_type_23 : decode b_LS_type 23 = .ok (.ireturn, 1) := by decide +kernel
theorem d_LW_law_124 : decode b_LW_law 124 = .ok (.aload_n 1, 1) := by decide +kernel
theorem d_LW_law_125 : decode b_LW_law 125 = .ok (.aload_n 0, 1) := by decide +kernel
theorem d_LW_law_126 : decode b_LW_law 126 = .ok (.iload 4, 2) := by decide +kernel
theorem d_LW_law_128 : decode b_LW_law 128 = .ok (.iconst 1, 1) := by decide +kernel
theorem d_LW_law_129 : decode b_LW_law 129 = .ok (.iadd, 1) := by decide +kernel
theorem d_LW_law_130 : decode b_LW_law 130 = .ok (.iaload, 1) := by decide +kernel
theorem d_LW_law_131 : decode b_LW_law 131 = .ok (.i2l, 1) := by decide +kernel
theorem d_LW_law_132 : decode b_LW_law 132 = .ok (.bipush 32, 2) := by decide +kernel
theorem d_LW_law_134 : decode b_LW_law 134 = .ok (.lshl, 1) := by decide +kernel
theorem d_LW_law_135 : decode b_LW_law 135 = .ok (.aload_n 0, 1) := by decide +kernel
theorem d_LW_law_136 : decode b_LW_law 136 = .ok (.iload 4, 2) := by decide +kernel
theorem d_LW_law_138 : decode b_LW_law 138 = .ok (.iconst 2, 1) := by decide +kernel
theorem d_LW_law_139 : decode b_LW_law 139 = .ok (.iadd, 1) := by decide +kernel
theorem d_LW_law_140 : decode b_LW_law 140 = .ok (.iaload, 1) := by decide +kernel
theorem d_LW_law_141 : decode b_LW_law 141 = .ok (.i2l, 1) := by decide +kernel
theorem d_LW_law_142 : decode b_LW_law 142 = .ok (.ldc2_w 57, 3) := by decide +kernel
theorem d_LW_law_145 : decode b_LW_law 145 = .ok (.land, 1) := by decide +kernel
theorem d_LW_law_146 : decode b_LW_law 146 = .ok (.lor, 1) := by decide +kernel
theorem d_LW_law_147 : decode b_LW_law 147 = .ok (.aload_n 0, 1) := by decide +kernel
theorem d_LW_law_148 : decode b_LW_law 148 = .ok (.iload 4, 2) := by decide +kernel
theorem d_LW_law_150 : decode b_LW_law 150 = .ok (.iconst 3, 1) := by decide +kernel
theorem d_LW_law_151 : decode b_LW_law 151 = .ok (.iadd, 1) := by decide +kernel
theorem d_LW_law_152 : decode b_LW_law 152 = .ok (.iaload, 1) := by decide +kernel
theorem d_LW_law_153 : decode b_LW_law 153 = .ok (.invokevirtual 59, 3) := by decide +kernel
theorem d_LW_law_156 : decode b_LW_law 156 = .ok (.aload_n 2, 1) := by decide +kernel
theorem d_LW_law_157 : decode b_LW_law 157 = .ok (.aload_n 0, 1) := by decide +kernel
theorem d_LW_law_158 : decode b_LW_law 158 = .ok (.iload 4, 2) := by decide +kernel
theorem d_LW_law_160 : decode b_LW_law 160 = .ok (.iconst 1, 1) := by decide +kernel
theorem d_LW_law_161 : decode b_LW_law 161 = .ok (.iadd, 1) := by decide +kernel
theorem d_LW_law_162 : decode b_LW_law 162 = .ok (.iaload, 1) := by decide +kernel
theorem d_LW_law_163 : decode b_LW_law 163 = .ok (.i2l, 1) := by decide +kernel
theorem d_LW_law_164 : decode b_LW_law 164 = .ok (.bipush 32, 2) := by decide +kernel
theorem d_LW_law_166 : decode b_LW_law 166 = .ok (.lshl, 1) := by decide +kernel
theorem d_LW_law_167 : decode b_LW_law 167 = .ok (.aload_n 0, 1) := by decide +kernel
theorem d_LW_law_168 : decode b_LW_law 168 = .ok (.iload 4, 2) := by decide +kernel
theorem d_LW_law_170 : decode b_LW_law 170 = .ok (.iconst 2, 1) := by decide +kernel
theorem d_LW_law_171 : decode b_LW_law 171 = .ok (.iadd, 1) := by decide +kernel
theorem d_LW_law_172 : decode b_LW_law 172 = .ok (.iaload, 1) := by decide +kernel
theorem d_LW_law_173 : decode b_LW_law 173 = .ok (.i2l, 1) := by decide +kernel
theorem d_LW_law_174 : decode b_LW_law 174 = .ok (.ldc2_w 57, 3) := by decide +kernel
theorem d_LW_law_177 : decode b_LW_law 177 = .ok (.land, 1) := by decide +kernel
theorem d_LW_law_178 : decode b_LW_law 178 = .ok (.lor, 1) := by decide +kernel
theorem d_LW_law_179 : decode b_LW_law 179 = .ok (.aload_n 0, 1) := by decide +kernel
theorem d_LW_law_180 : decode b_LW_law 180 = .ok (.iload 4, 2) := by decide +kernel
theorem d_LW_law_182 : decode b_LW_law 182 = .ok (.iconst 3, 1) := by decide +kernel
theorem d_LW_law_183 : decode b_LW_law 183 = .ok (.iadd, 1) := by decide +kernel
theorem d_LW_law_184 : decode b_LW_law 184 = .ok (.iaload, 1) := by decide +kernel
theorem d_LW_law_185 : decode b_LW_law 185 = .ok (.invokevirtual 63, 3) := by decide +kernel
theorem d_LW_law_188 : decode b_LW_law 188 = .ok (.if_icmp .eq 711, 3) := by decide +kernel
theorem d_MO_type_0 : decode b_MO_type 0 = .ok (.aload_n 0, 1) := by decide +kernel
theorem d_MO_type_1 : decode b_MO_type 1 = .ok (.iconst 0, 1) := by decide +kernel
theorem d_MO_type_2 : decode b_MO_type 2 = .ok (.putfield 81, 3) := by decide +kernel
theorem d_MO_type_5 : decode b_MO_type 5 = .ok (.iload_n 3, 1) := by decide +kernel
theorem d_MO_type_6 : decode b_MO_type 6 = .ok (.iconst 1, 1) := by decide +kernel
theorem d_MO_type_7 : decode b_MO_type 7 = .ok (.if_icmp .lt 25, 3) := by decide +kernel
theorem d_MO_type_10 : decode b_MO_type 10 = .ok (.iload_n 3, 1) := by decide +kernel
theorem d_MO_type_11 : decode b_MO_type 11 = .ok (.bipush 8, 2) := by decide +kernel
theorem d_MO_type_13 : decode b_MO_type 13 = .ok (.if_icmp .gt 19, 3) := by decide +kernel
theorem d_MO_type_16 : decode b_MO_type 16 = .ok (.aload_n 0, 1) := by decide +kernel
theorem d_MO_type_17 : decode b_MO_type 17 = .ok (.getfield 84, 3) := by decide +kernel
theorem d_MO_type_20 : decode b_MO_type 20 = .ok (.iload_n 3, 1) := by decide +kernel
theorem d_MO_type_21 : decode b_MO_type 21 = .ok (.iadd, 1) := by decide +kernel
theorem d_MO_type_22 : decode b_MO_type 22 = .ok (.sipush 300, 3) := by decide +kernel
theorem d_MO_type_25 : decode b_MO_type 25 = .ok (.if_icmp .gt 7, 3) := by decide +kernel
theorem d_MO_type_28 : decode b_MO_type 28 = .ok (.iconst 1, 1) := by decide +kernel
theorem d_MO_type_29 : decode b_MO_type 29 = .ok (.goto 4, 3) := by decide +kernel
theorem d_MO_type_32 : decode b_MO_type 32 = .ok (.iconst 0, 1) := by decide +kernel
theorem d_MO_type_33 : decode b_MO_type 33 = .ok (.istore 4, 2) := by decide +kernel
theorem d_MO_type_35 : decode b_MO_type 35 = .ok (.iconst 0, 1) := by decide +kernel
theorem d_MO_type_36 : decode b_MO_type 36 = .ok (.istore 5, 2) := by decide +kernel
theorem d_MO_type_38 : decode b_MO_type 38 = .ok (.iload 4, 2) := by decide +kernel
theorem d_MO_type_40 : decode b_MO_type 40 = .ok (.ifCond .eq 53, 3) := by decide +kernel
theorem d_MO_type_43 : decode b_MO_type 43 = .ok (.iload 5, 2) := by decide +kernel
theorem d_MO_type_45 : decode b_MO_type 45 = .ok (.iload_n 3, 1) := by decide +kernel
theorem d_MO_type_46 : decode b_MO_type 46 = .ok (.if_icmp .ge 47, 3) := by decide +kernel
theorem d_MO_type_49 : decode b_MO_type 49 = .ok (.lload_n 1, 1) := by decide +kernel
theorem d_MO_type_50 : decode b_MO_type 50 = .ok (.bipush 8, 2) := by decide +kernel
theorem d_MO_type_52 : decode b_MO_type 52 = .ok (.iload 5, 2) := by decide +kernel
theorem d_MO_type_54 : decode b_MO_type 54 = .ok (.imul, 1) := by decide +kernel
theorem d_MO_type_55 : decode b_MO_type 55 = .ok (.lshr, 1) := by decide +kernel
theorem d_MO_type_56 : decode b_MO_type 56 = .ok (.ldc2_w 87, 3) := by decide +kernel
theorem d_MO_type_59 : decode b_MO_type 59 = .ok (.land, 1) := by decide +kernel
theorem d_MO_type_60 : decode b_MO_type 60 = .ok (.lstore 6, 2) := by decide +kernel
theorem d_MO_type_62 : decode b_MO_type 62 = .ok (.lload 6, 2) := by decide +kernel
theorem d_MO_type_64 : decode b_MO_type 64 = .ok (.ldc2_w 89, 3) := by decide +kernel
theorem d_MO_type_67 : decode b_MO_type 67 = .ok (.lcmp, 1) := by decide +kernel
theorem d_MO_type_68 : decode b_MO_type 68 = .ok (.ifCond .lt 16, 3) := by decide +kernel
theorem d_MO_type_71 : decode b_MO_type 71 = .ok (.lload 6, 2) := by decide +kernel
theorem d_MO_type_73 : decode b_MO_type 73 = .ok (.ldc2_w 91, 3) := by decide +kernel
theorem d_MO_type_76 : decode b_MO_type 76 = .ok (.lcmp, 1) := by decide +kernel
theorem d_MO_type_77 : decode b_MO_type 77 = .ok (.ifCond .gt 7, 3) := by decide +kernel
theorem d_MO_type_80 : decode b_MO_type 80 = .ok (.iconst 1, 1) := by decide +kernel
theorem d_MO_type_81 : decode b_MO_type 81 = .ok (.goto 4, 3) := by decide +kernel
theorem d_MO_type_84 : decode b_MO_type 84 = .ok (.iconst 0, 1) := by decide +kernel
theorem d_MO_type_85 : decode b_MO_type 85 = .ok (.istore 4, 2) := by decide +kernel
theorem d_MO_type_87 : decode b_MO_type 87 = .ok (.iinc 5 1, 3) := by decide +kernel
theorem d_MO_type_90 : decode b_MO_type 90 = .ok (.goto (-52), 3) := by decide +kernel
theorem d_MO_type_93 : decode b_MO_type 93 = .ok (.iload 4, 2) := by decide +kernel
theorem d_MO_type_95 : decode b_MO_type 95 = .ok (.ifCond .ne 5, 3) := by decide +kernel
theorem d_MO_type_98 : decode b_MO_type 98 = .ok (.iconst (-1), 1) := by decide +kernel
theorem d_MO_type_99 : decode b_MO_type 99 = .ok (.ireturn, 1) := by decide +kernel
theorem d_MO_type_100 : decode b_MO_type 100 = .ok (.iload_n 3, 1) := by decide +kernel
theorem d_MO_type_101 : decode b_MO_type 101 = .ok (.iconst 1, 1) := by decide +kernel
theorem d_MO_type_102 : decode b_MO_type 102 = .ok (.isub, 1) := by decide +kernel
theorem d_MO_type_103 : decode b_MO_type 103 = .ok (.istore 5, 2) := by decide +kernel
theorem d_MO_type_105 : decode b_MO_type 105 = .ok (.iload 5, 2) := by decide +kernel
theorem d_MO_type_107 : decode b_MO_type 107 = .ok (.ifCond .lt 40, 3) := by decide +kernel
theorem d_MO_type_110 : decode b_MO_type 110 = .ok (.aload_n 0, 1) := by decide +kernel
theorem d_MO_type_111 : decode b_MO_type 111 = .ok (.getfield 7, 3) := by decide +kernel
theorem d_MO_type_114 : decode b_MO_type 114 = .ok (.aload_n 0, 1) := by decide +kernel
theorem d_MO_type_115 : decode b_MO_type 115 = .ok (.getfield 84, 3) := by decide +kernel
theorem d_MO_type_118 : decode b_MO_type 118 = .ok (.lload_n 1, 1) := by decide +kernel
theorem d_MO_type_119 : decode b_MO_type 119 = .ok (.bipush 8, 2) := by decide +kernel
theorem d_MO_type_121 : decode b_MO_type 121 = .ok (.iload 5, 2) := by decide +kernel
theorem d_MO_type_123 : decode b_MO_type 123 = .ok (.imul, 1) := by decide +kernel
theorem d_MO_type_124 : decode b_MO_type 124 = .ok (.lshr, 1) := by decide +kernel
theorem d_MO_type_125 : decode b_MO_type 125 = .ok (.ldc2_w 87, 3) := by decide +kernel
theorem d_MO_type_128 : decode b_MO_type 128 = .ok (.land, 1) := by decide +kernel
theorem d_MO_type_129 : decode b_MO_type 129 = .ok (.l2i, 1) := by decide +kernel
theorem d_MO_type_130 : decode b_MO_type 130 = .ok (.iastore, 1) := by decide +kernel
theorem d_MO_type_131 : decode b_MO_type 131 = .ok (.aload_n 0, 1) := by decide +kernel
theorem d_MO_type_132 : decode b_MO_type 132 = .ok (.dup, 1) := by decide +kernel
theorem d_MO_type_133 : decode b_MO_type 133 = .ok (.getfield 84, 3) := by decide +kernel
theorem d_MO_type_136 : decode b_MO_type 136 = .ok (.iconst 1, 1) := by decide +kernel
theorem d_MO_type_137 : decode b_MO_type 137 = .ok (.iadd, 1) := by decide +kernel
theorem d_MO_type_138 : decode b_MO_type 138 = .ok (.putfield 84, 3) := by decide +kernel
theorem d_MO_type_141 : decode b_MO_type 141 = .ok (.iinc 5 (-1), 3) := by decide +kernel
theorem d_MO_type_144 : decode b_MO_type 144 = .ok (.goto (-39), 3) := by decide +kernel
theorem d_MO_type_147 : decode b_MO_type 147 = .ok (.aload_n 0, 1) := by decide +kernel
theorem d_MO_type_148 : decode b_MO_type 148 = .ok (.getfield 84, 3) := by decide +kernel
theorem d_MO_type_151 : decode b_MO_type 151 = .ok (.ireturn, 1) := by decide +kernel
theorem d_TX_areTypable_0 : decode b_TX_areTypable 0 = .ok (.iconst 0, 1) := by decide +kernel
theorem d_TX_areTypable_1 : decode b_TX_areTypable 1 = .ok (.istore_n 3, 1) := by decide +kernel
theorem d_TX_areTypable_2 : decode b_TX_areTypable 2 = .ok (.iload_n 3, 1) := by decide +kernel
theorem d_TX_areTypable_3 : decode b_TX_areTypable 3 = .ok (.iload_n 2, 1) := by decide +kernel
theorem d_TX_areTypable_4 : decode b_TX_areTypable 4 = .ok (.if_icmp .ge 32, 3) := by decide +kernel
theorem d_TX_areTypable_7 : decode b_TX_areTypable 7 = .ok (.lload_n 0, 1) := by decide +kernel
theorem d_TX_areTypable_8 : decode b_TX_areTypable 8 = .ok (.iload_n 3, 1) := by decide +kernel
theorem d_TX_areTypable_9 : decode b_TX_areTypable 9 = .ok (.invokestatic 23, 3) := by decide +kernel
theorem d_TX_areTypable_12 : decode b_TX_areTypable 12 = .ok (.istore 4, 2) := by decide +kernel
theorem d_TX_areTypable_14 : decode b_TX_areTypable 14 = .ok (.iload 4, 2) := by decide +kernel
theorem d_TX_areTypable_16 : decode b_TX_areTypable 16 = .ok (.bipush 32, 2) := by decide +kernel
theorem d_TX_areTypable_18 : decode b_TX_areTypable 18 = .ok (.if_icmp .lt 10, 3) := by decide +kernel
theorem d_TX_areTypable_21 : decode b_TX_areTypable 21 = .ok (.iload 4, 2) := by decide +kernel
theorem d_TX_areTypable_23 : decode b_TX_areTypable 23 = .ok (.bipush 126, 2) := by decide +kernel
theorem d_TX_areTypable_25 : decode b_TX_areTypable 25 = .ok (.if_icmp .le 5, 3) := by decide +kernel
theorem d_TX_areTypable_28 : decode b_TX_areTypable 28 = .ok (.iconst 0, 1) := by decide +kernel
theorem d_TX_areTypable_29 : decode b_TX_areTypable 29 = .ok (.ireturn, 1) := by decide +kernel
theorem d_TX_areTypable_30 : decode b_TX_areTypable 30 = .ok (.iinc 3 1, 3) := by decide +kernel
theorem d_TX_areTypable_33 : decode b_TX_areTypable 33 = .ok (.goto (-31), 3) := by decide +kernel
theorem d_TX_areTypable_36 : decode b_TX_areTypable 36 = .ok (.iconst 1, 1) := by decide +kernel
theorem d_TX_areTypable_37 : decode b_TX_areTypable 37 = .ok (.ireturn, 1) := by decide +kernel
theorem d_TX_byteOf_0 : decode b_TX_byteOf 0 = .ok (.lload_n 0, 1) := by decide +kernel
theorem d_TX_byteOf_1 : decode b_TX_byteOf 1 = .ok (.bipush 8, 2) := by decide +kernel
theorem d_TX_byteOf_3 : decode b_TX_byteOf 3 = .ok (.iload_n 2, 1) := by decide +kernel
theorem d_TX_byteOf_4 : decode b_TX_byteOf 4 = .ok (.imul, 1) := by decide +kernel
theorem d_TX_byteOf_5 : decode b_TX_byteOf 5 = .ok (.lushr, 1) := by decide +kernel
theorem d_TX_byteOf_6 : decode b_TX_byteOf 6 = .ok (.l2i, 1) := by decide +kernel
theorem d_TX_byteOf_7 : decode b_TX_byteOf 7 = .ok (.sipush 255, 3) := by decide +kernel
theorem d_TX_byteOf_10 : decode b_TX_byteOf 10 = .ok (.iand, 1) := by decide +kernel
theorem d_TX_byteOf_11 : decode b_TX_byteOf 11 = .ok (.ireturn, 1) := by decide +kernel
theorem d_TX_put_0 : decode b_TX_put 0 = .ok (.iload_n 3, 1) := by decide +kernel
theorem d_TX_put_1 : decode b_TX_put 1 = .ok (.iconst 1, 1) := by decide +kernel
theorem d_TX_put_2 : decode b_TX_put 2 = .ok (.if_icmp .lt 29, 3) := by decide +kernel
theorem d_TX_put_5 : decode b_TX_put 5 = .ok (.iload_n 3, 1) := by decide +kernel
theorem d_TX_put_6 : decode b_TX_put 6 = .ok (.bipush 8, 2) := by decide +kernel
theorem d_TX_put_8 : decode b_TX_put 8 = .ok (.if_icmp .gt 23, 3) := by decide +kernel
theorem d_TX_put_11 : decode b_TX_put 11 = .ok (.aload_n 0, 1) := by decide +kernel
theorem d_TX_put_12 : decode b_TX_put 12 = .ok (.getfield 15, 3) := by decide +kernel
theorem d_TX_put_15 : decode b_TX_put 15 = .ok (.iload_n 3, 1) := by decide +kernel
theorem d_TX_put_16 : decode b_TX_put 16 = .ok (.iadd, 1) := by decide +kernel
theorem d_TX_put_17 : decode b_TX_put 17 = .ok (.sipush 300, 3) := by decide +kernel
theorem d_TX_put_20 : decode b_TX_put 20 = .ok (.if_icmp .gt 11, 3) := by decide +kernel
theorem d_TX_put_23 : decode b_TX_put 23 = .ok (.lload_n 1, 1) := by decide +kernel
theorem d_TX_put_24 : decode b_TX_put 24 = .ok (.iload_n 3, 1) := by decide +kernel
theorem d_TX_put_25 : decode b_TX_put 25 = .ok (.invokestatic 19, 3) := by decide +kernel
theorem d_TX_put_28 : decode b_TX_put 28 = .ok (.ifCond .ne 5, 3) := by decide +kernel
theorem d_TX_put_31 : decode b_TX_put 31 = .ok (.iconst 0, 1) := by decide +kernel
theorem d_TX_put_32 : decode b_TX_put 32 = .ok (.ireturn, 1) := by decide +kernel
theorem d_TX_put_33 : decode b_TX_put 33 = .ok (.iload_n 3, 1) := by decide +kernel
theorem d_TX_put_34 : decode b_TX_put 34 = .ok (.iconst 1, 1) := by decide +kernel
theorem d_TX_put_35 : decode b_TX_put 35 = .ok (.isub, 1) := by decide +kernel
theorem d_TX_put_36 : decode b_TX_put 36 = .ok (.istore 4, 2) := by decide +kernel
theorem d_TX_put_38 : decode b_TX_put 38 = .ok (.iload 4, 2) := by decide +kernel
theorem d_TX_put_40 : decode b_TX_put 40 = .ok (.ifCond .lt 35, 3) := by decide +kernel
theorem d_TX_put_43 : decode b_TX_put 43 = .ok (.aload_n 0, 1) := by decide +kernel
theorem d_TX_put_44 : decode b_TX_put 44 = .ok (.getfield 9, 3) := by decide +kernel
theorem d_TX_put_47 : decode b_TX_put 47 = .ok (.aload_n 0, 1) := by decide +kernel
theorem d_TX_put_48 : decode b_TX_put 48 = .ok (.getfield 15, 3) := by decide +kernel
theorem d_TX_put_51 : decode b_TX_put 51 = .ok (.lload_n 1, 1) := by decide +kernel
theorem d_TX_put_52 : decode b_TX_put 52 = .ok (.iload 4, 2) := by decide +kernel
theorem d_TX_put_54 : decode b_TX_put 54 = .ok (.invokestatic 23, 3) := by decide +kernel
theorem d_TX_put_57 : decode b_TX_put 57 = .ok (.i2b, 1) := by decide +kernel
theorem d_TX_put_58 : decode b_TX_put 58 = .ok (.bastore, 1) := by decide +kernel
theorem d_TX_put_59 : decode b_TX_put 59 = .ok (.aload_n 0, 1) := by decide +kernel
theorem d_TX_put_60 : decode b_TX_put 60 = .ok (.dup, 1) := by decide +kernel
theorem d_TX_put_61 : decode b_TX_put 61 = .ok (.getfield 15, 3) := by decide +kernel
theorem d_TX_put_64 : decode b_TX_put 64 = .ok (.iconst 1, 1) := by decide +kernel
theorem d_TX_put_65 : decode b_TX_put 65 = .ok (.iadd, 1) := by decide +kernel
theorem d_TX_put_66 : decode b_TX_put 66 = .ok (.putfield 15, 3) := by decide +kernel
theorem d_TX_put_69 : decode b_TX_put 69 = .ok (.iinc 4 (-1), 3) := by decide +kernel
theorem d_TX_put_72 : decode b_TX_put 72 = .ok (.goto (-34), 3) := by decide +kernel
theorem d_TX_put_75 : decode b_TX_put 75 = .ok (.iconst 1, 1) := by decide +kernel
theorem d_TX_put_76 : decode b_TX_put 76 = .ok (.ireturn, 1) := by decide +kernel
