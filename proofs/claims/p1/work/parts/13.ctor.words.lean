theorem k_2 : (Jvm.Cond.initialized "LeastSolutions$Text") ∈ wd := wd_t (List.mem_of_getElem? (i := 2) (by decide +kernel)) rfl
theorem k_3 : (Jvm.Cond.initialized "LeastSolutions$Words") ∈ wd := wd_t (List.mem_of_getElem? (i := 3) (by decide +kernel)) rfl
theorem k_4 : (Jvm.Cond.initialized "LeastSolutions$Builder") ∈ wd := wd_t (List.mem_of_getElem? (i := 4) (by decide +kernel)) rfl
theorem k_6 : (Jvm.Cond.initialized "LeastSolutions$Lattice") ∈ wd := wd_t (List.mem_of_getElem? (i := 6) (by decide +kernel)) rfl
theorem k_7 : (Jvm.Cond.initialized "LeastSolutions$Search") ∈ wd := wd_t (List.mem_of_getElem? (i := 7) (by decide +kernel)) rfl
theorem k_8 : (Jvm.Cond.initialized "LeastSolutions$Taker") ∈ wd := wd_t (List.mem_of_getElem? (i := 8) (by decide +kernel)) rfl
theorem k_9 : (Jvm.Cond.initialized "LeastSolutions$Cheapest") ∈ wd := wd_t (List.mem_of_getElem? (i := 9) (by decide +kernel)) rfl
theorem k_27 : (Jvm.Cond.methodLink "LeastSolutions" (1 : Nat) ({ cls := "java/lang/Object", name := "<init>", desc := "()V" } : Jvm.MethodName)) ∈ wd := wd_t (List.mem_of_getElem? (i := 27) (by decide +kernel)) rfl
theorem k_30 : (Jvm.Cond.classLink "LeastSolutions" (7 : Nat) "LeastSolutions$Text") ∈ wd := wd_t (List.mem_of_getElem? (i := 30) (by decide +kernel)) rfl
theorem k_31 : (Jvm.Cond.instantiable "LeastSolutions$Text" (2 : Nat)) ∈ wd := wd_t (List.mem_of_getElem? (i := 31) (by decide +kernel)) rfl
theorem k_33 : (Jvm.Cond.instanceMethod ({ cls := "LeastSolutions$Text", name := "<init>", desc := "()V" } : Jvm.MethodName)) ∈ wd := wd_t (List.mem_of_getElem? (i := 33) (by decide +kernel)) rfl
theorem k_34 : (Jvm.Cond.code ({ cls := "LeastSolutions$Text", name := "<init>", desc := "()V" } : Jvm.MethodName) prog_8_method_1_code (1 : Nat) (Option.none : Option Jvm.ClassFile.FieldType)) ∈ wd := wd_t (List.mem_of_getElem? (i := 34) (by decide +kernel)) rfl
theorem k_35 : (Jvm.Cond.methodLink "LeastSolutions$Text" (3 : Nat) ({ cls := "java/lang/Object", name := "<init>", desc := "()V" } : Jvm.MethodName)) ∈ wd := wd_t (List.mem_of_getElem? (i := 35) (by decide +kernel)) rfl
theorem k_36 : (Jvm.Cond.fieldLink "LeastSolutions$Text" (9 : Nat) "LeastSolutions$Text" "characters" "[B") ∈ wd := wd_t (List.mem_of_getElem? (i := 36) (by decide +kernel)) rfl
theorem k_37 : (Jvm.Cond.fieldLink "LeastSolutions$Text" (15 : Nat) "LeastSolutions$Text" "length" "I") ∈ wd := wd_t (List.mem_of_getElem? (i := 37) (by decide +kernel)) rfl
theorem k_45 : (Jvm.Cond.arrayClass Jvm.ClassFile.FieldType.byte) ∈ wd := wd_t (List.mem_of_getElem? (i := 45) (by decide +kernel)) rfl
theorem k_46 : (Jvm.Cond.classLink "LeastSolutions" (16 : Nat) "LeastSolutions$Words") ∈ wd := wd_t (List.mem_of_getElem? (i := 46) (by decide +kernel)) rfl
theorem k_47 : (Jvm.Cond.instantiable "LeastSolutions$Words" (7 : Nat)) ∈ wd := wd_t (List.mem_of_getElem? (i := 47) (by decide +kernel)) rfl
theorem k_49 : (Jvm.Cond.instanceMethod ({ cls := "LeastSolutions$Words", name := "<init>", desc := "()V" } : Jvm.MethodName)) ∈ wd := wd_t (List.mem_of_getElem? (i := 49) (by decide +kernel)) rfl
theorem k_50 : (Jvm.Cond.code ({ cls := "LeastSolutions$Words", name := "<init>", desc := "()V" } : Jvm.MethodName) prog_10_method_1_code (1 : Nat) (Option.none : Option Jvm.ClassFile.FieldType)) ∈ wd := wd_t (List.mem_of_getElem? (i := 50) (by decide +kernel)) rfl
theorem k_51 : (Jvm.Cond.methodLink "LeastSolutions$Words" (3 : Nat) ({ cls := "java/lang/Object", name := "<init>", desc := "()V" } : Jvm.MethodName)) ∈ wd := wd_t (List.mem_of_getElem? (i := 51) (by decide +kernel)) rfl
theorem k_52 : (Jvm.Cond.fieldLink "LeastSolutions$Words" (9 : Nat) "LeastSolutions$Words" "kinds" "[I") ∈ wd := wd_t (List.mem_of_getElem? (i := 52) (by decide +kernel)) rfl
theorem k_54 : (Jvm.Cond.fieldLink "LeastSolutions$Words" (15 : Nat) "LeastSolutions$Words" "places" "[I") ∈ wd := wd_t (List.mem_of_getElem? (i := 54) (by decide +kernel)) rfl
theorem k_56 : (Jvm.Cond.fieldLink "LeastSolutions$Words" (18 : Nat) "LeastSolutions$Words" "values" "[I") ∈ wd := wd_t (List.mem_of_getElem? (i := 56) (by decide +kernel)) rfl
theorem k_58 : (Jvm.Cond.fieldLink "LeastSolutions$Words" (21 : Nat) "LeastSolutions$Words" "total" "I") ∈ wd := wd_t (List.mem_of_getElem? (i := 58) (by decide +kernel)) rfl
theorem k_60 : (Jvm.Cond.fieldLink "LeastSolutions$Words" (25 : Nat) "LeastSolutions$Words" "state" "I") ∈ wd := wd_t (List.mem_of_getElem? (i := 60) (by decide +kernel)) rfl
theorem k_61 : (Jvm.Cond.fieldLink "LeastSolutions$Words" (28 : Nat) "LeastSolutions$Words" "isRightSide" "Z") ∈ wd := wd_t (List.mem_of_getElem? (i := 61) (by decide +kernel)) rfl
theorem k_62 : (Jvm.Cond.fieldLink "LeastSolutions$Words" (32 : Nat) "LeastSolutions$Words" "faultPlace" "I") ∈ wd := wd_t (List.mem_of_getElem? (i := 62) (by decide +kernel)) rfl
theorem k_79 : (Jvm.Cond.arrayClass Jvm.ClassFile.FieldType.int) ∈ wd := wd_t (List.mem_of_getElem? (i := 79) (by decide +kernel)) rfl
theorem k_80 : (Jvm.Cond.classLink "LeastSolutions" (23 : Nat) "LeastSolutions$Builder") ∈ wd := wd_t (List.mem_of_getElem? (i := 80) (by decide +kernel)) rfl
theorem k_81 : (Jvm.Cond.instantiable "LeastSolutions$Builder" (8 : Nat)) ∈ wd := wd_t (List.mem_of_getElem? (i := 81) (by decide +kernel)) rfl
theorem k_83 : (Jvm.Cond.instanceMethod ({ cls := "LeastSolutions$Builder", name := "<init>", desc := "()V" } : Jvm.MethodName)) ∈ wd := wd_t (List.mem_of_getElem? (i := 83) (by decide +kernel)) rfl
theorem k_84 : (Jvm.Cond.code ({ cls := "LeastSolutions$Builder", name := "<init>", desc := "()V" } : Jvm.MethodName) prog_2_method_1_code (1 : Nat) (Option.none : Option Jvm.ClassFile.FieldType)) ∈ wd := wd_t (List.mem_of_getElem? (i := 84) (by decide +kernel)) rfl
theorem k_85 : (Jvm.Cond.methodLink "LeastSolutions$Builder" (3 : Nat) ({ cls := "java/lang/Object", name := "<init>", desc := "()V" } : Jvm.MethodName)) ∈ wd := wd_t (List.mem_of_getElem? (i := 85) (by decide +kernel)) rfl
theorem k_86 : (Jvm.Cond.classLink "LeastSolutions$Builder" (9 : Nat) "LeastSolutions$Equations") ∈ wd := wd_t (List.mem_of_getElem? (i := 86) (by decide +kernel)) rfl
theorem k_87 : (Jvm.Cond.instantiable "LeastSolutions$Equations" (8 : Nat)) ∈ wd := wd_t (List.mem_of_getElem? (i := 87) (by decide +kernel)) rfl
theorem k_89 : (Jvm.Cond.instanceMethod ({ cls := "LeastSolutions$Equations", name := "<init>", desc := "()V" } : Jvm.MethodName)) ∈ wd := wd_t (List.mem_of_getElem? (i := 89) (by decide +kernel)) rfl
theorem k_90 : (Jvm.Cond.code ({ cls := "LeastSolutions$Equations", name := "<init>", desc := "()V" } : Jvm.MethodName) prog_4_method_1_code (1 : Nat) (Option.none : Option Jvm.ClassFile.FieldType)) ∈ wd := wd_t (List.mem_of_getElem? (i := 90) (by decide +kernel)) rfl
theorem k_91 : (Jvm.Cond.methodLink "LeastSolutions$Equations" (3 : Nat) ({ cls := "java/lang/Object", name := "<init>", desc := "()V" } : Jvm.MethodName)) ∈ wd := wd_t (List.mem_of_getElem? (i := 91) (by decide +kernel)) rfl
theorem k_92 : (Jvm.Cond.classLink "LeastSolutions$Equations" (9 : Nat) "[[I") ∈ wd := wd_t (List.mem_of_getElem? (i := 92) (by decide +kernel)) rfl
theorem k_94 : (Jvm.Cond.fieldLink "LeastSolutions$Equations" (11 : Nat) "LeastSolutions$Equations" "a" "[[I") ∈ wd := wd_t (List.mem_of_getElem? (i := 94) (by decide +kernel)) rfl
theorem k_99 : (Jvm.Cond.fieldLink "LeastSolutions$Equations" (16 : Nat) "LeastSolutions$Equations" "b" "[I") ∈ wd := wd_t (List.mem_of_getElem? (i := 99) (by decide +kernel)) rfl
theorem k_104 : (Jvm.Cond.fieldLink "LeastSolutions$Equations" (20 : Nat) "LeastSolutions$Equations" "letters" "[I") ∈ wd := wd_t (List.mem_of_getElem? (i := 104) (by decide +kernel)) rfl
theorem k_106 : (Jvm.Cond.fieldLink "LeastSolutions$Equations" (23 : Nat) "LeastSolutions$Equations" "slackRows" "[I") ∈ wd := wd_t (List.mem_of_getElem? (i := 106) (by decide +kernel)) rfl
theorem k_107 : (Jvm.Cond.fieldLink "LeastSolutions$Equations" (26 : Nat) "LeastSolutions$Equations" "slackNumbers" "[I") ∈ wd := wd_t (List.mem_of_getElem? (i := 107) (by decide +kernel)) rfl
theorem k_108 : (Jvm.Cond.fieldLink "LeastSolutions$Equations" (29 : Nat) "LeastSolutions$Equations" "rows" "I") ∈ wd := wd_t (List.mem_of_getElem? (i := 108) (by decide +kernel)) rfl
theorem k_133 : (Jvm.Cond.fieldLink "LeastSolutions$Builder" (12 : Nat) "LeastSolutions$Builder" "result" "LLeastSolutions$Equations;") ∈ wd := wd_t (List.mem_of_getElem? (i := 133) (by decide +kernel)) rfl
theorem k_134 : (Jvm.Cond.fieldLink "LeastSolutions$Builder" (18 : Nat) "LeastSolutions$Builder" "row" "I") ∈ wd := wd_t (List.mem_of_getElem? (i := 134) (by decide +kernel)) rfl
theorem k_135 : (Jvm.Cond.fieldLink "LeastSolutions$Builder" (22 : Nat) "LeastSolutions$Builder" "side" "I") ∈ wd := wd_t (List.mem_of_getElem? (i := 135) (by decide +kernel)) rfl
theorem k_136 : (Jvm.Cond.fieldLink "LeastSolutions$Builder" (25 : Nat) "LeastSolutions$Builder" "sign" "I") ∈ wd := wd_t (List.mem_of_getElem? (i := 136) (by decide +kernel)) rfl
theorem k_137 : (Jvm.Cond.fieldLink "LeastSolutions$Builder" (28 : Nat) "LeastSolutions$Builder" "open" "I") ∈ wd := wd_t (List.mem_of_getElem? (i := 137) (by decide +kernel)) rfl
theorem k_138 : (Jvm.Cond.fieldLink "LeastSolutions$Builder" (33 : Nat) "LeastSolutions$Builder" "relation" "I") ∈ wd := wd_t (List.mem_of_getElem? (i := 138) (by decide +kernel)) rfl
theorem k_139 : (Jvm.Cond.fieldLink "LeastSolutions$Builder" (36 : Nat) "LeastSolutions$Builder" "relationPlace" "I") ∈ wd := wd_t (List.mem_of_getElem? (i := 139) (by decide +kernel)) rfl
theorem k_140 : (Jvm.Cond.fieldLink "LeastSolutions$Builder" (39 : Nat) "LeastSolutions$Builder" "faultPlace" "I") ∈ wd := wd_t (List.mem_of_getElem? (i := 140) (by decide +kernel)) rfl
theorem k_159 : (Jvm.Cond.classLink "LeastSolutions" (30 : Nat) "LeastSolutions$Lattice") ∈ wd := wd_t (List.mem_of_getElem? (i := 159) (by decide +kernel)) rfl
theorem k_160 : (Jvm.Cond.instantiable "LeastSolutions$Lattice" (9 : Nat)) ∈ wd := wd_t (List.mem_of_getElem? (i := 160) (by decide +kernel)) rfl
theorem k_162 : (Jvm.Cond.instanceMethod ({ cls := "LeastSolutions$Lattice", name := "<init>", desc := "()V" } : Jvm.MethodName)) ∈ wd := wd_t (List.mem_of_getElem? (i := 162) (by decide +kernel)) rfl
theorem k_163 : (Jvm.Cond.code ({ cls := "LeastSolutions$Lattice", name := "<init>", desc := "()V" } : Jvm.MethodName) prog_5_method_1_code (1 : Nat) (Option.none : Option Jvm.ClassFile.FieldType)) ∈ wd := wd_t (List.mem_of_getElem? (i := 163) (by decide +kernel)) rfl
theorem k_164 : (Jvm.Cond.methodLink "LeastSolutions$Lattice" (3 : Nat) ({ cls := "java/lang/Object", name := "<init>", desc := "()V" } : Jvm.MethodName)) ∈ wd := wd_t (List.mem_of_getElem? (i := 164) (by decide +kernel)) rfl
theorem k_165 : (Jvm.Cond.classLink "LeastSolutions$Lattice" (11 : Nat) "[[J") ∈ wd := wd_t (List.mem_of_getElem? (i := 165) (by decide +kernel)) rfl
theorem k_167 : (Jvm.Cond.fieldLink "LeastSolutions$Lattice" (13 : Nat) "LeastSolutions$Lattice" "basis" "[[J") ∈ wd := wd_t (List.mem_of_getElem? (i := 167) (by decide +kernel)) rfl
theorem k_168 : (Jvm.Cond.fieldLink "LeastSolutions$Lattice" (16 : Nat) "LeastSolutions$Lattice" "rowLeadingAt" "[I") ∈ wd := wd_t (List.mem_of_getElem? (i := 168) (by decide +kernel)) rfl
theorem k_169 : (Jvm.Cond.fieldLink "LeastSolutions$Lattice" (20 : Nat) "LeastSolutions$Lattice" "kernelRows" "[I") ∈ wd := wd_t (List.mem_of_getElem? (i := 169) (by decide +kernel)) rfl
theorem k_170 : (Jvm.Cond.fieldLink "LeastSolutions$Lattice" (23 : Nat) "LeastSolutions$Lattice" "target" "[J") ∈ wd := wd_t (List.mem_of_getElem? (i := 170) (by decide +kernel)) rfl
theorem k_171 : (Jvm.Cond.fieldLink "LeastSolutions$Lattice" (27 : Nat) "LeastSolutions$Lattice" "fresh" "[J") ∈ wd := wd_t (List.mem_of_getElem? (i := 171) (by decide +kernel)) rfl
theorem k_172 : (Jvm.Cond.fieldLink "LeastSolutions$Lattice" (30 : Nat) "LeastSolutions$Lattice" "kernelVectors" "I") ∈ wd := wd_t (List.mem_of_getElem? (i := 172) (by decide +kernel)) rfl
theorem k_174 : (Jvm.Cond.fieldLink "LeastSolutions$Lattice" (34 : Nat) "LeastSolutions$Lattice" "height" "I") ∈ wd := wd_t (List.mem_of_getElem? (i := 174) (by decide +kernel)) rfl
theorem k_175 : (Jvm.Cond.fieldLink "LeastSolutions$Lattice" (37 : Nat) "LeastSolutions$Lattice" "width" "I") ∈ wd := wd_t (List.mem_of_getElem? (i := 175) (by decide +kernel)) rfl
theorem k_176 : (Jvm.Cond.fieldLink "LeastSolutions$Lattice" (40 : Nat) "LeastSolutions$Lattice" "used" "I") ∈ wd := wd_t (List.mem_of_getElem? (i := 176) (by decide +kernel)) rfl
theorem k_196 : (Jvm.Cond.arrayClass Jvm.ClassFile.FieldType.long) ∈ wd := wd_t (List.mem_of_getElem? (i := 196) (by decide +kernel)) rfl
theorem k_197 : (Jvm.Cond.classLink "LeastSolutions" (37 : Nat) "LeastSolutions$Search") ∈ wd := wd_t (List.mem_of_getElem? (i := 197) (by decide +kernel)) rfl
theorem k_198 : (Jvm.Cond.instantiable "LeastSolutions$Search" (8 : Nat)) ∈ wd := wd_t (List.mem_of_getElem? (i := 198) (by decide +kernel)) rfl
theorem k_200 : (Jvm.Cond.instanceMethod ({ cls := "LeastSolutions$Search", name := "<init>", desc := "()V" } : Jvm.MethodName)) ∈ wd := wd_t (List.mem_of_getElem? (i := 200) (by decide +kernel)) rfl
theorem k_201 : (Jvm.Cond.code ({ cls := "LeastSolutions$Search", name := "<init>", desc := "()V" } : Jvm.MethodName) prog_6_method_1_code (1 : Nat) (Option.none : Option Jvm.ClassFile.FieldType)) ∈ wd := wd_t (List.mem_of_getElem? (i := 201) (by decide +kernel)) rfl
theorem k_202 : (Jvm.Cond.methodLink "LeastSolutions$Search" (3 : Nat) ({ cls := "java/lang/Object", name := "<init>", desc := "()V" } : Jvm.MethodName)) ∈ wd := wd_t (List.mem_of_getElem? (i := 202) (by decide +kernel)) rfl
theorem k_203 : (Jvm.Cond.classLink "LeastSolutions$Search" (18 : Nat) "[[I") ∈ wd := wd_t (List.mem_of_getElem? (i := 203) (by decide +kernel)) rfl
theorem k_204 : (Jvm.Cond.fieldLink "LeastSolutions$Search" (9 : Nat) "LeastSolutions$Search" "vector" "[I") ∈ wd := wd_t (List.mem_of_getElem? (i := 204) (by decide +kernel)) rfl
theorem k_205 : (Jvm.Cond.fieldLink "LeastSolutions$Search" (15 : Nat) "LeastSolutions$Search" "lack" "[I") ∈ wd := wd_t (List.mem_of_getElem? (i := 205) (by decide +kernel)) rfl
theorem k_206 : (Jvm.Cond.fieldLink "LeastSolutions$Search" (20 : Nat) "LeastSolutions$Search" "lowest" "[[I") ∈ wd := wd_t (List.mem_of_getElem? (i := 206) (by decide +kernel)) rfl
theorem k_207 : (Jvm.Cond.fieldLink "LeastSolutions$Search" (23 : Nat) "LeastSolutions$Search" "highest" "[[I") ∈ wd := wd_t (List.mem_of_getElem? (i := 207) (by decide +kernel)) rfl
theorem k_208 : (Jvm.Cond.fieldLink "LeastSolutions$Search" (26 : Nat) "LeastSolutions$Search" "a" "[[I") ∈ wd := wd_t (List.mem_of_getElem? (i := 208) (by decide +kernel)) rfl
theorem k_209 : (Jvm.Cond.fieldLink "LeastSolutions$Search" (29 : Nat) "LeastSolutions$Search" "rows" "I") ∈ wd := wd_t (List.mem_of_getElem? (i := 209) (by decide +kernel)) rfl
theorem k_210 : (Jvm.Cond.fieldLink "LeastSolutions$Search" (33 : Nat) "LeastSolutions$Search" "columns" "I") ∈ wd := wd_t (List.mem_of_getElem? (i := 210) (by decide +kernel)) rfl
theorem k_211 : (Jvm.Cond.fieldLink "LeastSolutions$Search" (36 : Nat) "LeastSolutions$Search" "isSigned" "Z") ∈ wd := wd_t (List.mem_of_getElem? (i := 211) (by decide +kernel)) rfl
theorem k_229 : (Jvm.Cond.classLink "LeastSolutions" (44 : Nat) "LeastSolutions$VectorList") ∈ wd := wd_t (List.mem_of_getElem? (i := 229) (by decide +kernel)) rfl
theorem k_231 : (Jvm.Cond.classLink "LeastSolutions" (50 : Nat) "LeastSolutions$Cheapest") ∈ wd := wd_t (List.mem_of_getElem? (i := 231) (by decide +kernel)) rfl
theorem k_232 : (Jvm.Cond.instantiable "LeastSolutions$Cheapest" (5 : Nat)) ∈ wd := wd_t (List.mem_of_getElem? (i := 232) (by decide +kernel)) rfl
theorem k_234 : (Jvm.Cond.instanceMethod ({ cls := "LeastSolutions$Cheapest", name := "<init>", desc := "()V" } : Jvm.MethodName)) ∈ wd := wd_t (List.mem_of_getElem? (i := 234) (by decide +kernel)) rfl
theorem k_235 : (Jvm.Cond.code ({ cls := "LeastSolutions$Cheapest", name := "<init>", desc := "()V" } : Jvm.MethodName) prog_3_method_1_code (1 : Nat) (Option.none : Option Jvm.ClassFile.FieldType)) ∈ wd := wd_t (List.mem_of_getElem? (i := 235) (by decide +kernel)) rfl
theorem k_237 : (Jvm.Cond.instanceMethod ({ cls := "LeastSolutions$Taker", name := "<init>", desc := "()V" } : Jvm.MethodName)) ∈ wd := wd_t (List.mem_of_getElem? (i := 237) (by decide +kernel)) rfl
theorem k_238 : (Jvm.Cond.code ({ cls := "LeastSolutions$Taker", name := "<init>", desc := "()V" } : Jvm.MethodName) prog_7_method_1_code (1 : Nat) (Option.none : Option Jvm.ClassFile.FieldType)) ∈ wd := wd_t (List.mem_of_getElem? (i := 238) (by decide +kernel)) rfl
theorem k_239 : (Jvm.Cond.methodLink "LeastSolutions$Taker" (1 : Nat) ({ cls := "java/lang/Object", name := "<init>", desc := "()V" } : Jvm.MethodName)) ∈ wd := wd_t (List.mem_of_getElem? (i := 239) (by decide +kernel)) rfl
theorem k_240 : (Jvm.Cond.fieldLink "LeastSolutions$Cheapest" (9 : Nat) "LeastSolutions$Cheapest" "vector" "[I") ∈ wd := wd_t (List.mem_of_getElem? (i := 240) (by decide +kernel)) rfl
theorem k_242 : (Jvm.Cond.fieldLink "LeastSolutions$Cheapest" (15 : Nat) "LeastSolutions$Cheapest" "costs" "[I") ∈ wd := wd_t (List.mem_of_getElem? (i := 242) (by decide +kernel)) rfl
theorem k_244 : (Jvm.Cond.fieldLink "LeastSolutions$Cheapest" (18 : Nat) "LeastSolutions$Cheapest" "columns" "I") ∈ wd := wd_t (List.mem_of_getElem? (i := 244) (by decide +kernel)) rfl
theorem k_245 : (Jvm.Cond.fieldLink "LeastSolutions$Cheapest" (22 : Nat) "LeastSolutions$Cheapest" "price" "I") ∈ wd := wd_t (List.mem_of_getElem? (i := 245) (by decide +kernel)) rfl
theorem k_247 : (Jvm.Cond.fieldLink "LeastSolutions$Cheapest" (25 : Nat) "LeastSolutions$Cheapest" "isFound" "Z") ∈ wd := wd_t (List.mem_of_getElem? (i := 247) (by decide +kernel)) rfl
theorem k_260 : (Jvm.Cond.classLink "LeastSolutions" (70 : Nat) "LeastSolutions$Equations") ∈ wd := wd_t (List.mem_of_getElem? (i := 260) (by decide +kernel)) rfl
theorem k_262 : (Jvm.Cond.instantiable "LeastSolutions$VectorList" (6 : Nat)) ∈ wd := wd_t (List.mem_of_getElem? (i := 262) (by decide +kernel)) rfl
theorem k_264 : (Jvm.Cond.instanceMethod ({ cls := "LeastSolutions$VectorList", name := "<init>", desc := "()V" } : Jvm.MethodName)) ∈ wd := wd_t (List.mem_of_getElem? (i := 264) (by decide +kernel)) rfl
theorem k_265 : (Jvm.Cond.code ({ cls := "LeastSolutions$VectorList", name := "<init>", desc := "()V" } : Jvm.MethodName) prog_9_method_1_code (1 : Nat) (Option.none : Option Jvm.ClassFile.FieldType)) ∈ wd := wd_t (List.mem_of_getElem? (i := 265) (by decide +kernel)) rfl
theorem k_267 : (Jvm.Cond.fieldLink "LeastSolutions$VectorList" (9 : Nat) "LeastSolutions$VectorList" "numbers" "[B") ∈ wd := wd_t (List.mem_of_getElem? (i := 267) (by decide +kernel)) rfl
theorem k_270 : (Jvm.Cond.fieldLink "LeastSolutions$VectorList" (19 : Nat) "LeastSolutions$VectorList" "columns" "I") ∈ wd := wd_t (List.mem_of_getElem? (i := 270) (by decide +kernel)) rfl
theorem k_271 : (Jvm.Cond.fieldLink "LeastSolutions$VectorList" (23 : Nat) "LeastSolutions$VectorList" "bound" "I") ∈ wd := wd_t (List.mem_of_getElem? (i := 271) (by decide +kernel)) rfl
theorem k_273 : (Jvm.Cond.fieldLink "LeastSolutions$VectorList" (26 : Nat) "LeastSolutions$VectorList" "total" "I") ∈ wd := wd_t (List.mem_of_getElem? (i := 273) (by decide +kernel)) rfl
theorem k_275 : (Jvm.Cond.fieldLink "LeastSolutions$VectorList" (29 : Nat) "LeastSolutions$VectorList" "lesser" "I") ∈ wd := wd_t (List.mem_of_getElem? (i := 275) (by decide +kernel)) rfl
theorem k_289 : (Jvm.Cond.fieldLink "LeastSolutions" (10 : Nat) "LeastSolutions" "text" "LLeastSolutions$Text;") ∈ wd := wd_t (List.mem_of_getElem? (i := 289) (by decide +kernel)) rfl
theorem k_290 : (Jvm.Cond.fieldLink "LeastSolutions" (19 : Nat) "LeastSolutions" "words" "LLeastSolutions$Words;") ∈ wd := wd_t (List.mem_of_getElem? (i := 290) (by decide +kernel)) rfl
theorem k_291 : (Jvm.Cond.fieldLink "LeastSolutions" (26 : Nat) "LeastSolutions" "builder" "LLeastSolutions$Builder;") ∈ wd := wd_t (List.mem_of_getElem? (i := 291) (by decide +kernel)) rfl
theorem k_293 : (Jvm.Cond.fieldLink "LeastSolutions" (40 : Nat) "LeastSolutions" "search" "LLeastSolutions$Search;") ∈ wd := wd_t (List.mem_of_getElem? (i := 293) (by decide +kernel)) rfl
theorem k_295 : (Jvm.Cond.fieldLink "LeastSolutions" (53 : Nat) "LeastSolutions" "cheapest" "LLeastSolutions$Cheapest;") ∈ wd := wd_t (List.mem_of_getElem? (i := 295) (by decide +kernel)) rfl
theorem k_296 : (Jvm.Cond.fieldLink "LeastSolutions" (57 : Nat) "LeastSolutions" "told" "[I") ∈ wd := wd_t (List.mem_of_getElem? (i := 296) (by decide +kernel)) rfl
theorem k_297 : (Jvm.Cond.fieldLink "LeastSolutions" (61 : Nat) "LeastSolutions" "rest" "[I") ∈ wd := wd_t (List.mem_of_getElem? (i := 297) (by decide +kernel)) rfl
theorem k_298 : (Jvm.Cond.fieldLink "LeastSolutions" (64 : Nat) "LeastSolutions" "taken" "[I") ∈ wd := wd_t (List.mem_of_getElem? (i := 298) (by decide +kernel)) rfl
theorem k_299 : (Jvm.Cond.fieldLink "LeastSolutions" (67 : Nat) "LeastSolutions" "bestVector" "[I") ∈ wd := wd_t (List.mem_of_getElem? (i := 299) (by decide +kernel)) rfl
theorem k_884 : (Jvm.Cond.methodLink "LeastSolutionsModel" (1 : Nat) ({ cls := "java/lang/Object", name := "<init>", desc := "()V" } : Jvm.MethodName)) ∈ wd := wd_t (List.mem_of_getElem? (i := 884) (by decide +kernel)) rfl
theorem k_885 : (Jvm.Cond.constant "LeastSolutionsModel" (51 : Nat) (36000 : Int32)) ∈ wd := wd_t (List.mem_of_getElem? (i := 885) (by decide +kernel)) rfl
theorem k_887 : (Jvm.Cond.fieldLink "LeastSolutionsModel" (7 : Nat) "LeastSolutionsModel" "text" "[I") ∈ wd := wd_t (List.mem_of_getElem? (i := 887) (by decide +kernel)) rfl
theorem k_890 : (Jvm.Cond.fieldLink "LeastSolutionsModel" (17 : Nat) "LeastSolutionsModel" "kinds" "[I") ∈ wd := wd_t (List.mem_of_getElem? (i := 890) (by decide +kernel)) rfl
theorem k_891 : (Jvm.Cond.fieldLink "LeastSolutionsModel" (20 : Nat) "LeastSolutionsModel" "places" "[I") ∈ wd := wd_t (List.mem_of_getElem? (i := 891) (by decide +kernel)) rfl
theorem k_892 : (Jvm.Cond.fieldLink "LeastSolutionsModel" (23 : Nat) "LeastSolutionsModel" "values" "[I") ∈ wd := wd_t (List.mem_of_getElem? (i := 892) (by decide +kernel)) rfl
theorem k_894 : (Jvm.Cond.fieldLink "LeastSolutionsModel" (26 : Nat) "LeastSolutionsModel" "draftLetters" "[I") ∈ wd := wd_t (List.mem_of_getElem? (i := 894) (by decide +kernel)) rfl
theorem k_898 : (Jvm.Cond.fieldLink "LeastSolutionsModel" (29 : Nat) "LeastSolutionsModel" "draftNumbers" "[I") ∈ wd := wd_t (List.mem_of_getElem? (i := 898) (by decide +kernel)) rfl
theorem k_899 : (Jvm.Cond.fieldLink "LeastSolutionsModel" (32 : Nat) "LeastSolutionsModel" "draftSigns" "[I") ∈ wd := wd_t (List.mem_of_getElem? (i := 899) (by decide +kernel)) rfl
theorem k_904 : (Jvm.Cond.fieldLink "LeastSolutionsModel" (35 : Nat) "LeastSolutionsModel" "letters" "[I") ∈ wd := wd_t (List.mem_of_getElem? (i := 904) (by decide +kernel)) rfl
theorem k_905 : (Jvm.Cond.fieldLink "LeastSolutionsModel" (38 : Nat) "LeastSolutionsModel" "numbers" "[I") ∈ wd := wd_t (List.mem_of_getElem? (i := 905) (by decide +kernel)) rfl
theorem k_906 : (Jvm.Cond.fieldLink "LeastSolutionsModel" (41 : Nat) "LeastSolutionsModel" "isList" "[Z") ∈ wd := wd_t (List.mem_of_getElem? (i := 906) (by decide +kernel)) rfl
theorem k_907 : (Jvm.Cond.fieldLink "LeastSolutionsModel" (45 : Nat) "LeastSolutionsModel" "bounds" "[I") ∈ wd := wd_t (List.mem_of_getElem? (i := 907) (by decide +kernel)) rfl
theorem k_908 : (Jvm.Cond.fieldLink "LeastSolutionsModel" (48 : Nat) "LeastSolutionsModel" "sizes" "[I") ∈ wd := wd_t (List.mem_of_getElem? (i := 908) (by decide +kernel)) rfl
theorem k_909 : (Jvm.Cond.fieldLink "LeastSolutionsModel" (52 : Nat) "LeastSolutionsModel" "lists" "[B") ∈ wd := wd_t (List.mem_of_getElem? (i := 909) (by decide +kernel)) rfl
theorem k_910 : (Jvm.Cond.fieldLink "LeastSolutionsModel" (56 : Nat) "LeastSolutionsModel" "told" "[I") ∈ wd := wd_t (List.mem_of_getElem? (i := 910) (by decide +kernel)) rfl
theorem k_911 : (Jvm.Cond.fieldLink "LeastSolutionsModel" (59 : Nat) "LeastSolutionsModel" "costs" "[I") ∈ wd := wd_t (List.mem_of_getElem? (i := 911) (by decide +kernel)) rfl
theorem k_913 : (Jvm.Cond.fieldLink "LeastSolutionsModel" (62 : Nat) "LeastSolutionsModel" "times" "[I") ∈ wd := wd_t (List.mem_of_getElem? (i := 913) (by decide +kernel)) rfl
theorem k_915 : (Jvm.Cond.fieldLink "LeastSolutionsModel" (65 : Nat) "LeastSolutionsModel" "bestOne" "[I") ∈ wd := wd_t (List.mem_of_getElem? (i := 915) (by decide +kernel)) rfl
theorem k_916 : (Jvm.Cond.fieldLink "LeastSolutionsModel" (68 : Nat) "LeastSolutionsModel" "basis" "[J") ∈ wd := wd_t (List.mem_of_getElem? (i := 916) (by decide +kernel)) rfl
theorem k_918 : (Jvm.Cond.fieldLink "LeastSolutionsModel" (72 : Nat) "LeastSolutionsModel" "one" "[J") ∈ wd := wd_t (List.mem_of_getElem? (i := 918) (by decide +kernel)) rfl
theorem k_920 : (Jvm.Cond.fieldLink "LeastSolutionsModel" (75 : Nat) "LeastSolutionsModel" "along" "[J") ∈ wd := wd_t (List.mem_of_getElem? (i := 920) (by decide +kernel)) rfl
theorem k_921 : (Jvm.Cond.fieldLink "LeastSolutionsModel" (78 : Nat) "LeastSolutionsModel" "now" "[I") ∈ wd := wd_t (List.mem_of_getElem? (i := 921) (by decide +kernel)) rfl
theorem k_995 : (Jvm.Cond.arrayClass Jvm.ClassFile.FieldType.boolean) ∈ wd := wd_t (List.mem_of_getElem? (i := 995) (by decide +kernel)) rfl
abbrev y_BU_init : MethodName := ⟨"LeastSolutions$Builder", "<init>", "()V"⟩
abbrev b_BU_init : ByteArray := prog_2_method_1_code
abbrev y_CH_init : MethodName := ⟨"LeastSolutions$Cheapest", "<init>", "()V"⟩
abbrev b_CH_init : ByteArray := prog_3_method_1_code
abbrev y_EQ_init : MethodName := ⟨"LeastSolutions$Equations", "<init>", "()V"⟩
abbrev b_EQ_init : ByteArray := prog_4_method_1_code
abbrev y_LA_init : MethodName := ⟨"LeastSolutions$Lattice", "<init>", "()V"⟩
abbrev b_LA_init : ByteArray := prog_5_method_1_code
abbrev y_LS_init : MethodName := ⟨"LeastSolutions", "<init>", "()V"⟩
abbrev b_LS_init : ByteArray := prog_1_method_1_code
abbrev y_MO_init : MethodName := ⟨"LeastSolutionsModel", "<init>", "()V"⟩
abbrev b_MO_init : ByteArray := prog_12_method_1_code
abbrev y_SE_init : MethodName := ⟨"LeastSolutions$Search", "<init>", "()V"⟩
abbrev b_SE_init : ByteArray := prog_6_method_1_code
abbrev y_TA_init : MethodName := ⟨"LeastSolutions$Taker", "<init>", "()V"⟩
abbrev b_TA_init : ByteArray := prog_7_method_1_code
abbrev y_TX_init : MethodName := ⟨"LeastSolutions$Text", "<init>", "()V"⟩
abbrev b_TX_init : ByteArray := prog_8_method_1_code
abbrev y_VL_init : MethodName := ⟨"LeastSolutions$VectorList", "<init>", "()V"⟩
abbrev b_VL_init : ByteArray := prog_9_method_1_code
abbrev y_WO_init : MethodName := ⟨"LeastSolutions$Words", "<init>", "()V"⟩
abbrev b_WO_init : ByteArray := prog_10_method_1_code
theorem d_BU_init_0 : decode b_BU_init 0 = .ok (.aload_n 0, 1) := by decide +kernel
theorem d_BU_init_1 : decode b_BU_init 1 = .ok (.invokespecial 3, 3) := by decide +kernel
theorem d_BU_init_4 : decode b_BU_init 4 = .ok (.aload_n 0, 1) := by decide +kernel
theorem d_BU_init_5 : decode b_BU_init 5 = .ok (.new 9, 3) := by decide +kernel
theorem d_BU_init_8 : decode b_BU_init 8 = .ok (.dup, 1) := by decide +kernel
theorem d_BU_init_9 : decode b_BU_init 9 = .ok (.invokespecial 11, 3) := by decide +kernel
theorem d_BU_init_12 : decode b_BU_init 12 = .ok (.putfield 12, 3) := by decide +kernel
theorem d_BU_init_15 : decode b_BU_init 15 = .ok (.aload_n 0, 1) := by decide +kernel
theorem d_BU_init_16 : decode b_BU_init 16 = .ok (.iconst 0, 1) := by decide +kernel
theorem d_BU_init_17 : decode b_BU_init 17 = .ok (.putfield 18, 3) := by decide +kernel
theorem d_BU_init_20 : decode b_BU_init 20 = .ok (.aload_n 0, 1) := by decide +kernel
theorem d_BU_init_21 : decode b_BU_init 21 = .ok (.iconst 1, 1) := by decide +kernel
theorem d_BU_init_22 : decode b_BU_init 22 = .ok (.putfield 22, 3) := by decide +kernel
theorem d_BU_init_25 : decode b_BU_init 25 = .ok (.aload_n 0, 1) := by decide +kernel
theorem d_BU_init_26 : decode b_BU_init 26 = .ok (.iconst 1, 1) := by decide +kernel
theorem d_BU_init_27 : decode b_BU_init 27 = .ok (.putfield 25, 3) := by decide +kernel
theorem d_BU_init_30 : decode b_BU_init 30 = .ok (.aload_n 0, 1) := by decide +kernel
theorem d_BU_init_31 : decode b_BU_init 31 = .ok (.iconst (-1), 1) := by decide +kernel
theorem d_BU_init_32 : decode b_BU_init 32 = .ok (.putfield 28, 3) := by decide +kernel
theorem d_BU_init_35 : decode b_BU_init 35 = .ok (.aload_n 0, 1) := by decide +kernel
theorem d_BU_init_36 : decode b_BU_init 36 = .ok (.bipush 6, 2) := by decide +kernel
theorem d_BU_init_38 : decode b_BU_init 38 = .ok (.putfield 33, 3) := by decide +kernel
theorem d_BU_init_41 : decode b_BU_init 41 = .ok (.aload_n 0, 1) := by decide +kernel
theorem d_BU_init_42 : decode b_BU_init 42 = .ok (.iconst (-1), 1) := by decide +kernel
theorem d_BU_init_43 : decode b_BU_init 43 = .ok (.putfield 36, 3) := by decide +kernel
theorem d_BU_init_46 : decode b_BU_init 46 = .ok (.aload_n 0, 1) := by decide +kernel
theorem d_BU_init_47 : decode b_BU_init 47 = .ok (.iconst (-1), 1) := by decide +kernel
theorem d_BU_init_48 : decode b_BU_init 48 = .ok (.putfield 39, 3) := by decide +kernel
theorem d_BU_init_51 : decode b_BU_init 51 = .ok (.return_, 1) := by decide +kernel
theorem d_CH_init_0 : decode b_CH_init 0 = .ok (.aload_n 0, 1) := by decide +kernel
theorem d_CH_init_1 : decode b_CH_init 1 = .ok (.invokespecial 3, 3) := by decide +kernel
theorem d_CH_init_4 : decode b_CH_init 4 = .ok (.aload_n 0, 1) := by decide +kernel
theorem d_CH_init_5 : decode b_CH_init 5 = .ok (.bipush 6, 2) := by decide +kernel
theorem d_CH_init_7 : decode b_CH_init 7 = .ok (.newarray .int, 2) := by decide +kernel
theorem d_CH_init_9 : decode b_CH_init 9 = .ok (.putfield 9, 3) := by decide +kernel
theorem d_CH_init_12 : decode b_CH_init 12 = .ok (.aload_n 0, 1) := by decide +kernel
theorem d_CH_init_13 : decode b_CH_init 13 = .ok (.bipush 6, 2) := by decide +kernel
theorem d_CH_init_15 : decode b_CH_init 15 = .ok (.newarray .int, 2) := by decide +kernel
theorem d_CH_init_17 : decode b_CH_init 17 = .ok (.putfield 15, 3) := by decide +kernel
theorem d_CH_init_20 : decode b_CH_init 20 = .ok (.aload_n 0, 1) := by decide +kernel
theorem d_CH_init_21 : decode b_CH_init 21 = .ok (.iconst 0, 1) := by decide +kernel
theorem d_CH_init_22 : decode b_CH_init 22 = .ok (.putfield 18, 3) := by decide +kernel
theorem d_CH_init_25 : decode b_CH_init 25 = .ok (.aload_n 0, 1) := by decide +kernel
theorem d_CH_init_26 : decode b_CH_init 26 = .ok (.iconst 0, 1) := by decide +kernel
theorem d_CH_init_27 : decode b_CH_init 27 = .ok (.putfield 22, 3) := by decide +kernel
theorem d_CH_init_30 : decode b_CH_init 30 = .ok (.aload_n 0, 1) := by decide +kernel
theorem d_CH_init_31 : decode b_CH_init 31 = .ok (.iconst 0, 1) := by decide +kernel
theorem d_CH_init_32 : decode b_CH_init 32 = .ok (.putfield 25, 3) := by decide +kernel
theorem d_CH_init_35 : decode b_CH_init 35 = .ok (.return_, 1) := by decide +kernel
theorem d_EQ_init_0 : decode b_EQ_init 0 = .ok (.aload_n 0, 1) := by decide +kernel
theorem d_EQ_init_1 : decode b_EQ_init 1 = .ok (.invokespecial 3, 3) := by decide +kernel
theorem d_EQ_init_4 : decode b_EQ_init 4 = .ok (.aload_n 0, 1) := by decide +kernel
theorem d_EQ_init_5 : decode b_EQ_init 5 = .ok (.iconst 4, 1) := by decide +kernel
theorem d_EQ_init_6 : decode b_EQ_init 6 = .ok (.bipush 6, 2) := by decide +kernel
theorem d_EQ_init_8 : decode b_EQ_init 8 = .ok (.multianewarray 9 2, 4) := by decide +kernel
theorem d_EQ_init_12 : decode b_EQ_init 12 = .ok (.putfield 11, 3) := by decide +kernel
theorem d_EQ_init_15 : decode b_EQ_init 15 = .ok (.aload_n 0, 1) := by decide +kernel
theorem d_EQ_init_16 : decode b_EQ_init 16 = .ok (.iconst 4, 1) := by decide +kernel
theorem d_EQ_init_17 : decode b_EQ_init 17 = .ok (.newarray .int, 2) := by decide +kernel
theorem d_EQ_init_19 : decode b_EQ_init 19 = .ok (.putfield 16, 3) := by decide +kernel
theorem d_EQ_init_22 : decode b_EQ_init 22 = .ok (.aload_n 0, 1) := by decide +kernel
theorem d_EQ_init_23 : decode b_EQ_init 23 = .ok (.bipush 6, 2) := by decide +kernel
theorem d_EQ_init_25 : decode b_EQ_init 25 = .ok (.newarray .int, 2) := by decide +kernel
theorem d_EQ_init_27 : decode b_EQ_init 27 = .ok (.putfield 20, 3) := by decide +kernel
theorem d_EQ_init_30 : decode b_EQ_init 30 = .ok (.aload_n 0, 1) := by decide +kernel
theorem d_EQ_init_31 : decode b_EQ_init 31 = .ok (.bipush 6, 2) := by decide +kernel
theorem d_EQ_init_33 : decode b_EQ_init 33 = .ok (.newarray .int, 2) := by decide +kernel
theorem d_EQ_init_35 : decode b_EQ_init 35 = .ok (.putfield 23, 3) := by decide +kernel
theorem d_EQ_init_38 : decode b_EQ_init 38 = .ok (.aload_n 0, 1) := by decide +kernel
theorem d_EQ_init_39 : decode b_EQ_init 39 = .ok (.bipush 6, 2) := by decide +kernel
theorem d_EQ_init_41 : decode b_EQ_init 41 = .ok (.newarray .int, 2) := by decide +kernel
theorem d_EQ_init_43 : decode b_EQ_init 43 = .ok (.putfield 26, 3) := by decide +kernel
theorem d_EQ_init_46 : decode b_EQ_init 46 = .ok (.aload_n 0, 1) := by decide +kernel
theorem d_EQ_init_47 : decode b_EQ_init 47 = .ok (.iconst 0, 1) := by decide +kernel
theorem d_EQ_init_48 : decode b_EQ_init 48 = .ok (.putfield 29, 3) := by decide +kernel
theorem d_EQ_init_51 : decode b_EQ_init 51 = .ok (.aload_n 0, 1) := by decide +kernel
theorem d_EQ_init_52 : decode b_EQ_init 52 = .ok (.iconst 0, 1) := by decide +kernel
theorem d_EQ_init_53 : decode b_EQ_init 53 = .ok (.putfield 33, 3) := by decide +kernel
theorem d_EQ_init_56 : decode b_EQ_init 56 = .ok (.aload_n 0, 1) := by decide +kernel
theorem d_EQ_init_57 : decode b_EQ_init 57 = .ok (.iconst 0, 1) := by decide +kernel
theorem d_EQ_init_58 : decode b_EQ_init 58 = .ok (.putfield 36, 3) := by decide +kernel
theorem d_EQ_init_61 : decode b_EQ_init 61 = .ok (.return_, 1) := by decide +kernel
theorem d_LA_init_0 : decode b_LA_init 0 = .ok (.aload_n 0, 1) := by decide +kernel
theorem d_LA_init_1 : decode b_LA_init 1 = .ok (.invokespecial 3, 3) := by decide +kernel
theorem d_LA_init_4 : decode b_LA_init 4 = .ok (.aload_n 0, 1) := by decide +kernel
theorem d_LA_init_5 : decode b_LA_init 5 = .ok (.bipush 6, 2) := by decide +kernel
theorem d_LA_init_7 : decode b_LA_init 7 = .ok (.bipush 10, 2) := by decide +kernel
theorem d_LA_init_9 : decode b_LA_init 9 = .ok (.multianewarray 11 2, 4) := by decide +kernel
theorem d_LA_init_13 : decode b_LA_init 13 = .ok (.putfield 13, 3) := by decide +kernel
theorem d_LA_init_16 : decode b_LA_init 16 = .ok (.aload_n 0, 1) := by decide +kernel
theorem d_LA_init_17 : decode b_LA_init 17 = .ok (.bipush 10, 2) := by decide +kernel
theorem d_LA_init_19 : decode b_LA_init 19 = .ok (.newarray .int, 2) := by decide +kernel
theorem d_LA_init_21 : decode b_LA_init 21 = .ok (.putfield 16, 3) := by decide +kernel
theorem d_LA_init_24 : decode b_LA_init 24 = .ok (.aload_n 0, 1) := by decide +kernel
theorem d_LA_init_25 : decode b_LA_init 25 = .ok (.bipush 6, 2) := by decide +kernel
theorem d_LA_init_27 : decode b_LA_init 27 = .ok (.newarray .int, 2) := by decide +kernel
theorem d_LA_init_29 : decode b_LA_init 29 = .ok (.putfield 20, 3) := by decide +kernel
theorem d_LA_init_32 : decode b_LA_init 32 = .ok (.aload_n 0, 1) := by decide +kernel
theorem d_LA_init_33 : decode b_LA_init 33 = .ok (.iconst 4, 1) := by decide +kernel
theorem d_LA_init_34 : decode b_LA_init 34 = .ok (.newarray .long, 2) := by decide +kernel
theorem d_LA_init_36 : decode b_LA_init 36 = .ok (.putfield 23, 3) := by decide +kernel
theorem d_LA_init_39 : decode b_LA_init 39 = .ok (.aload_n 0, 1) := by decide +kernel
theorem d_LA_init_40 : decode b_LA_init 40 = .ok (.bipush 10, 2) := by decide +kernel
theorem d_LA_init_42 : decode b_LA_init 42 = .ok (.newarray .long, 2) := by decide +kernel
theorem d_LA_init_44 : decode b_LA_init 44 = .ok (.putfield 27, 3) := by decide +kernel
theorem d_LA_init_47 : decode b_LA_init 47 = .ok (.aload_n 0, 1) := by decide +kernel
theorem d_LA_init_48 : decode b_LA_init 48 = .ok (.iconst 0, 1) := by decide +kernel
theorem d_LA_init_49 : decode b_LA_init 49 = .ok (.putfield 30, 3) := by decide +kernel
theorem d_LA_init_52 : decode b_LA_init 52 = .ok (.aload_n 0, 1) := by decide +kernel
theorem d_LA_init_53 : decode b_LA_init 53 = .ok (.iconst 0, 1) := by decide +kernel
theorem d_LA_init_54 : decode b_LA_init 54 = .ok (.putfield 34, 3) := by decide +kernel
theorem d_LA_init_57 : decode b_LA_init 57 = .ok (.aload_n 0, 1) := by decide +kernel
theorem d_LA_init_58 : decode b_LA_init 58 = .ok (.iconst 0, 1) := by decide +kernel
theorem d_LA_init_59 : decode b_LA_init 59 = .ok (.putfield 37, 3) := by decide +kernel
theorem d_LA_init_62 : decode b_LA_init 62 = .ok (.aload_n 0, 1) := by decide +kernel
theorem d_LA_init_63 : decode b_LA_init 63 = .ok (.iconst 0, 1) := by decide +kernel
theorem d_LA_init_64 : decode b_LA_init 64 = .ok (.putfield 40, 3) := by decide +kernel
theorem d_LA_init_67 : decode b_LA_init 67 = .ok (.return_, 1) := by decide +kernel
theorem d_LS_init_0 : decode b_LS_init 0 = .ok (.aload_n 0, 1) := by decide +kernel
theorem d_LS_init_1 : decode b_LS_init 1 = .ok (.invokespecial 1, 3) := by decide +kernel
theorem d_LS_init_4 : decode b_LS_init 4 = .ok (.aload_n 0, 1) := by decide +kernel
theorem d_LS_init_5 : decode b_LS_init 5 = .ok (.new 7, 3) := by decide +kernel
theorem d_LS_init_8 : decode b_LS_init 8 = .ok (.dup, 1) := by decide +kernel
theorem d_LS_init_9 : decode b_LS_init 9 = .ok (.invokespecial 9, 3) := by decide +kernel
theorem d_LS_init_12 : decode b_LS_init 12 = .ok (.putfield 10, 3) := by decide +kernel
theorem d_LS_init_15 : decode b_LS_init 15 = .ok (.aload_n 0, 1) := by decide +kernel
theorem d_LS_init_16 : decode b_LS_init 16 = .ok (.new 16, 3) := by decide +kernel
theorem d_LS_init_19 : decode b_LS_init 19 = .ok (.dup, 1) := by decide +kernel
theorem d_LS_init_20 : decode b_LS_init 20 = .ok (.invokespecial 18, 3) := by decide +kernel
theorem d_LS_init_23 : decode b_LS_init 23 = .ok (.putfield 19, 3) := by decide +kernel
theorem d_LS_init_26 : decode b_LS_init 26 = .ok (.aload_n 0, 1) := by decide +kernel
theorem d_LS_init_27 : decode b_LS_init 27 = .ok (.new 23, 3) := by decide +kernel
theorem d_LS_init_30 : decode b_LS_init 30 = .ok (.dup, 1) := by decide +kernel
theorem d_LS_init_31 : decode b_LS_init 31 = .ok (.invokespecial 25, 3) := by decide +kernel
theorem d_LS_init_34 : decode b_LS_init 34 = .ok (.putfield 26, 3) := by decide +kernel
theorem d_LS_init_37 : decode b_LS_init 37 = .ok (.aload_n 0, 1) := by decide +kernel
theorem d_LS_init_38 : decode b_LS_init 38 = .ok (.new 30, 3) := by decide +kernel
theorem d_LS_init_41 : decode b_LS_init 41 = .ok (.dup, 1) := by decide +kernel
theorem d_LS_init_42 : decode b_LS_init 42 = .ok (.invokespecial 32, 3) := by decide +kernel
theorem d_LS_init_45 : decode b_LS_init 45 = .ok (.putfield 33, 3) := by decide +kernel
theorem d_LS_init_48 : decode b_LS_init 48 = .ok (.aload_n 0, 1) := by decide +kernel
theorem d_LS_init_49 : decode b_LS_init 49 = .ok (.new 37, 3) := by decide +kernel
theorem d_LS_init_52 : decode b_LS_init 52 = .ok (.dup, 1) := by decide +kernel
theorem d_LS_init_53 : decode b_LS_init 53 = .ok (.invokespecial 39, 3) := by decide +kernel
theorem d_LS_init_56 : decode b_LS_init 56 = .ok (.putfield 40, 3) := by decide +kernel
theorem d_LS_init_59 : decode b_LS_init 59 = .ok (.aload_n 0, 1) := by decide +kernel
theorem d_LS_init_60 : decode b_LS_init 60 = .ok (.iconst 3, 1) := by decide +kernel
theorem d_LS_init_61 : decode b_LS_init 61 = .ok (.anewarray 44, 3) := by decide +kernel
theorem d_LS_init_64 : decode b_LS_init 64 = .ok (.putfield 46, 3) := by decide +kernel
theorem d_LS_init_67 : decode b_LS_init 67 = .ok (.aload_n 0, 1) := by decide +kernel
theorem d_LS_init_68 : decode b_LS_init 68 = .ok (.new 50, 3) := by decide +kernel
theorem d_LS_init_71 : decode b_LS_init 71 = .ok (.dup, 1) := by decide +kernel
theorem d_LS_init_72 : decode b_LS_init 72 = .ok (.invokespecial 52, 3) := by decide +kernel
theorem d_LS_init_75 : decode b_LS_init 75 = .ok (.putfield 53, 3) := by decide +kernel
theorem d_LS_init_78 : decode b_LS_init 78 = .ok (.aload_n 0, 1) := by decide +kernel
theorem d_LS_init_79 : decode b_LS_init 79 = .ok (.bipush 6, 2) := by decide +kernel
theorem d_LS_init_81 : decode b_LS_init 81 = .ok (.newarray .int, 2) := by decide +kernel
theorem d_LS_init_83 : decode b_LS_init 83 = .ok (.putfield 57, 3) := by decide +kernel
theorem d_LS_init_86 : decode b_LS_init 86 = .ok (.aload_n 0, 1) := by decide +kernel
theorem d_LS_init_87 : decode b_LS_init 87 = .ok (.bipush 6, 2) := by decide +kernel
theorem d_LS_init_89 : decode b_LS_init 89 = .ok (.newarray .int, 2) := by decide +kernel
theorem d_LS_init_91 : decode b_LS_init 91 = .ok (.putfield 61, 3) := by decide +kernel
theorem d_LS_init_94 : decode b_LS_init 94 = .ok (.aload_n 0, 1) := by decide +kernel
theorem d_LS_init_95 : decode b_LS_init 95 = .ok (.sipush 2000, 3) := by decide +kernel
theorem d_LS_init_98 : decode b_LS_init 98 = .ok (.newarray .int, 2) := by decide +kernel
theorem d_LS_init_100 : decode b_LS_init 100 = .ok (.putfield 64, 3) := by decide +kernel
theorem d_LS_init_103 : decode b_LS_init 103 = .ok (.aload_n 0, 1) := by decide +kernel
theorem d_LS_init_104 : decode b_LS_init 104 = .ok (.bipush 6, 2) := by decide +kernel
theorem d_LS_init_106 : decode b_LS_init 106 = .ok (.newarray .int, 2) := by decide +kernel
theorem d_LS_init_108 : decode b_LS_init 108 = .ok (.putfield 67, 3) := by decide +kernel
theorem d_LS_init_111 : decode b_LS_init 111 = .ok (.aload_n 0, 1) := by decide +kernel
theorem d_LS_init_112 : decode b_LS_init 112 = .ok (.new 70, 3) := by decide +kernel
theorem d_LS_init_115 : decode b_LS_init 115 = .ok (.dup, 1) := by decide +kernel
theorem d_LS_init_116 : decode b_LS_init 116 = .ok (.invokespecial 72, 3) := by decide +kernel
theorem d_LS_init_119 : decode b_LS_init 119 = .ok (.putfield 73, 3) := by decide +kernel
theorem d_LS_init_122 : decode b_LS_init 122 = .ok (.aload_n 0, 1) := by decide +kernel
theorem d_LS_init_123 : decode b_LS_init 123 = .ok (.iconst 0, 1) := by decide +kernel
theorem d_LS_init_124 : decode b_LS_init 124 = .ok (.putfield 77, 3) := by decide +kernel
theorem d_LS_init_127 : decode b_LS_init 127 = .ok (.aload_n 0, 1) := by decide +kernel
theorem d_LS_init_128 : decode b_LS_init 128 = .ok (.iconst 0, 1) := by decide +kernel
theorem d_LS_init_129 : decode b_LS_init 129 = .ok (.putfield 81, 3) := by decide +kernel
theorem d_LS_init_132 : decode b_LS_init 132 = .ok (.aload_n 0, 1) := by decide +kernel
theorem d_LS_init_133 : decode b_LS_init 133 = .ok (.iconst 0, 1) := by decide +kernel
theorem d_LS_init_134 : decode b_LS_init 134 = .ok (.putfield 84, 3) := by decide +kernel
theorem d_LS_init_137 : decode b_LS_init 137 = .ok (.aload_n 0, 1) := by decide +kernel
theorem d_LS_init_138 : decode b_LS_init 138 = .ok (.iconst (-1), 1) := by decide +kernel
theorem d_LS_init_139 : decode b_LS_init 139 = .ok (.putfield 87, 3) := by decide +kernel
theorem d_LS_init_142 : decode b_LS_init 142 = .ok (.iconst 0, 1) := by decide +kernel
theorem d_LS_init_143 : decode b_LS_init 143 = .ok (.istore_n 1, 1) := by decide +kernel
theorem d_LS_init_144 : decode b_LS_init 144 = .ok (.iload_n 1, 1) := by decide +kernel
theorem d_LS_init_145 : decode b_LS_init 145 = .ok (.iconst 2, 1) := by decide +kernel
theorem d_LS_init_146 : decode b_LS_init 146 = .ok (.if_icmp .gt 22, 3) := by decide +kernel
theorem d_LS_init_149 : decode b_LS_init 149 = .ok (.aload_n 0, 1) := by decide +kernel
theorem d_LS_init_150 : decode b_LS_init 150 = .ok (.getfield 46, 3) := by decide +kernel
theorem d_LS_init_153 : decode b_LS_init 153 = .ok (.iload_n 1, 1) := by decide +kernel
theorem d_LS_init_154 : decode b_LS_init 154 = .ok (.new 44, 3) := by decide +kernel
theorem d_LS_init_157 : decode b_LS_init 157 = .ok (.dup, 1) := by decide +kernel
theorem d_LS_init_158 : decode b_LS_init 158 = .ok (.invokespecial 91, 3) := by decide +kernel
theorem d_LS_init_161 : decode b_LS_init 161 = .ok (.aastore, 1) := by decide +kernel
theorem d_LS_init_162 : decode b_LS_init 162 = .ok (.iinc 1 1, 3) := by decide +kernel
theorem d_LS_init_165 : decode b_LS_init 165 = .ok (.goto (-21), 3) := by decide +kernel
theorem d_LS_init_168 : decode b_LS_init 168 = .ok (.return_, 1) := by decide +kernel
theorem d_MO_init_0 : decode b_MO_init 0 = .ok (.aload_n 0, 1) := by decide +kernel
theorem d_MO_init_1 : decode b_MO_init 1 = .ok (.invokespecial 1, 3) := by decide +kernel
theorem d_MO_init_4 : decode b_MO_init 4 = .ok (.aload_n 0, 1) := by decide +kernel
theorem d_MO_init_5 : decode b_MO_init 5 = .ok (.sipush 300, 3) := by decide +kernel
theorem d_MO_init_8 : decode b_MO_init 8 = .ok (.newarray .int, 2) := by decide +kernel
theorem d_MO_init_10 : decode b_MO_init 10 = .ok (.putfield 7, 3) := by decide +kernel
theorem d_MO_init_13 : decode b_MO_init 13 = .ok (.aload_n 0, 1) := by decide +kernel
theorem d_MO_init_14 : decode b_MO_init 14 = .ok (.iconst (-1), 1) := by decide +kernel
theorem d_MO_init_15 : decode b_MO_init 15 = .ok (.putfield 13, 3) := by decide +kernel
theorem d_MO_init_18 : decode b_MO_init 18 = .ok (.aload_n 0, 1) := by decide +kernel
theorem d_MO_init_19 : decode b_MO_init 19 = .ok (.sipush 301, 3) := by decide +kernel
theorem d_MO_init_22 : decode b_MO_init 22 = .ok (.newarray .int, 2) := by decide +kernel
theorem d_MO_init_24 : decode b_MO_init 24 = .ok (.putfield 17, 3) := by decide +kernel
theorem d_MO_init_27 : decode b_MO_init 27 = .ok (.aload_n 0, 1) := by decide +kernel
theorem d_MO_init_28 : decode b_MO_init 28 = .ok (.sipush 301, 3) := by decide +kernel
theorem d_MO_init_31 : decode b_MO_init 31 = .ok (.newarray .int, 2) := by decide +kernel
theorem d_MO_init_33 : decode b_MO_init 33 = .ok (.putfield 20, 3) := by decide +kernel
theorem d_MO_init_36 : decode b_MO_init 36 = .ok (.aload_n 0, 1) := by decide +kernel
theorem d_MO_init_37 : decode b_MO_init 37 = .ok (.sipush 301, 3) := by decide +kernel
theorem d_MO_init_40 : decode b_MO_init 40 = .ok (.newarray .int, 2) := by decide +kernel
theorem d_MO_init_42 : decode b_MO_init 42 = .ok (.putfield 23, 3) := by decide +kernel
theorem d_MO_init_45 : decode b_MO_init 45 = .ok (.aload_n 0, 1) := by decide +kernel
theorem d_MO_init_46 : decode b_MO_init 46 = .ok (.bipush 6, 2) := by decide +kernel
theorem d_MO_init_48 : decode b_MO_init 48 = .ok (.newarray .int, 2) := by decide +kernel
theorem d_MO_init_50 : decode b_MO_init 50 = .ok (.putfield 26, 3) := by decide +kernel
theorem d_MO_init_53 : decode b_MO_init 53 = .ok (.aload_n 0, 1) := by decide +kernel
theorem d_MO_init_54 : decode b_MO_init 54 = .ok (.bipush 28, 2) := by decide +kernel
theorem d_MO_init_56 : decode b_MO_init 56 = .ok (.newarray .int, 2) := by decide +kernel
theorem d_MO_init_58 : decode b_MO_init 58 = .ok (.putfield 29, 3) := by decide +kernel
theorem d_MO_init_61 : decode b_MO_init 61 = .ok (.aload_n 0, 1) := by decide +kernel
theorem d_MO_init_62 : decode b_MO_init 62 = .ok (.iconst 4, 1) := by decide +kernel
theorem d_MO_init_63 : decode b_MO_init 63 = .ok (.newarray .int, 2) := by decide +kernel
theorem d_MO_init_65 : decode b_MO_init 65 = .ok (.putfield 32, 3) := by decide +kernel
theorem d_MO_init_68 : decode b_MO_init 68 = .ok (.aload_n 0, 1) := by decide +kernel
theorem d_MO_init_69 : decode b_MO_init 69 = .ok (.bipush 6, 2) := by decide +kernel
theorem d_MO_init_71 : decode b_MO_init 71 = .ok (.newarray .int, 2) := by decide +kernel
theorem d_MO_init_73 : decode b_MO_init 73 = .ok (.putfield 35, 3) := by decide +kernel
theorem d_MO_init_76 : decode b_MO_init 76 = .ok (.aload_n 0, 1) := by decide +kernel
theorem d_MO_init_77 : decode b_MO_init 77 = .ok (.bipush 28, 2) := by decide +kernel
theorem d_MO_init_79 : decode b_MO_init 79 = .ok (.newarray .int, 2) := by decide +kernel
theorem d_MO_init_81 : decode b_MO_init 81 = .ok (.putfield 38, 3) := by decide +kernel
theorem d_MO_init_84 : decode b_MO_init 84 = .ok (.aload_n 0, 1) := by decide +kernel
theorem d_MO_init_85 : decode b_MO_init 85 = .ok (.iconst 3, 1) := by decide +kernel
theorem d_MO_init_86 : decode b_MO_init 86 = .ok (.newarray .boolean, 2) := by decide +kernel
theorem d_MO_init_88 : decode b_MO_init 88 = .ok (.putfield 41, 3) := by decide +kernel
theorem d_MO_init_91 : decode b_MO_init 91 = .ok (.aload_n 0, 1) := by decide +kernel
theorem d_MO_init_92 : decode b_MO_init 92 = .ok (.iconst 3, 1) := by decide +kernel
theorem d_MO_init_93 : decode b_MO_init 93 = .ok (.newarray .int, 2) := by decide +kernel
theorem d_MO_init_95 : decode b_MO_init 95 = .ok (.putfield 45, 3) := by decide +kernel
theorem d_MO_init_98 : decode b_MO_init 98 = .ok (.aload_n 0, 1) := by decide +kernel
theorem d_MO_init_99 : decode b_MO_init 99 = .ok (.iconst 3, 1) := by decide +kernel
theorem d_MO_init_100 : decode b_MO_init 100 = .ok (.newarray .int, 2) := by decide +kernel
theorem d_MO_init_102 : decode b_MO_init 102 = .ok (.putfield 48, 3) := by decide +kernel
theorem d_MO_init_105 : decode b_MO_init 105 = .ok (.aload_n 0, 1) := by decide +kernel
theorem d_MO_init_106 : decode b_MO_init 106 = .ok (.ldc 51, 2) := by decide +kernel
theorem d_MO_init_108 : decode b_MO_init 108 = .ok (.newarray .byte, 2) := by decide +kernel
theorem d_MO_init_110 : decode b_MO_init 110 = .ok (.putfield 52, 3) := by decide +kernel
theorem d_MO_init_113 : decode b_MO_init 113 = .ok (.aload_n 0, 1) := by decide +kernel
theorem d_MO_init_114 : decode b_MO_init 114 = .ok (.bipush 6, 2) := by decide +kernel
theorem d_MO_init_116 : decode b_MO_init 116 = .ok (.newarray .int, 2) := by decide +kernel
theorem d_MO_init_118 : decode b_MO_init 118 = .ok (.putfield 56, 3) := by decide +kernel
theorem d_MO_init_121 : decode b_MO_init 121 = .ok (.aload_n 0, 1) := by decide +kernel
theorem d_MO_init_122 : decode b_MO_init 122 = .ok (.bipush 6, 2) := by decide +kernel
theorem d_MO_init_124 : decode b_MO_init 124 = .ok (.newarray .int, 2) := by decide +kernel
theorem d_MO_init_126 : decode b_MO_init 126 = .ok (.putfield 59, 3) := by decide +kernel
theorem d_MO_init_129 : decode b_MO_init 129 = .ok (.aload_n 0, 1) := by decide +kernel
theorem d_MO_init_130 : decode b_MO_init 130 = .ok (.sipush 2000, 3) := by decide +kernel
theorem d_MO_init_133 : decode b_MO_init 133 = .ok (.newarray .int, 2) := by decide +kernel
theorem d_MO_init_135 : decode b_MO_init 135 = .ok (.putfield 62, 3) := by decide +kernel
theorem d_MO_init_138 : decode b_MO_init 138 = .ok (.aload_n 0, 1) := by decide +kernel
theorem d_MO_init_139 : decode b_MO_init 139 = .ok (.bipush 6, 2) := by decide +kernel
theorem d_MO_init_141 : decode b_MO_init 141 = .ok (.newarray .int, 2) := by decide +kernel
theorem d_MO_init_143 : decode b_MO_init 143 = .ok (.putfield 65, 3) := by decide +kernel
theorem d_MO_init_146 : decode b_MO_init 146 = .ok (.aload_n 0, 1) := by decide +kernel
theorem d_MO_init_147 : decode b_MO_init 147 = .ok (.bipush 36, 2) := by decide +kernel
theorem d_MO_init_149 : decode b_MO_init 149 = .ok (.newarray .long, 2) := by decide +kernel
theorem d_MO_init_151 : decode b_MO_init 151 = .ok (.putfield 68, 3) := by decide +kernel
theorem d_MO_init_154 : decode b_MO_init 154 = .ok (.aload_n 0, 1) := by decide +kernel
theorem d_MO_init_155 : decode b_MO_init 155 = .ok (.bipush 6, 2) := by decide +kernel
theorem d_MO_init_157 : decode b_MO_init 157 = .ok (.newarray .long, 2) := by decide +kernel
theorem d_MO_init_159 : decode b_MO_init 159 = .ok (.putfield 72, 3) := by decide +kernel
theorem d_MO_init_162 : decode b_MO_init 162 = .ok (.aload_n 0, 1) := by decide +kernel
theorem d_MO_init_163 : decode b_MO_init 163 = .ok (.bipush 6, 2) := by decide +kernel
theorem d_MO_init_165 : decode b_MO_init 165 = .ok (.newarray .long, 2) := by decide +kernel
theorem d_MO_init_167 : decode b_MO_init 167 = .ok (.putfield 75, 3) := by decide +kernel
theorem d_MO_init_170 : decode b_MO_init 170 = .ok (.aload_n 0, 1) := by decide +kernel
theorem d_MO_init_171 : decode b_MO_init 171 = .ok (.bipush 6, 2) := by decide +kernel
theorem d_MO_init_173 : decode b_MO_init 173 = .ok (.newarray .int, 2) := by decide +kernel
theorem d_MO_init_175 : decode b_MO_init 175 = .ok (.putfield 78, 3) := by decide +kernel
theorem d_MO_init_178 : decode b_MO_init 178 = .ok (.return_, 1) := by decide +kernel
theorem d_SE_init_0 : decode b_SE_init 0 = .ok (.aload_n 0, 1) := by decide +kernel
theorem d_SE_init_1 : decode b_SE_init 1 = .ok (.invokespecial 3, 3) := by decide +kernel
theorem d_SE_init_4 : decode b_SE_init 4 = .ok (.aload_n 0, 1) := by decide +kernel
theorem d_SE_init_5 : decode b_SE_init 5 = .ok (.bipush 6, 2) := by decide +kernel
theorem d_SE_init_7 : decode b_SE_init 7 = .ok (.newarray .int, 2) := by decide +kernel
theorem d_SE_init_9 : decode b_SE_init 9 = .ok (.putfield 9, 3) := by decide +kernel
theorem d_SE_init_12 : decode b_SE_init 12 = .ok (.aload_n 0, 1) := by decide +kernel
theorem d_SE_init_13 : decode b_SE_init 13 = .ok (.iconst 4, 1) := by decide +kernel
theorem d_SE_init_14 : decode b_SE_init 14 = .ok (.newarray .int, 2) := by decide +kernel
theorem d_SE_init_16 : decode b_SE_init 16 = .ok (.putfield 15, 3) := by decide +kernel
theorem d_SE_init_19 : decode b_SE_init 19 = .ok (.aload_n 0, 1) := by decide +kernel
theorem d_SE_init_20 : decode b_SE_init 20 = .ok (.iconst 4, 1) := by decide +kernel
theorem d_SE_init_21 : decode b_SE_init 21 = .ok (.bipush 7, 2) := by decide +kernel
theorem d_SE_init_23 : decode b_SE_init 23 = .ok (.multianewarray 18 2, 4) := by decide +kernel
theorem d_SE_init_27 : decode b_SE_init 27 = .ok (.putfield 20, 3) := by decide +kernel
theorem d_SE_init_30 : decode b_SE_init 30 = .ok (.aload_n 0, 1) := by decide +kernel
theorem d_SE_init_31 : decode b_SE_init 31 = .ok (.iconst 4, 1) := by decide +kernel
theorem d_SE_init_32 : decode b_SE_init 32 = .ok (.bipush 7, 2) := by decide +kernel
theorem d_SE_init_34 : decode b_SE_init 34 = .ok (.multianewarray 18 2, 4) := by decide +kernel
theorem d_SE_init_38 : decode b_SE_init 38 = .ok (.putfield 23, 3) := by decide +kernel
theorem d_SE_init_41 : decode b_SE_init 41 = .ok (.aload_n 0, 1) := by decide +kernel
theorem d_SE_init_42 : decode b_SE_init 42 = .ok (.iconst 4, 1) := by decide +kernel
theorem d_SE_init_43 : decode b_SE_init 43 = .ok (.bipush 6, 2) := by decide +kernel
theorem d_SE_init_45 : decode b_SE_init 45 = .ok (.multianewarray 18 2, 4) := by decide +kernel
theorem d_SE_init_49 : decode b_SE_init 49 = .ok (.putfield 26, 3) := by decide +kernel
theorem d_SE_init_52 : decode b_SE_init 52 = .ok (.aload_n 0, 1) := by decide +kernel
theorem d_SE_init_53 : decode b_SE_init 53 = .ok (.iconst 0, 1) := by decide +kernel
theorem d_SE_init_54 : decode b_SE_init 54 = .ok (.putfield 29, 3) := by decide +kernel
theorem d_SE_init_57 : decode b_SE_init 57 = .ok (.aload_n 0, 1) := by decide +kernel
theorem d_SE_init_58 : decode b_SE_init 58 = .ok (.iconst 0, 1) := by decide +kernel
theorem d_SE_init_59 : decode b_SE_init 59 = .ok (.putfield 33, 3) := by decide +kernel
theorem d_SE_init_62 : decode b_SE_init 62 = .ok (.aload_n 0, 1) := by decide +kernel
theorem d_SE_init_63 : decode b_SE_init 63 = .ok (.iconst 0, 1) := by decide +kernel
theorem d_SE_init_64 : decode b_SE_init 64 = .ok (.putfield 36, 3) := by decide +kernel
theorem d_SE_init_67 : decode b_SE_init 67 = .ok (.return_, 1) := by decide +kernel
theorem d_TA_init_0 : decode b_TA_init 0 = .ok (.aload_n 0, 1) := by decide +kernel
theorem d_TA_init_1 : decode b_TA_init 1 = .ok (.invokespecial 1, 3) := by decide +kernel
theorem d_TA_init_4 : decode b_TA_init 4 = .ok (.return_, 1) := by decide +kernel
theorem d_TX_init_0 : decode b_TX_init 0 = .ok (.aload_n 0, 1) := by decide +kernel
theorem d_TX_init_1 : decode b_TX_init 1 = .ok (.invokespecial 3, 3) := by decide +kernel
theorem d_TX_init_4 : decode b_TX_init 4 = .ok (.aload_n 0, 1) := by decide +kernel
theorem d_TX_init_5 : decode b_TX_init 5 = .ok (.sipush 300, 3) := by decide +kernel
theorem d_TX_init_8 : decode b_TX_init 8 = .ok (.newarray .byte, 2) := by decide +kernel
theorem d_TX_init_10 : decode b_TX_init 10 = .ok (.putfield 9, 3) := by decide +kernel
theorem d_TX_init_13 : decode b_TX_init 13 = .ok (.aload_n 0, 1) := by decide +kernel
theorem d_TX_init_14 : decode b_TX_init 14 = .ok (.iconst 0, 1) := by decide +kernel
theorem d_TX_init_15 : decode b_TX_init 15 = .ok (.putfield 15, 3) := by decide +kernel
theorem d_TX_init_18 : decode b_TX_init 18 = .ok (.return_, 1) := by decide +kernel
theorem d_VL_init_0 : decode b_VL_init 0 = .ok (.aload_n 0, 1) := by decide +kernel
theorem d_VL_init_1 : decode b_VL_init 1 = .ok (.invokespecial 3, 3) := by decide +kernel
theorem d_VL_init_4 : decode b_VL_init 4 = .ok (.aload_n 0, 1) := by decide +kernel
theorem d_VL_init_5 : decode b_VL_init 5 = .ok (.sipush 12000, 3) := by decide +kernel
theorem d_VL_init_8 : decode b_VL_init 8 = .ok (.newarray .byte, 2) := by decide +kernel
theorem d_VL_init_10 : decode b_VL_init 10 = .ok (.putfield 9, 3) := by decide +kernel
theorem d_VL_init_13 : decode b_VL_init 13 = .ok (.aload_n 0, 1) := by decide +kernel
theorem d_VL_init_14 : decode b_VL_init 14 = .ok (.iconst 0, 1) := by decide +kernel
theorem d_VL_init_15 : decode b_VL_init 15 = .ok (.putfield 15, 3) := by decide +kernel
theorem d_VL_init_18 : decode b_VL_init 18 = .ok (.aload_n 0, 1) := by decide +kernel
theorem d_VL_init_19 : decode b_VL_init 19 = .ok (.iconst 0, 1) := by decide +kernel
theorem d_VL_init_20 : decode b_VL_init 20 = .ok (.putfield 19, 3) := by decide +kernel
theorem d_VL_init_23 : decode b_VL_init 23 = .ok (.aload_n 0, 1) := by decide +kernel
theorem d_VL_init_24 : decode b_VL_init 24 = .ok (.iconst 0, 1) := by decide +kernel
theorem d_VL_init_25 : decode b_VL_init 25 = .ok (.putfield 23, 3) := by decide +kernel
theorem d_VL_init_28 : decode b_VL_init 28 = .ok (.aload_n 0, 1) := by decide +kernel
theorem d_VL_init_29 : decode b_VL_init 29 = .ok (.iconst 0, 1) := by decide +kernel
theorem d_VL_init_30 : decode b_VL_init 30 = .ok (.putfield 26, 3) := by decide +kernel
theorem d_VL_init_33 : decode b_VL_init 33 = .ok (.aload_n 0, 1) := by decide +kernel
theorem d_VL_init_34 : decode b_VL_init 34 = .ok (.iconst 0, 1) := by decide +kernel
theorem d_VL_init_35 : decode b_VL_init 35 = .ok (.putfield 29, 3) := by decide +kernel
theorem d_VL_init_38 : decode b_VL_init 38 = .ok (.return_, 1) := by decide +kernel
theorem d_WO_init_0 : decode b_WO_init 0 = .ok (.aload_n 0, 1) := by decide +kernel
theorem d_WO_init_1 : decode b_WO_init 1 = .ok (.invokespecial 3, 3) := by decide +kernel
theorem d_WO_init_4 : decode b_WO_init 4 = .ok (.aload_n 0, 1) := by decide +kernel
theorem d_WO_init_5 : decode b_WO_init 5 = .ok (.sipush 300, 3) := by decide +kernel
theorem d_WO_init_8 : decode b_WO_init 8 = .ok (.newarray .int, 2) := by decide +kernel
theorem d_WO_init_10 : decode b_WO_init 10 = .ok (.putfield 9, 3) := by decide +kernel
theorem d_WO_init_13 : decode b_WO_init 13 = .ok (.aload_n 0, 1) := by decide +kernel
theorem d_WO_init_14 : decode b_WO_init 14 = .ok (.sipush 300, 3) := by decide +kernel
theorem d_WO_init_17 : decode b_WO_init 17 = .ok (.newarray .int, 2) := by decide +kernel
theorem d_WO_init_19 : decode b_WO_init 19 = .ok (.putfield 15, 3) := by decide +kernel
theorem d_WO_init_22 : decode b_WO_init 22 = .ok (.aload_n 0, 1) := by decide +kernel
theorem d_WO_init_23 : decode b_WO_init 23 = .ok (.sipush 300, 3) := by decide +kernel
theorem d_WO_init_26 : decode b_WO_init 26 = .ok (.newarray .int, 2) := by decide +kernel
theorem d_WO_init_28 : decode b_WO_init 28 = .ok (.putfield 18, 3) := by decide +kernel
theorem d_WO_init_31 : decode b_WO_init 31 = .ok (.aload_n 0, 1) := by decide +kernel
theorem d_WO_init_32 : decode b_WO_init 32 = .ok (.iconst 0, 1) := by decide +kernel
theorem d_WO_init_33 : decode b_WO_init 33 = .ok (.putfield 21, 3) := by decide +kernel
theorem d_WO_init_36 : decode b_WO_init 36 = .ok (.aload_n 0, 1) := by decide +kernel
theorem d_WO_init_37 : decode b_WO_init 37 = .ok (.iconst 0, 1) := by decide +kernel
theorem d_WO_init_38 : decode b_WO_init 38 = .ok (.putfield 25, 3) := by decide +kernel
theorem d_WO_init_41 : decode b_WO_init 41 = .ok (.aload_n 0, 1) := by decide +kernel
theorem d_WO_init_42 : decode b_WO_init 42 = .ok (.iconst 0, 1) := by decide +kernel
theorem d_WO_init_43 : decode b_WO_init 43 = .ok (.putfield 28, 3) := by decide +kernel
theorem d_WO_init_46 : decode b_WO_init 46 = .ok (.aload_n 0, 1) := by decide +kernel
theorem d_WO_init_47 : decode b_WO_init 47 = .ok (.iconst (-1), 1) := by decide +kernel
theorem d_WO_init_48 : decode b_WO_init 48 = .ok (.putfield 32, 3) := by decide +kernel
theorem d_WO_init_51 : decode b_WO_init 51 = .ok (.return_, 1) := by decide +kernel
