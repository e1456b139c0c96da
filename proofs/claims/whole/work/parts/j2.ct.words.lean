theorem k_8 : (Jvm.Cond.initialized "LeastSolutions$Taker") ∈ wd := wd_t (List.mem_of_getElem? (i := 8) (by decide +kernel)) rfl
theorem k_35 : (Jvm.Cond.methodLink "LeastSolutions$Text" (3 : Nat) ({ cls := "java/lang/Object", name := "<init>", desc := "()V" } : Jvm.MethodName)) ∈ wd := wd_t (List.mem_of_getElem? (i := 35) (by decide +kernel)) rfl
theorem k_45 : (Jvm.Cond.arrayClass Jvm.ClassFile.FieldType.byte) ∈ wd := wd_t (List.mem_of_getElem? (i := 45) (by decide +kernel)) rfl
theorem k_51 : (Jvm.Cond.methodLink "LeastSolutions$Words" (3 : Nat) ({ cls := "java/lang/Object", name := "<init>", desc := "()V" } : Jvm.MethodName)) ∈ wd := wd_t (List.mem_of_getElem? (i := 51) (by decide +kernel)) rfl
theorem k_79 : (Jvm.Cond.arrayClass Jvm.ClassFile.FieldType.int) ∈ wd := wd_t (List.mem_of_getElem? (i := 79) (by decide +kernel)) rfl
theorem k_85 : (Jvm.Cond.methodLink "LeastSolutions$Builder" (3 : Nat) ({ cls := "java/lang/Object", name := "<init>", desc := "()V" } : Jvm.MethodName)) ∈ wd := wd_t (List.mem_of_getElem? (i := 85) (by decide +kernel)) rfl
theorem k_86 : (Jvm.Cond.classLink "LeastSolutions$Builder" (9 : Nat) "LeastSolutions$Equations") ∈ wd := wd_t (List.mem_of_getElem? (i := 86) (by decide +kernel)) rfl
theorem k_87 : (Jvm.Cond.instantiable "LeastSolutions$Equations" (8 : Nat)) ∈ wd := wd_t (List.mem_of_getElem? (i := 87) (by decide +kernel)) rfl
theorem k_89 : (Jvm.Cond.instanceMethod ({ cls := "LeastSolutions$Equations", name := "<init>", desc := "()V" } : Jvm.MethodName)) ∈ wd := wd_t (List.mem_of_getElem? (i := 89) (by decide +kernel)) rfl
theorem k_90 : (Jvm.Cond.code ({ cls := "LeastSolutions$Equations", name := "<init>", desc := "()V" } : Jvm.MethodName) prog_4_method_1_code (1 : Nat) (Option.none : Option Jvm.ClassFile.FieldType)) ∈ wd := wd_t (List.mem_of_getElem? (i := 90) (by decide +kernel)) rfl
theorem k_91 : (Jvm.Cond.methodLink "LeastSolutions$Equations" (3 : Nat) ({ cls := "java/lang/Object", name := "<init>", desc := "()V" } : Jvm.MethodName)) ∈ wd := wd_t (List.mem_of_getElem? (i := 91) (by decide +kernel)) rfl
theorem k_92 : (Jvm.Cond.classLink "LeastSolutions$Equations" (9 : Nat) "[[I") ∈ wd := wd_t (List.mem_of_getElem? (i := 92) (by decide +kernel)) rfl
theorem k_164 : (Jvm.Cond.methodLink "LeastSolutions$Lattice" (3 : Nat) ({ cls := "java/lang/Object", name := "<init>", desc := "()V" } : Jvm.MethodName)) ∈ wd := wd_t (List.mem_of_getElem? (i := 164) (by decide +kernel)) rfl
theorem k_165 : (Jvm.Cond.classLink "LeastSolutions$Lattice" (11 : Nat) "[[J") ∈ wd := wd_t (List.mem_of_getElem? (i := 165) (by decide +kernel)) rfl
theorem k_196 : (Jvm.Cond.arrayClass Jvm.ClassFile.FieldType.long) ∈ wd := wd_t (List.mem_of_getElem? (i := 196) (by decide +kernel)) rfl
theorem k_202 : (Jvm.Cond.methodLink "LeastSolutions$Search" (3 : Nat) ({ cls := "java/lang/Object", name := "<init>", desc := "()V" } : Jvm.MethodName)) ∈ wd := wd_t (List.mem_of_getElem? (i := 202) (by decide +kernel)) rfl
theorem k_203 : (Jvm.Cond.classLink "LeastSolutions$Search" (18 : Nat) "[[I") ∈ wd := wd_t (List.mem_of_getElem? (i := 203) (by decide +kernel)) rfl
theorem k_237 : (Jvm.Cond.instanceMethod ({ cls := "LeastSolutions$Taker", name := "<init>", desc := "()V" } : Jvm.MethodName)) ∈ wd := wd_t (List.mem_of_getElem? (i := 237) (by decide +kernel)) rfl
theorem k_238 : (Jvm.Cond.code ({ cls := "LeastSolutions$Taker", name := "<init>", desc := "()V" } : Jvm.MethodName) prog_7_method_1_code (1 : Nat) (Option.none : Option Jvm.ClassFile.FieldType)) ∈ wd := wd_t (List.mem_of_getElem? (i := 238) (by decide +kernel)) rfl
theorem k_239 : (Jvm.Cond.methodLink "LeastSolutions$Taker" (1 : Nat) ({ cls := "java/lang/Object", name := "<init>", desc := "()V" } : Jvm.MethodName)) ∈ wd := wd_t (List.mem_of_getElem? (i := 239) (by decide +kernel)) rfl
abbrev y_BU_init : MethodName := ⟨"LeastSolutions$Builder", "<init>", "()V"⟩
abbrev b_BU_init : ByteArray := prog_2_method_1_code
abbrev y_CH_init : MethodName := ⟨"LeastSolutions$Cheapest", "<init>", "()V"⟩
abbrev b_CH_init : ByteArray := prog_3_method_1_code
abbrev y_EQ_init : MethodName := ⟨"LeastSolutions$Equations", "<init>", "()V"⟩
abbrev b_EQ_init : ByteArray := prog_4_method_1_code
abbrev y_LA_init : MethodName := ⟨"LeastSolutions$Lattice", "<init>", "()V"⟩
abbrev b_LA_init : ByteArray := prog_5_method_1_code
abbrev y_SE_init : MethodName := ⟨"LeastSolutions$Search", "<init>", "()V"⟩
abbrev b_SE_init : ByteArray := prog_6_method_1_code
abbrev y_TA_init : MethodName := ⟨"LeastSolutions$Taker", "<init>", "()V"⟩
abbrev b_TA_init : ByteArray := prog_7_method_1_code
abbrev y_TX_init : MethodName := ⟨"LeastSolutions$Text", "<init>", "()V"⟩
abbrev b_TX_init : ByteArray := prog_8_method_1_code
abbrev y_VL_init : MethodName := ⟨"LeastSolutions$VectorList", "<init>", "()V"⟩
abbrev b_VL_init : ByteArray := prog_9_method_1_code
abbrev y_WO_init : MethodName := ⟨"LeastSolutions$Words", "<init>", "()V"⟩
abbrev b_WO_init : ByteArray := prog_10_method_1_code
