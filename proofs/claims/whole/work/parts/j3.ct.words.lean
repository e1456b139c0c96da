theorem k_27 : (Jvm.Cond.methodLink "LeastSolutions" (1 : Nat) ({ cls := "java/lang/Object", name := "<init>", desc := "()V" } : Jvm.MethodName)) ∈ wd := wd_t (List.mem_of_getElem? (i := 27) (by decide +kernel)) rfl
theorem k_30 : (Jvm.Cond.classLink "LeastSolutions" (7 : Nat) "LeastSolutions$Text") ∈ wd := wd_t (List.mem_of_getElem? (i := 30) (by decide +kernel)) rfl
theorem k_31 : (Jvm.Cond.instantiable "LeastSolutions$Text" (2 : Nat)) ∈ wd := wd_t (List.mem_of_getElem? (i := 31) (by decide +kernel)) rfl
theorem k_33 : (Jvm.Cond.instanceMethod ({ cls := "LeastSolutions$Text", name := "<init>", desc := "()V" } : Jvm.MethodName)) ∈ wd := wd_t (List.mem_of_getElem? (i := 33) (by decide +kernel)) rfl
theorem k_34 : (Jvm.Cond.code ({ cls := "LeastSolutions$Text", name := "<init>", desc := "()V" } : Jvm.MethodName) prog_8_method_1_code (1 : Nat) (Option.none : Option Jvm.ClassFile.FieldType)) ∈ wd := wd_t (List.mem_of_getElem? (i := 34) (by decide +kernel)) rfl
theorem k_46 : (Jvm.Cond.classLink "LeastSolutions" (16 : Nat) "LeastSolutions$Words") ∈ wd := wd_t (List.mem_of_getElem? (i := 46) (by decide +kernel)) rfl
theorem k_47 : (Jvm.Cond.instantiable "LeastSolutions$Words" (7 : Nat)) ∈ wd := wd_t (List.mem_of_getElem? (i := 47) (by decide +kernel)) rfl
theorem k_49 : (Jvm.Cond.instanceMethod ({ cls := "LeastSolutions$Words", name := "<init>", desc := "()V" } : Jvm.MethodName)) ∈ wd := wd_t (List.mem_of_getElem? (i := 49) (by decide +kernel)) rfl
theorem k_50 : (Jvm.Cond.code ({ cls := "LeastSolutions$Words", name := "<init>", desc := "()V" } : Jvm.MethodName) prog_10_method_1_code (1 : Nat) (Option.none : Option Jvm.ClassFile.FieldType)) ∈ wd := wd_t (List.mem_of_getElem? (i := 50) (by decide +kernel)) rfl
theorem k_80 : (Jvm.Cond.classLink "LeastSolutions" (23 : Nat) "LeastSolutions$Builder") ∈ wd := wd_t (List.mem_of_getElem? (i := 80) (by decide +kernel)) rfl
theorem k_81 : (Jvm.Cond.instantiable "LeastSolutions$Builder" (8 : Nat)) ∈ wd := wd_t (List.mem_of_getElem? (i := 81) (by decide +kernel)) rfl
theorem k_83 : (Jvm.Cond.instanceMethod ({ cls := "LeastSolutions$Builder", name := "<init>", desc := "()V" } : Jvm.MethodName)) ∈ wd := wd_t (List.mem_of_getElem? (i := 83) (by decide +kernel)) rfl
theorem k_84 : (Jvm.Cond.code ({ cls := "LeastSolutions$Builder", name := "<init>", desc := "()V" } : Jvm.MethodName) prog_2_method_1_code (1 : Nat) (Option.none : Option Jvm.ClassFile.FieldType)) ∈ wd := wd_t (List.mem_of_getElem? (i := 84) (by decide +kernel)) rfl
theorem k_159 : (Jvm.Cond.classLink "LeastSolutions" (30 : Nat) "LeastSolutions$Lattice") ∈ wd := wd_t (List.mem_of_getElem? (i := 159) (by decide +kernel)) rfl
theorem k_160 : (Jvm.Cond.instantiable "LeastSolutions$Lattice" (9 : Nat)) ∈ wd := wd_t (List.mem_of_getElem? (i := 160) (by decide +kernel)) rfl
theorem k_162 : (Jvm.Cond.instanceMethod ({ cls := "LeastSolutions$Lattice", name := "<init>", desc := "()V" } : Jvm.MethodName)) ∈ wd := wd_t (List.mem_of_getElem? (i := 162) (by decide +kernel)) rfl
theorem k_163 : (Jvm.Cond.code ({ cls := "LeastSolutions$Lattice", name := "<init>", desc := "()V" } : Jvm.MethodName) prog_5_method_1_code (1 : Nat) (Option.none : Option Jvm.ClassFile.FieldType)) ∈ wd := wd_t (List.mem_of_getElem? (i := 163) (by decide +kernel)) rfl
theorem k_197 : (Jvm.Cond.classLink "LeastSolutions" (37 : Nat) "LeastSolutions$Search") ∈ wd := wd_t (List.mem_of_getElem? (i := 197) (by decide +kernel)) rfl
theorem k_198 : (Jvm.Cond.instantiable "LeastSolutions$Search" (8 : Nat)) ∈ wd := wd_t (List.mem_of_getElem? (i := 198) (by decide +kernel)) rfl
theorem k_200 : (Jvm.Cond.instanceMethod ({ cls := "LeastSolutions$Search", name := "<init>", desc := "()V" } : Jvm.MethodName)) ∈ wd := wd_t (List.mem_of_getElem? (i := 200) (by decide +kernel)) rfl
theorem k_201 : (Jvm.Cond.code ({ cls := "LeastSolutions$Search", name := "<init>", desc := "()V" } : Jvm.MethodName) prog_6_method_1_code (1 : Nat) (Option.none : Option Jvm.ClassFile.FieldType)) ∈ wd := wd_t (List.mem_of_getElem? (i := 201) (by decide +kernel)) rfl
theorem k_229 : (Jvm.Cond.classLink "LeastSolutions" (44 : Nat) "LeastSolutions$VectorList") ∈ wd := wd_t (List.mem_of_getElem? (i := 229) (by decide +kernel)) rfl
theorem k_231 : (Jvm.Cond.classLink "LeastSolutions" (50 : Nat) "LeastSolutions$Cheapest") ∈ wd := wd_t (List.mem_of_getElem? (i := 231) (by decide +kernel)) rfl
theorem k_232 : (Jvm.Cond.instantiable "LeastSolutions$Cheapest" (5 : Nat)) ∈ wd := wd_t (List.mem_of_getElem? (i := 232) (by decide +kernel)) rfl
theorem k_234 : (Jvm.Cond.instanceMethod ({ cls := "LeastSolutions$Cheapest", name := "<init>", desc := "()V" } : Jvm.MethodName)) ∈ wd := wd_t (List.mem_of_getElem? (i := 234) (by decide +kernel)) rfl
theorem k_235 : (Jvm.Cond.code ({ cls := "LeastSolutions$Cheapest", name := "<init>", desc := "()V" } : Jvm.MethodName) prog_3_method_1_code (1 : Nat) (Option.none : Option Jvm.ClassFile.FieldType)) ∈ wd := wd_t (List.mem_of_getElem? (i := 235) (by decide +kernel)) rfl
theorem k_260 : (Jvm.Cond.classLink "LeastSolutions" (70 : Nat) "LeastSolutions$Equations") ∈ wd := wd_t (List.mem_of_getElem? (i := 260) (by decide +kernel)) rfl
theorem k_262 : (Jvm.Cond.instantiable "LeastSolutions$VectorList" (6 : Nat)) ∈ wd := wd_t (List.mem_of_getElem? (i := 262) (by decide +kernel)) rfl
theorem k_264 : (Jvm.Cond.instanceMethod ({ cls := "LeastSolutions$VectorList", name := "<init>", desc := "()V" } : Jvm.MethodName)) ∈ wd := wd_t (List.mem_of_getElem? (i := 264) (by decide +kernel)) rfl
theorem k_265 : (Jvm.Cond.code ({ cls := "LeastSolutions$VectorList", name := "<init>", desc := "()V" } : Jvm.MethodName) prog_9_method_1_code (1 : Nat) (Option.none : Option Jvm.ClassFile.FieldType)) ∈ wd := wd_t (List.mem_of_getElem? (i := 265) (by decide +kernel)) rfl
abbrev y_LS_init : MethodName := ⟨"LeastSolutions", "<init>", "()V"⟩
abbrev b_LS_init : ByteArray := prog_1_method_1_code
