theorem k_884 : (Jvm.Cond.methodLink "LeastSolutionsModel" (1 : Nat) ({ cls := "java/lang/Object", name := "<init>", desc := "()V" } : Jvm.MethodName)) ∈ wd := wd_t (List.mem_of_getElem? (i := 884) (by decide +kernel)) rfl
theorem k_885 : (Jvm.Cond.constant "LeastSolutionsModel" (51 : Nat) (36000 : Int32)) ∈ wd := wd_t (List.mem_of_getElem? (i := 885) (by decide +kernel)) rfl
theorem k_920 : (Jvm.Cond.fieldLink "LeastSolutionsModel" (75 : Nat) "LeastSolutionsModel" "along" "[J") ∈ wd := wd_t (List.mem_of_getElem? (i := 920) (by decide +kernel)) rfl
theorem k_995 : (Jvm.Cond.arrayClass Jvm.ClassFile.FieldType.boolean) ∈ wd := wd_t (List.mem_of_getElem? (i := 995) (by decide +kernel)) rfl
abbrev y_MO_init : MethodName := ⟨"LeastSolutionsModel", "<init>", "()V"⟩
abbrev b_MO_init : ByteArray := prog_12_method_1_code
