theorem k_17 : (Jvm.Cond.initialized "java/lang/IndexOutOfBoundsException") ∈ wd := wd_t (List.mem_of_getElem? (i := 17) (by decide +kernel)) rfl
theorem k_18 : (Jvm.Cond.initialized "java/lang/IllegalStateException") ∈ wd := wd_t (List.mem_of_getElem? (i := 18) (by decide +kernel)) rfl
theorem k_19 : (Jvm.Cond.initialized "java/lang/IllegalArgumentException") ∈ wd := wd_t (List.mem_of_getElem? (i := 19) (by decide +kernel)) rfl
theorem k_606 : (Jvm.Cond.classLink "LeastSolutions" (118 : Nat) "java/lang/IndexOutOfBoundsException") ∈ wd := wd_t (List.mem_of_getElem? (i := 606) (by decide +kernel)) rfl
theorem k_682 : (Jvm.Cond.classLink "LeastSolutions" (266 : Nat) "java/lang/IllegalStateException") ∈ wd := wd_t (List.mem_of_getElem? (i := 682) (by decide +kernel)) rfl
theorem k_735 : (Jvm.Cond.classLink "LeastSolutions" (146 : Nat) "java/lang/IllegalArgumentException") ∈ wd := wd_t (List.mem_of_getElem? (i := 735) (by decide +kernel)) rfl

