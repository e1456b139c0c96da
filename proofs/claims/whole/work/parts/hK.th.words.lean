theorem k_21 : (Jvm.Cond.initialized "java/util/NoSuchElementException") ∈ wd := wd_t (List.mem_of_getElem? (i := 21) (by decide +kernel)) rfl
theorem k_864 : (Jvm.Cond.classLink "LeastSolutions" (219 : Nat) "java/util/NoSuchElementException") ∈ wd := wd_t (List.mem_of_getElem? (i := 864) (by decide +kernel)) rfl

