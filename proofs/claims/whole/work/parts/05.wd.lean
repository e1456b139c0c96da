/-! the words that every method has: those of the tables that stay -/
def wd : List Cond := lw_tbl.filter goodWord
theorem wd_t {w : Cond} (h : w ∈ tables_1) (hg : goodWord w = true) : w ∈ wd := List.mem_filter.mpr ⟨List.mem_append_right _ h, hg⟩
theorem wd_p {q : MethodName × Nat} (h : q ∈ lw_privs) : Cond.selects q.1.cls q.1 q.1 ∈ wd := List.mem_filter.mpr ⟨List.mem_append_left _ (List.mem_map.mpr ⟨q, h, rfl⟩), rfl⟩
theorem wd_g {w0 : Cond} (h : w0 ∈ wd) : GoodIn wd (w0 :: wd) := fun w hw => by
  rcases List.mem_cons.mp hw with rfl | hw
  · exact ⟨h, good_of_word (List.mem_filter.mp h).2⟩
  · exact ⟨hw, good_of_word (List.mem_filter.mp hw).2⟩
section WD
variable {R : Room} {s : State} {args : Array Value} {own C host : String} {index maxL mc ms : Nat} {y : MethodName} {bytes : ByteArray} {ret : Option FieldType} {rm : Room}
theorem wd_V (n : Nat) (hts : ∀ w ∈ wd, w.before args s = true) (hc : Cond.code y bytes maxL ret ∈ wd) (hi : Cond.initialized y.cls ∈ wd) (hl : Cond.methodLink own index y ∈ wd) (hin : Cond.instanceMethod y ∈ wd) (hse : Cond.selects C y y ∈ wd) (hrc : rm.cells = mc) (hrs : rm.slots = ms)
    (hd : y.cls ≠ "java/lang/invoke/MethodHandle" ∧ y.cls ≠ "java/lang/invoke/VarHandle" ∧ (parseMethodDescriptor y.desc).map (fun d => d.parameters.length) = some n) (hR : rm.frames + 1 ≤ R.frames ∧ 8 + (maxL + 11) + rm.locals ≤ R.locals) :
    CallW R s args own C index y bytes maxL ret (Cond.code y bytes maxL ret :: wd) rm mc ms n := ⟨callB_of n hts (wd_g hc) rfl hrc hrs (hts _ hi) (hts _ hl) hd hR, hts _ hin, hts _ hse⟩
theorem wd_S (n : Nat) (hts : ∀ w ∈ wd, w.before args s = true) (hc : Cond.code y bytes maxL ret ∈ wd) (hi : Cond.initialized y.cls ∈ wd) (hl : Cond.methodLink own index y ∈ wd) (hst : Cond.static y ∈ wd) (hrc : rm.cells = mc) (hrs : rm.slots = ms)
    (hd : y.cls ≠ "java/lang/invoke/MethodHandle" ∧ y.cls ≠ "java/lang/invoke/VarHandle" ∧ (parseMethodDescriptor y.desc).map (fun d => d.parameters.length) = some n) (hR : rm.frames + 1 ≤ R.frames ∧ 8 + (maxL + 11) + rm.locals ≤ R.locals) :
    CallB R s args own index y bytes maxL ret (Cond.code y bytes maxL ret :: wd) rm mc ms n ∧ (Cond.static y).before args s = true := ⟨callB_of n hts (wd_g hc) rfl hrc hrs (hts _ hi) (hts _ hl) hd hR, hts _ hst⟩
theorem wd_I (n : Nat) (hts : ∀ w ∈ wd, w.before args s = true) (hc : Cond.code y bytes maxL none ∈ wd) (hi : Cond.initialized y.cls ∈ wd) (hl : Cond.methodLink own index y ∈ wd) (hin : Cond.instanceMethod y ∈ wd) (hy1 : y.name = "<init>") (hrc : rm.cells = mc) (hrs : rm.slots = ms)
    (hd : y.cls ≠ "java/lang/invoke/MethodHandle" ∧ y.cls ≠ "java/lang/invoke/VarHandle" ∧ (parseMethodDescriptor y.desc).map (fun d => d.parameters.length) = some n) (hR : rm.frames + 1 ≤ R.frames ∧ 8 + (maxL + 11) + rm.locals ≤ R.locals) :
    CallB R s args own index y bytes maxL none (Cond.code y bytes maxL none :: wd) rm mc ms n ∧ y.name = "<init>" ∧ (Cond.instanceMethod y).before args s = true := ⟨callB_of n hts (wd_g hc) rfl hrc hrs (hts _ hi) (hts _ hl) hd hR, hy1, hts _ hin⟩
theorem wd_IN (n : Nat) (hts : ∀ w ∈ wd, w.before args s = true) (hc : Cond.code y bytes maxL none ∈ wd) (hi : Cond.initialized y.cls ∈ wd) (hl : va_Nw (.methodLinkNest own index y host) s) (hin : Cond.instanceMethod y ∈ wd) (hy1 : y.name = "<init>") (hrc : rm.cells = mc) (hrs : rm.slots = ms)
    (hd : y.cls ≠ "java/lang/invoke/MethodHandle" ∧ y.cls ≠ "java/lang/invoke/VarHandle" ∧ (parseMethodDescriptor y.desc).map (fun d => d.parameters.length) = some n) (hR : rm.frames + 1 ≤ R.frames ∧ 8 + (maxL + 11) + rm.locals ≤ R.locals) :
    va_CN R s args own index y host bytes maxL none (Cond.code y bytes maxL none :: wd) rm mc ms n ∧ y.name = "<init>" ∧ (Cond.instanceMethod y).before args s = true := ⟨va_cnB n hts (wd_g hc) rfl hrc hrs hl (hts _ hi) hd hR, hy1, hts _ hin⟩
end WD
