theorem k_14 : (Jvm.Cond.initialized "java/lang/Throwable") ∈ wd := wd_t (List.mem_of_getElem? (i := 14) (by decide +kernel)) rfl
theorem k_28 : (Jvm.Cond.instanceMethod ({ cls := "java/lang/Object", name := "<init>", desc := "()V" } : Jvm.MethodName)) ∈ wd := wd_t (List.mem_of_getElem? (i := 28) (by decide +kernel)) rfl
theorem k_29 : (Jvm.Cond.code ({ cls := "java/lang/Object", name := "<init>", desc := "()V" } : Jvm.MethodName) object_method_1_code (1 : Nat) (Option.none : Option Jvm.ClassFile.FieldType)) ∈ wd := wd_t (List.mem_of_getElem? (i := 29) (by decide +kernel)) rfl
theorem k_40 : (Jvm.Cond.laysFinal "LeastSolutions$Text" "LeastSolutions$Text" "characters" "[B") ∈ wd := wd_t (List.mem_of_getElem? (i := 40) (by decide +kernel)) rfl
theorem k_42 : (Jvm.Cond.lays "LeastSolutions$Text" "LeastSolutions$Text" "length" "I") ∈ wd := wd_t (List.mem_of_getElem? (i := 42) (by decide +kernel)) rfl
theorem k_64 : (Jvm.Cond.laysFinal "LeastSolutions$Words" "LeastSolutions$Words" "kinds" "[I") ∈ wd := wd_t (List.mem_of_getElem? (i := 64) (by decide +kernel)) rfl
theorem k_66 : (Jvm.Cond.laysFinal "LeastSolutions$Words" "LeastSolutions$Words" "places" "[I") ∈ wd := wd_t (List.mem_of_getElem? (i := 66) (by decide +kernel)) rfl
theorem k_68 : (Jvm.Cond.laysFinal "LeastSolutions$Words" "LeastSolutions$Words" "values" "[I") ∈ wd := wd_t (List.mem_of_getElem? (i := 68) (by decide +kernel)) rfl
theorem k_70 : (Jvm.Cond.lays "LeastSolutions$Words" "LeastSolutions$Words" "total" "I") ∈ wd := wd_t (List.mem_of_getElem? (i := 70) (by decide +kernel)) rfl
theorem k_72 : (Jvm.Cond.lays "LeastSolutions$Words" "LeastSolutions$Words" "state" "I") ∈ wd := wd_t (List.mem_of_getElem? (i := 72) (by decide +kernel)) rfl
theorem k_74 : (Jvm.Cond.lays "LeastSolutions$Words" "LeastSolutions$Words" "isRightSide" "Z") ∈ wd := wd_t (List.mem_of_getElem? (i := 74) (by decide +kernel)) rfl
theorem k_76 : (Jvm.Cond.lays "LeastSolutions$Words" "LeastSolutions$Words" "faultPlace" "I") ∈ wd := wd_t (List.mem_of_getElem? (i := 76) (by decide +kernel)) rfl
theorem k_116 : (Jvm.Cond.laysFinal "LeastSolutions$Equations" "LeastSolutions$Equations" "a" "[[I") ∈ wd := wd_t (List.mem_of_getElem? (i := 116) (by decide +kernel)) rfl
theorem k_118 : (Jvm.Cond.laysFinal "LeastSolutions$Equations" "LeastSolutions$Equations" "b" "[I") ∈ wd := wd_t (List.mem_of_getElem? (i := 118) (by decide +kernel)) rfl
theorem k_120 : (Jvm.Cond.laysFinal "LeastSolutions$Equations" "LeastSolutions$Equations" "letters" "[I") ∈ wd := wd_t (List.mem_of_getElem? (i := 120) (by decide +kernel)) rfl
theorem k_122 : (Jvm.Cond.laysFinal "LeastSolutions$Equations" "LeastSolutions$Equations" "slackRows" "[I") ∈ wd := wd_t (List.mem_of_getElem? (i := 122) (by decide +kernel)) rfl
theorem k_124 : (Jvm.Cond.laysFinal "LeastSolutions$Equations" "LeastSolutions$Equations" "slackNumbers" "[I") ∈ wd := wd_t (List.mem_of_getElem? (i := 124) (by decide +kernel)) rfl
theorem k_126 : (Jvm.Cond.lays "LeastSolutions$Equations" "LeastSolutions$Equations" "rows" "I") ∈ wd := wd_t (List.mem_of_getElem? (i := 126) (by decide +kernel)) rfl
theorem k_128 : (Jvm.Cond.lays "LeastSolutions$Equations" "LeastSolutions$Equations" "variables" "I") ∈ wd := wd_t (List.mem_of_getElem? (i := 128) (by decide +kernel)) rfl
theorem k_130 : (Jvm.Cond.lays "LeastSolutions$Equations" "LeastSolutions$Equations" "slacks" "I") ∈ wd := wd_t (List.mem_of_getElem? (i := 130) (by decide +kernel)) rfl
theorem k_142 : (Jvm.Cond.lays "LeastSolutions$Builder" "LeastSolutions$Builder" "result" "LLeastSolutions$Equations;") ∈ wd := wd_t (List.mem_of_getElem? (i := 142) (by decide +kernel)) rfl
theorem k_144 : (Jvm.Cond.lays "LeastSolutions$Builder" "LeastSolutions$Builder" "row" "I") ∈ wd := wd_t (List.mem_of_getElem? (i := 144) (by decide +kernel)) rfl
theorem k_146 : (Jvm.Cond.lays "LeastSolutions$Builder" "LeastSolutions$Builder" "side" "I") ∈ wd := wd_t (List.mem_of_getElem? (i := 146) (by decide +kernel)) rfl
theorem k_148 : (Jvm.Cond.lays "LeastSolutions$Builder" "LeastSolutions$Builder" "sign" "I") ∈ wd := wd_t (List.mem_of_getElem? (i := 148) (by decide +kernel)) rfl
theorem k_150 : (Jvm.Cond.lays "LeastSolutions$Builder" "LeastSolutions$Builder" "open" "I") ∈ wd := wd_t (List.mem_of_getElem? (i := 150) (by decide +kernel)) rfl
theorem k_152 : (Jvm.Cond.lays "LeastSolutions$Builder" "LeastSolutions$Builder" "relation" "I") ∈ wd := wd_t (List.mem_of_getElem? (i := 152) (by decide +kernel)) rfl
theorem k_154 : (Jvm.Cond.lays "LeastSolutions$Builder" "LeastSolutions$Builder" "relationPlace" "I") ∈ wd := wd_t (List.mem_of_getElem? (i := 154) (by decide +kernel)) rfl
theorem k_156 : (Jvm.Cond.lays "LeastSolutions$Builder" "LeastSolutions$Builder" "faultPlace" "I") ∈ wd := wd_t (List.mem_of_getElem? (i := 156) (by decide +kernel)) rfl
theorem k_177 : (Jvm.Cond.laysFinal "LeastSolutions$Lattice" "LeastSolutions$Lattice" "basis" "[[J") ∈ wd := wd_t (List.mem_of_getElem? (i := 177) (by decide +kernel)) rfl
theorem k_179 : (Jvm.Cond.laysFinal "LeastSolutions$Lattice" "LeastSolutions$Lattice" "rowLeadingAt" "[I") ∈ wd := wd_t (List.mem_of_getElem? (i := 179) (by decide +kernel)) rfl
theorem k_181 : (Jvm.Cond.laysFinal "LeastSolutions$Lattice" "LeastSolutions$Lattice" "kernelRows" "[I") ∈ wd := wd_t (List.mem_of_getElem? (i := 181) (by decide +kernel)) rfl
theorem k_183 : (Jvm.Cond.laysFinal "LeastSolutions$Lattice" "LeastSolutions$Lattice" "target" "[J") ∈ wd := wd_t (List.mem_of_getElem? (i := 183) (by decide +kernel)) rfl
theorem k_185 : (Jvm.Cond.laysFinal "LeastSolutions$Lattice" "LeastSolutions$Lattice" "fresh" "[J") ∈ wd := wd_t (List.mem_of_getElem? (i := 185) (by decide +kernel)) rfl
theorem k_187 : (Jvm.Cond.lays "LeastSolutions$Lattice" "LeastSolutions$Lattice" "kernelVectors" "I") ∈ wd := wd_t (List.mem_of_getElem? (i := 187) (by decide +kernel)) rfl
theorem k_189 : (Jvm.Cond.lays "LeastSolutions$Lattice" "LeastSolutions$Lattice" "height" "I") ∈ wd := wd_t (List.mem_of_getElem? (i := 189) (by decide +kernel)) rfl
theorem k_191 : (Jvm.Cond.lays "LeastSolutions$Lattice" "LeastSolutions$Lattice" "width" "I") ∈ wd := wd_t (List.mem_of_getElem? (i := 191) (by decide +kernel)) rfl
theorem k_193 : (Jvm.Cond.lays "LeastSolutions$Lattice" "LeastSolutions$Lattice" "used" "I") ∈ wd := wd_t (List.mem_of_getElem? (i := 193) (by decide +kernel)) rfl
theorem k_212 : (Jvm.Cond.laysFinal "LeastSolutions$Search" "LeastSolutions$Search" "vector" "[I") ∈ wd := wd_t (List.mem_of_getElem? (i := 212) (by decide +kernel)) rfl
theorem k_214 : (Jvm.Cond.laysFinal "LeastSolutions$Search" "LeastSolutions$Search" "lack" "[I") ∈ wd := wd_t (List.mem_of_getElem? (i := 214) (by decide +kernel)) rfl
theorem k_216 : (Jvm.Cond.laysFinal "LeastSolutions$Search" "LeastSolutions$Search" "lowest" "[[I") ∈ wd := wd_t (List.mem_of_getElem? (i := 216) (by decide +kernel)) rfl
theorem k_218 : (Jvm.Cond.laysFinal "LeastSolutions$Search" "LeastSolutions$Search" "highest" "[[I") ∈ wd := wd_t (List.mem_of_getElem? (i := 218) (by decide +kernel)) rfl
theorem k_220 : (Jvm.Cond.laysFinal "LeastSolutions$Search" "LeastSolutions$Search" "a" "[[I") ∈ wd := wd_t (List.mem_of_getElem? (i := 220) (by decide +kernel)) rfl
theorem k_222 : (Jvm.Cond.lays "LeastSolutions$Search" "LeastSolutions$Search" "rows" "I") ∈ wd := wd_t (List.mem_of_getElem? (i := 222) (by decide +kernel)) rfl
theorem k_224 : (Jvm.Cond.lays "LeastSolutions$Search" "LeastSolutions$Search" "columns" "I") ∈ wd := wd_t (List.mem_of_getElem? (i := 224) (by decide +kernel)) rfl
theorem k_226 : (Jvm.Cond.lays "LeastSolutions$Search" "LeastSolutions$Search" "isSigned" "Z") ∈ wd := wd_t (List.mem_of_getElem? (i := 226) (by decide +kernel)) rfl
theorem k_249 : (Jvm.Cond.laysFinal "LeastSolutions$Cheapest" "LeastSolutions$Cheapest" "vector" "[I") ∈ wd := wd_t (List.mem_of_getElem? (i := 249) (by decide +kernel)) rfl
theorem k_251 : (Jvm.Cond.laysFinal "LeastSolutions$Cheapest" "LeastSolutions$Cheapest" "costs" "[I") ∈ wd := wd_t (List.mem_of_getElem? (i := 251) (by decide +kernel)) rfl
theorem k_253 : (Jvm.Cond.lays "LeastSolutions$Cheapest" "LeastSolutions$Cheapest" "columns" "I") ∈ wd := wd_t (List.mem_of_getElem? (i := 253) (by decide +kernel)) rfl
theorem k_255 : (Jvm.Cond.lays "LeastSolutions$Cheapest" "LeastSolutions$Cheapest" "price" "I") ∈ wd := wd_t (List.mem_of_getElem? (i := 255) (by decide +kernel)) rfl
theorem k_257 : (Jvm.Cond.lays "LeastSolutions$Cheapest" "LeastSolutions$Cheapest" "isFound" "Z") ∈ wd := wd_t (List.mem_of_getElem? (i := 257) (by decide +kernel)) rfl
theorem k_276 : (Jvm.Cond.laysFinal "LeastSolutions$VectorList" "LeastSolutions$VectorList" "numbers" "[B") ∈ wd := wd_t (List.mem_of_getElem? (i := 276) (by decide +kernel)) rfl
theorem k_278 : (Jvm.Cond.lays "LeastSolutions$VectorList" "LeastSolutions$VectorList" "isThere" "Z") ∈ wd := wd_t (List.mem_of_getElem? (i := 278) (by decide +kernel)) rfl
theorem k_280 : (Jvm.Cond.lays "LeastSolutions$VectorList" "LeastSolutions$VectorList" "columns" "I") ∈ wd := wd_t (List.mem_of_getElem? (i := 280) (by decide +kernel)) rfl
theorem k_282 : (Jvm.Cond.lays "LeastSolutions$VectorList" "LeastSolutions$VectorList" "bound" "I") ∈ wd := wd_t (List.mem_of_getElem? (i := 282) (by decide +kernel)) rfl
theorem k_284 : (Jvm.Cond.lays "LeastSolutions$VectorList" "LeastSolutions$VectorList" "total" "I") ∈ wd := wd_t (List.mem_of_getElem? (i := 284) (by decide +kernel)) rfl
theorem k_286 : (Jvm.Cond.lays "LeastSolutions$VectorList" "LeastSolutions$VectorList" "lesser" "I") ∈ wd := wd_t (List.mem_of_getElem? (i := 286) (by decide +kernel)) rfl
theorem k_305 : (Jvm.Cond.laysFinal "LeastSolutions" "LeastSolutions" "text" "LLeastSolutions$Text;") ∈ wd := wd_t (List.mem_of_getElem? (i := 305) (by decide +kernel)) rfl
theorem k_307 : (Jvm.Cond.laysFinal "LeastSolutions" "LeastSolutions" "words" "LLeastSolutions$Words;") ∈ wd := wd_t (List.mem_of_getElem? (i := 307) (by decide +kernel)) rfl
theorem k_309 : (Jvm.Cond.laysFinal "LeastSolutions" "LeastSolutions" "builder" "LLeastSolutions$Builder;") ∈ wd := wd_t (List.mem_of_getElem? (i := 309) (by decide +kernel)) rfl
theorem k_311 : (Jvm.Cond.laysFinal "LeastSolutions" "LeastSolutions" "lattice" "LLeastSolutions$Lattice;") ∈ wd := wd_t (List.mem_of_getElem? (i := 311) (by decide +kernel)) rfl
theorem k_313 : (Jvm.Cond.laysFinal "LeastSolutions" "LeastSolutions" "search" "LLeastSolutions$Search;") ∈ wd := wd_t (List.mem_of_getElem? (i := 313) (by decide +kernel)) rfl
theorem k_315 : (Jvm.Cond.laysFinal "LeastSolutions" "LeastSolutions" "lists" "[LLeastSolutions$VectorList;") ∈ wd := wd_t (List.mem_of_getElem? (i := 315) (by decide +kernel)) rfl
theorem k_317 : (Jvm.Cond.laysFinal "LeastSolutions" "LeastSolutions" "cheapest" "LLeastSolutions$Cheapest;") ∈ wd := wd_t (List.mem_of_getElem? (i := 317) (by decide +kernel)) rfl
theorem k_319 : (Jvm.Cond.laysFinal "LeastSolutions" "LeastSolutions" "told" "[I") ∈ wd := wd_t (List.mem_of_getElem? (i := 319) (by decide +kernel)) rfl
theorem k_321 : (Jvm.Cond.laysFinal "LeastSolutions" "LeastSolutions" "rest" "[I") ∈ wd := wd_t (List.mem_of_getElem? (i := 321) (by decide +kernel)) rfl
theorem k_323 : (Jvm.Cond.laysFinal "LeastSolutions" "LeastSolutions" "taken" "[I") ∈ wd := wd_t (List.mem_of_getElem? (i := 323) (by decide +kernel)) rfl
theorem k_325 : (Jvm.Cond.laysFinal "LeastSolutions" "LeastSolutions" "bestVector" "[I") ∈ wd := wd_t (List.mem_of_getElem? (i := 325) (by decide +kernel)) rfl
theorem k_327 : (Jvm.Cond.lays "LeastSolutions" "LeastSolutions" "system" "LLeastSolutions$Equations;") ∈ wd := wd_t (List.mem_of_getElem? (i := 327) (by decide +kernel)) rfl
theorem k_329 : (Jvm.Cond.lays "LeastSolutions" "LeastSolutions" "hasSystem" "Z") ∈ wd := wd_t (List.mem_of_getElem? (i := 329) (by decide +kernel)) rfl
theorem k_331 : (Jvm.Cond.lays "LeastSolutions" "LeastSolutions" "hasSplit" "Z") ∈ wd := wd_t (List.mem_of_getElem? (i := 331) (by decide +kernel)) rfl
theorem k_333 : (Jvm.Cond.lays "LeastSolutions" "LeastSolutions" "hasBest" "Z") ∈ wd := wd_t (List.mem_of_getElem? (i := 333) (by decide +kernel)) rfl
theorem k_335 : (Jvm.Cond.lays "LeastSolutions" "LeastSolutions" "faultPlace" "I") ∈ wd := wd_t (List.mem_of_getElem? (i := 335) (by decide +kernel)) rfl
theorem k_607 : (Jvm.Cond.instantiable "java/lang/IndexOutOfBoundsException" (6 : Nat)) ∈ wd := wd_t (List.mem_of_getElem? (i := 607) (by decide +kernel)) rfl
theorem k_615 : (Jvm.Cond.selects "java/lang/IndexOutOfBoundsException" ({ cls := "java/lang/Throwable", name := "fillInStackTrace", desc := "(I)Ljava/lang/Throwable;" } : Jvm.MethodName) ({ cls := "java/lang/Throwable", name := "fillInStackTrace", desc := "(I)Ljava/lang/Throwable;" } : Jvm.MethodName)) ∈ wd := wd_t (List.mem_of_getElem? (i := 615) (by decide +kernel)) rfl
theorem k_616 : (Jvm.Cond.selects "java/lang/IndexOutOfBoundsException" ({ cls := "java/lang/Throwable", name := "fillInStackTrace", desc := "()Ljava/lang/Throwable;" } : Jvm.MethodName) ({ cls := "java/lang/Throwable", name := "fillInStackTrace", desc := "()Ljava/lang/Throwable;" } : Jvm.MethodName)) ∈ wd := wd_t (List.mem_of_getElem? (i := 616) (by decide +kernel)) rfl
theorem k_617 : (Jvm.Cond.lays "java/lang/IndexOutOfBoundsException" "java/lang/Throwable" "cause" "Ljava/lang/Throwable;") ∈ wd := wd_t (List.mem_of_getElem? (i := 617) (by decide +kernel)) rfl
theorem k_618 : (Jvm.Cond.lays "java/lang/Throwable" "java/lang/Throwable" "cause" "Ljava/lang/Throwable;") ∈ wd := wd_t (List.mem_of_getElem? (i := 618) (by decide +kernel)) rfl
theorem k_619 : (Jvm.Cond.lays "java/lang/IndexOutOfBoundsException" "java/lang/Throwable" "stackTrace" "[Ljava/lang/StackTraceElement;") ∈ wd := wd_t (List.mem_of_getElem? (i := 619) (by decide +kernel)) rfl
theorem k_620 : (Jvm.Cond.lays "java/lang/Throwable" "java/lang/Throwable" "stackTrace" "[Ljava/lang/StackTraceElement;") ∈ wd := wd_t (List.mem_of_getElem? (i := 620) (by decide +kernel)) rfl
theorem k_621 : (Jvm.Cond.lays "java/lang/IndexOutOfBoundsException" "java/lang/Throwable" "suppressedExceptions" "Ljava/util/List;") ∈ wd := wd_t (List.mem_of_getElem? (i := 621) (by decide +kernel)) rfl
theorem k_622 : (Jvm.Cond.lays "java/lang/Throwable" "java/lang/Throwable" "suppressedExceptions" "Ljava/util/List;") ∈ wd := wd_t (List.mem_of_getElem? (i := 622) (by decide +kernel)) rfl
theorem k_623 : (Jvm.Cond.lays "java/lang/IndexOutOfBoundsException" "java/lang/Throwable" "detailMessage" "Ljava/lang/String;") ∈ wd := wd_t (List.mem_of_getElem? (i := 623) (by decide +kernel)) rfl
theorem k_624 : (Jvm.Cond.lays "java/lang/Throwable" "java/lang/Throwable" "detailMessage" "Ljava/lang/String;") ∈ wd := wd_t (List.mem_of_getElem? (i := 624) (by decide +kernel)) rfl
theorem k_625 : (Jvm.Cond.lays "java/lang/IndexOutOfBoundsException" "java/lang/Throwable" "backtrace" "Ljava/lang/Object;") ∈ wd := wd_t (List.mem_of_getElem? (i := 625) (by decide +kernel)) rfl
theorem k_626 : (Jvm.Cond.lays "java/lang/Throwable" "java/lang/Throwable" "backtrace" "Ljava/lang/Object;") ∈ wd := wd_t (List.mem_of_getElem? (i := 626) (by decide +kernel)) rfl
theorem k_627 : (Jvm.Cond.fieldLink "java/lang/Throwable" (198 : Nat) "java/lang/Throwable" "backtrace" "Ljava/lang/Object;") ∈ wd := wd_t (List.mem_of_getElem? (i := 627) (by decide +kernel)) rfl
theorem k_628 : (Jvm.Cond.superclass "java/lang/Throwable" "java/lang/Object") ∈ wd := wd_t (List.mem_of_getElem? (i := 628) (by decide +kernel)) rfl
theorem k_629 : (Jvm.Cond.instanceMethod ({ cls := "java/lang/Throwable", name := "<init>", desc := "()V" } : Jvm.MethodName)) ∈ wd := wd_t (List.mem_of_getElem? (i := 629) (by decide +kernel)) rfl
theorem k_630 : (Jvm.Cond.code ({ cls := "java/lang/Throwable", name := "<init>", desc := "()V" } : Jvm.MethodName) prog_20_method_1_code (1 : Nat) (Option.none : Option Jvm.ClassFile.FieldType)) ∈ wd := wd_t (List.mem_of_getElem? (i := 630) (by decide +kernel)) rfl
theorem k_631 : (Jvm.Cond.methodLink "java/lang/Throwable" (1 : Nat) ({ cls := "java/lang/Object", name := "<init>", desc := "()V" } : Jvm.MethodName)) ∈ wd := wd_t (List.mem_of_getElem? (i := 631) (by decide +kernel)) rfl
theorem k_632 : (Jvm.Cond.fieldLink "java/lang/Throwable" (13 : Nat) "java/lang/Throwable" "UNASSIGNED_STACK" "[Ljava/lang/StackTraceElement;") ∈ wd := wd_t (List.mem_of_getElem? (i := 632) (by decide +kernel)) rfl
theorem k_634 : (Jvm.Cond.fieldLink "java/lang/Throwable" (20 : Nat) "java/lang/Throwable" "SUPPRESSED_SENTINEL" "Ljava/util/List;") ∈ wd := wd_t (List.mem_of_getElem? (i := 634) (by decide +kernel)) rfl
theorem k_636 : (Jvm.Cond.methodLink "java/lang/Throwable" (27 : Nat) ({ cls := "java/lang/Throwable", name := "fillInStackTrace", desc := "()Ljava/lang/Throwable;" } : Jvm.MethodName)) ∈ wd := wd_t (List.mem_of_getElem? (i := 636) (by decide +kernel)) rfl
theorem k_637 : (Jvm.Cond.instanceMethod ({ cls := "java/lang/Throwable", name := "fillInStackTrace", desc := "()Ljava/lang/Throwable;" } : Jvm.MethodName)) ∈ wd := wd_t (List.mem_of_getElem? (i := 637) (by decide +kernel)) rfl
theorem k_639 : (Jvm.Cond.selects "java/lang/IllegalArgumentException" ({ cls := "java/lang/Throwable", name := "fillInStackTrace", desc := "()Ljava/lang/Throwable;" } : Jvm.MethodName) ({ cls := "java/lang/Throwable", name := "fillInStackTrace", desc := "()Ljava/lang/Throwable;" } : Jvm.MethodName)) ∈ wd := wd_t (List.mem_of_getElem? (i := 639) (by decide +kernel)) rfl
theorem k_640 : (Jvm.Cond.selects "java/lang/IllegalStateException" ({ cls := "java/lang/Throwable", name := "fillInStackTrace", desc := "()Ljava/lang/Throwable;" } : Jvm.MethodName) ({ cls := "java/lang/Throwable", name := "fillInStackTrace", desc := "()Ljava/lang/Throwable;" } : Jvm.MethodName)) ∈ wd := wd_t (List.mem_of_getElem? (i := 640) (by decide +kernel)) rfl
theorem k_641 : (Jvm.Cond.selects "java/util/NoSuchElementException" ({ cls := "java/lang/Throwable", name := "fillInStackTrace", desc := "()Ljava/lang/Throwable;" } : Jvm.MethodName) ({ cls := "java/lang/Throwable", name := "fillInStackTrace", desc := "()Ljava/lang/Throwable;" } : Jvm.MethodName)) ∈ wd := wd_t (List.mem_of_getElem? (i := 641) (by decide +kernel)) rfl
theorem k_642 : (Jvm.Cond.codeSync ({ cls := "java/lang/Throwable", name := "fillInStackTrace", desc := "()Ljava/lang/Throwable;" } : Jvm.MethodName) prog_20_method_18_code (1 : Nat) (Option.some (Jvm.ClassFile.FieldType.object "java/lang/Throwable"))) ∈ wd := wd_t (List.mem_of_getElem? (i := 642) (by decide +kernel)) rfl
theorem k_643 : (Jvm.Cond.methodLink "java/lang/Throwable" (202 : Nat) ({ cls := "java/lang/Throwable", name := "fillInStackTrace", desc := "(I)Ljava/lang/Throwable;" } : Jvm.MethodName)) ∈ wd := wd_t (List.mem_of_getElem? (i := 643) (by decide +kernel)) rfl
theorem k_645 : (Jvm.Cond.instanceMethod ({ cls := "java/lang/Throwable", name := "fillInStackTrace", desc := "(I)Ljava/lang/Throwable;" } : Jvm.MethodName)) ∈ wd := wd_t (List.mem_of_getElem? (i := 645) (by decide +kernel)) rfl
theorem k_647 : (Jvm.Cond.native ({ cls := "java/lang/Throwable", name := "fillInStackTrace", desc := "(I)Ljava/lang/Throwable;" } : Jvm.MethodName)) ∈ wd := wd_t (List.mem_of_getElem? (i := 647) (by decide +kernel)) rfl
theorem k_648 : (Jvm.Cond.methodLink "LeastSolutions" (120 : Nat) ({ cls := "java/lang/IndexOutOfBoundsException", name := "<init>", desc := "()V" } : Jvm.MethodName)) ∈ wd := wd_t (List.mem_of_getElem? (i := 648) (by decide +kernel)) rfl
theorem k_649 : (Jvm.Cond.instanceMethod ({ cls := "java/lang/IndexOutOfBoundsException", name := "<init>", desc := "()V" } : Jvm.MethodName)) ∈ wd := wd_t (List.mem_of_getElem? (i := 649) (by decide +kernel)) rfl
theorem k_650 : (Jvm.Cond.code ({ cls := "java/lang/IndexOutOfBoundsException", name := "<init>", desc := "()V" } : Jvm.MethodName) prog_16_method_1_code (1 : Nat) (Option.none : Option Jvm.ClassFile.FieldType)) ∈ wd := wd_t (List.mem_of_getElem? (i := 650) (by decide +kernel)) rfl
theorem k_651 : (Jvm.Cond.methodLink "java/lang/IndexOutOfBoundsException" (1 : Nat) ({ cls := "java/lang/RuntimeException", name := "<init>", desc := "()V" } : Jvm.MethodName)) ∈ wd := wd_t (List.mem_of_getElem? (i := 651) (by decide +kernel)) rfl
theorem k_652 : (Jvm.Cond.instanceMethod ({ cls := "java/lang/RuntimeException", name := "<init>", desc := "()V" } : Jvm.MethodName)) ∈ wd := wd_t (List.mem_of_getElem? (i := 652) (by decide +kernel)) rfl
theorem k_653 : (Jvm.Cond.code ({ cls := "java/lang/RuntimeException", name := "<init>", desc := "()V" } : Jvm.MethodName) prog_18_method_1_code (1 : Nat) (Option.none : Option Jvm.ClassFile.FieldType)) ∈ wd := wd_t (List.mem_of_getElem? (i := 653) (by decide +kernel)) rfl
theorem k_654 : (Jvm.Cond.methodLink "java/lang/RuntimeException" (1 : Nat) ({ cls := "java/lang/Exception", name := "<init>", desc := "()V" } : Jvm.MethodName)) ∈ wd := wd_t (List.mem_of_getElem? (i := 654) (by decide +kernel)) rfl
theorem k_655 : (Jvm.Cond.instanceMethod ({ cls := "java/lang/Exception", name := "<init>", desc := "()V" } : Jvm.MethodName)) ∈ wd := wd_t (List.mem_of_getElem? (i := 655) (by decide +kernel)) rfl
theorem k_656 : (Jvm.Cond.code ({ cls := "java/lang/Exception", name := "<init>", desc := "()V" } : Jvm.MethodName) prog_13_method_1_code (1 : Nat) (Option.none : Option Jvm.ClassFile.FieldType)) ∈ wd := wd_t (List.mem_of_getElem? (i := 656) (by decide +kernel)) rfl
theorem k_657 : (Jvm.Cond.methodLink "java/lang/Exception" (1 : Nat) ({ cls := "java/lang/Throwable", name := "<init>", desc := "()V" } : Jvm.MethodName)) ∈ wd := wd_t (List.mem_of_getElem? (i := 657) (by decide +kernel)) rfl
theorem k_659 : (Jvm.Cond.fieldLink "java/lang/Throwable" (7 : Nat) "java/lang/Throwable" "cause" "Ljava/lang/Throwable;") ∈ wd := wd_t (List.mem_of_getElem? (i := 659) (by decide +kernel)) rfl
theorem k_660 : (Jvm.Cond.fieldLink "java/lang/Throwable" (17 : Nat) "java/lang/Throwable" "stackTrace" "[Ljava/lang/StackTraceElement;") ∈ wd := wd_t (List.mem_of_getElem? (i := 660) (by decide +kernel)) rfl
theorem k_661 : (Jvm.Cond.fieldLink "java/lang/Throwable" (24 : Nat) "java/lang/Throwable" "suppressedExceptions" "Ljava/util/List;") ∈ wd := wd_t (List.mem_of_getElem? (i := 661) (by decide +kernel)) rfl
theorem k_683 : (Jvm.Cond.instantiable "java/lang/IllegalStateException" (6 : Nat)) ∈ wd := wd_t (List.mem_of_getElem? (i := 683) (by decide +kernel)) rfl
theorem k_685 : (Jvm.Cond.selects "java/lang/IllegalStateException" ({ cls := "java/lang/Throwable", name := "fillInStackTrace", desc := "(I)Ljava/lang/Throwable;" } : Jvm.MethodName) ({ cls := "java/lang/Throwable", name := "fillInStackTrace", desc := "(I)Ljava/lang/Throwable;" } : Jvm.MethodName)) ∈ wd := wd_t (List.mem_of_getElem? (i := 685) (by decide +kernel)) rfl
theorem k_686 : (Jvm.Cond.lays "java/lang/IllegalStateException" "java/lang/Throwable" "cause" "Ljava/lang/Throwable;") ∈ wd := wd_t (List.mem_of_getElem? (i := 686) (by decide +kernel)) rfl
theorem k_687 : (Jvm.Cond.lays "java/lang/IllegalStateException" "java/lang/Throwable" "stackTrace" "[Ljava/lang/StackTraceElement;") ∈ wd := wd_t (List.mem_of_getElem? (i := 687) (by decide +kernel)) rfl
theorem k_688 : (Jvm.Cond.lays "java/lang/IllegalStateException" "java/lang/Throwable" "suppressedExceptions" "Ljava/util/List;") ∈ wd := wd_t (List.mem_of_getElem? (i := 688) (by decide +kernel)) rfl
theorem k_689 : (Jvm.Cond.lays "java/lang/IllegalStateException" "java/lang/Throwable" "detailMessage" "Ljava/lang/String;") ∈ wd := wd_t (List.mem_of_getElem? (i := 689) (by decide +kernel)) rfl
theorem k_690 : (Jvm.Cond.lays "java/lang/IllegalStateException" "java/lang/Throwable" "backtrace" "Ljava/lang/Object;") ∈ wd := wd_t (List.mem_of_getElem? (i := 690) (by decide +kernel)) rfl
theorem k_691 : (Jvm.Cond.methodLink "LeastSolutions" (268 : Nat) ({ cls := "java/lang/IllegalStateException", name := "<init>", desc := "()V" } : Jvm.MethodName)) ∈ wd := wd_t (List.mem_of_getElem? (i := 691) (by decide +kernel)) rfl
theorem k_692 : (Jvm.Cond.instanceMethod ({ cls := "java/lang/IllegalStateException", name := "<init>", desc := "()V" } : Jvm.MethodName)) ∈ wd := wd_t (List.mem_of_getElem? (i := 692) (by decide +kernel)) rfl
theorem k_693 : (Jvm.Cond.code ({ cls := "java/lang/IllegalStateException", name := "<init>", desc := "()V" } : Jvm.MethodName) prog_15_method_1_code (1 : Nat) (Option.none : Option Jvm.ClassFile.FieldType)) ∈ wd := wd_t (List.mem_of_getElem? (i := 693) (by decide +kernel)) rfl
theorem k_694 : (Jvm.Cond.methodLink "java/lang/IllegalStateException" (1 : Nat) ({ cls := "java/lang/RuntimeException", name := "<init>", desc := "()V" } : Jvm.MethodName)) ∈ wd := wd_t (List.mem_of_getElem? (i := 694) (by decide +kernel)) rfl
theorem k_736 : (Jvm.Cond.instantiable "java/lang/IllegalArgumentException" (6 : Nat)) ∈ wd := wd_t (List.mem_of_getElem? (i := 736) (by decide +kernel)) rfl
theorem k_738 : (Jvm.Cond.selects "java/lang/IllegalArgumentException" ({ cls := "java/lang/Throwable", name := "fillInStackTrace", desc := "(I)Ljava/lang/Throwable;" } : Jvm.MethodName) ({ cls := "java/lang/Throwable", name := "fillInStackTrace", desc := "(I)Ljava/lang/Throwable;" } : Jvm.MethodName)) ∈ wd := wd_t (List.mem_of_getElem? (i := 738) (by decide +kernel)) rfl
theorem k_739 : (Jvm.Cond.lays "java/lang/IllegalArgumentException" "java/lang/Throwable" "cause" "Ljava/lang/Throwable;") ∈ wd := wd_t (List.mem_of_getElem? (i := 739) (by decide +kernel)) rfl
theorem k_740 : (Jvm.Cond.lays "java/lang/IllegalArgumentException" "java/lang/Throwable" "stackTrace" "[Ljava/lang/StackTraceElement;") ∈ wd := wd_t (List.mem_of_getElem? (i := 740) (by decide +kernel)) rfl
theorem k_741 : (Jvm.Cond.lays "java/lang/IllegalArgumentException" "java/lang/Throwable" "suppressedExceptions" "Ljava/util/List;") ∈ wd := wd_t (List.mem_of_getElem? (i := 741) (by decide +kernel)) rfl
theorem k_742 : (Jvm.Cond.lays "java/lang/IllegalArgumentException" "java/lang/Throwable" "detailMessage" "Ljava/lang/String;") ∈ wd := wd_t (List.mem_of_getElem? (i := 742) (by decide +kernel)) rfl
theorem k_743 : (Jvm.Cond.lays "java/lang/IllegalArgumentException" "java/lang/Throwable" "backtrace" "Ljava/lang/Object;") ∈ wd := wd_t (List.mem_of_getElem? (i := 743) (by decide +kernel)) rfl
theorem k_744 : (Jvm.Cond.methodLink "LeastSolutions" (148 : Nat) ({ cls := "java/lang/IllegalArgumentException", name := "<init>", desc := "()V" } : Jvm.MethodName)) ∈ wd := wd_t (List.mem_of_getElem? (i := 744) (by decide +kernel)) rfl
theorem k_745 : (Jvm.Cond.instanceMethod ({ cls := "java/lang/IllegalArgumentException", name := "<init>", desc := "()V" } : Jvm.MethodName)) ∈ wd := wd_t (List.mem_of_getElem? (i := 745) (by decide +kernel)) rfl
theorem k_746 : (Jvm.Cond.code ({ cls := "java/lang/IllegalArgumentException", name := "<init>", desc := "()V" } : Jvm.MethodName) prog_14_method_1_code (1 : Nat) (Option.none : Option Jvm.ClassFile.FieldType)) ∈ wd := wd_t (List.mem_of_getElem? (i := 746) (by decide +kernel)) rfl
theorem k_747 : (Jvm.Cond.methodLink "java/lang/IllegalArgumentException" (1 : Nat) ({ cls := "java/lang/RuntimeException", name := "<init>", desc := "()V" } : Jvm.MethodName)) ∈ wd := wd_t (List.mem_of_getElem? (i := 747) (by decide +kernel)) rfl
theorem k_865 : (Jvm.Cond.instantiable "java/util/NoSuchElementException" (6 : Nat)) ∈ wd := wd_t (List.mem_of_getElem? (i := 865) (by decide +kernel)) rfl
theorem k_867 : (Jvm.Cond.selects "java/util/NoSuchElementException" ({ cls := "java/lang/Throwable", name := "fillInStackTrace", desc := "(I)Ljava/lang/Throwable;" } : Jvm.MethodName) ({ cls := "java/lang/Throwable", name := "fillInStackTrace", desc := "(I)Ljava/lang/Throwable;" } : Jvm.MethodName)) ∈ wd := wd_t (List.mem_of_getElem? (i := 867) (by decide +kernel)) rfl
theorem k_868 : (Jvm.Cond.lays "java/util/NoSuchElementException" "java/lang/Throwable" "cause" "Ljava/lang/Throwable;") ∈ wd := wd_t (List.mem_of_getElem? (i := 868) (by decide +kernel)) rfl
theorem k_869 : (Jvm.Cond.lays "java/util/NoSuchElementException" "java/lang/Throwable" "stackTrace" "[Ljava/lang/StackTraceElement;") ∈ wd := wd_t (List.mem_of_getElem? (i := 869) (by decide +kernel)) rfl
theorem k_870 : (Jvm.Cond.lays "java/util/NoSuchElementException" "java/lang/Throwable" "suppressedExceptions" "Ljava/util/List;") ∈ wd := wd_t (List.mem_of_getElem? (i := 870) (by decide +kernel)) rfl
theorem k_871 : (Jvm.Cond.lays "java/util/NoSuchElementException" "java/lang/Throwable" "detailMessage" "Ljava/lang/String;") ∈ wd := wd_t (List.mem_of_getElem? (i := 871) (by decide +kernel)) rfl
theorem k_872 : (Jvm.Cond.lays "java/util/NoSuchElementException" "java/lang/Throwable" "backtrace" "Ljava/lang/Object;") ∈ wd := wd_t (List.mem_of_getElem? (i := 872) (by decide +kernel)) rfl
theorem k_873 : (Jvm.Cond.methodLink "LeastSolutions" (221 : Nat) ({ cls := "java/util/NoSuchElementException", name := "<init>", desc := "()V" } : Jvm.MethodName)) ∈ wd := wd_t (List.mem_of_getElem? (i := 873) (by decide +kernel)) rfl
theorem k_874 : (Jvm.Cond.instanceMethod ({ cls := "java/util/NoSuchElementException", name := "<init>", desc := "()V" } : Jvm.MethodName)) ∈ wd := wd_t (List.mem_of_getElem? (i := 874) (by decide +kernel)) rfl
theorem k_875 : (Jvm.Cond.code ({ cls := "java/util/NoSuchElementException", name := "<init>", desc := "()V" } : Jvm.MethodName) prog_22_method_1_code (1 : Nat) (Option.none : Option Jvm.ClassFile.FieldType)) ∈ wd := wd_t (List.mem_of_getElem? (i := 875) (by decide +kernel)) rfl
theorem k_876 : (Jvm.Cond.methodLink "java/util/NoSuchElementException" (1 : Nat) ({ cls := "java/lang/RuntimeException", name := "<init>", desc := "()V" } : Jvm.MethodName)) ∈ wd := wd_t (List.mem_of_getElem? (i := 876) (by decide +kernel)) rfl
theorem k_922 : (Jvm.Cond.lays "LeastSolutionsModel" "LeastSolutionsModel" "thrown" "I") ∈ wd := wd_t (List.mem_of_getElem? (i := 922) (by decide +kernel)) rfl
theorem k_924 : (Jvm.Cond.laysFinal "LeastSolutionsModel" "LeastSolutionsModel" "text" "[I") ∈ wd := wd_t (List.mem_of_getElem? (i := 924) (by decide +kernel)) rfl
theorem k_926 : (Jvm.Cond.lays "LeastSolutionsModel" "LeastSolutionsModel" "length" "I") ∈ wd := wd_t (List.mem_of_getElem? (i := 926) (by decide +kernel)) rfl
theorem k_928 : (Jvm.Cond.lays "LeastSolutionsModel" "LeastSolutionsModel" "wrong" "I") ∈ wd := wd_t (List.mem_of_getElem? (i := 928) (by decide +kernel)) rfl
theorem k_930 : (Jvm.Cond.laysFinal "LeastSolutionsModel" "LeastSolutionsModel" "kinds" "[I") ∈ wd := wd_t (List.mem_of_getElem? (i := 930) (by decide +kernel)) rfl
theorem k_932 : (Jvm.Cond.laysFinal "LeastSolutionsModel" "LeastSolutionsModel" "places" "[I") ∈ wd := wd_t (List.mem_of_getElem? (i := 932) (by decide +kernel)) rfl
theorem k_934 : (Jvm.Cond.laysFinal "LeastSolutionsModel" "LeastSolutionsModel" "values" "[I") ∈ wd := wd_t (List.mem_of_getElem? (i := 934) (by decide +kernel)) rfl
theorem k_936 : (Jvm.Cond.lays "LeastSolutionsModel" "LeastSolutionsModel" "words" "I") ∈ wd := wd_t (List.mem_of_getElem? (i := 936) (by decide +kernel)) rfl
theorem k_938 : (Jvm.Cond.laysFinal "LeastSolutionsModel" "LeastSolutionsModel" "draftLetters" "[I") ∈ wd := wd_t (List.mem_of_getElem? (i := 938) (by decide +kernel)) rfl
theorem k_940 : (Jvm.Cond.lays "LeastSolutionsModel" "LeastSolutionsModel" "draftVariables" "I") ∈ wd := wd_t (List.mem_of_getElem? (i := 940) (by decide +kernel)) rfl
theorem k_942 : (Jvm.Cond.lays "LeastSolutionsModel" "LeastSolutionsModel" "draftSlacks" "I") ∈ wd := wd_t (List.mem_of_getElem? (i := 942) (by decide +kernel)) rfl
theorem k_944 : (Jvm.Cond.lays "LeastSolutionsModel" "LeastSolutionsModel" "draftRows" "I") ∈ wd := wd_t (List.mem_of_getElem? (i := 944) (by decide +kernel)) rfl
theorem k_946 : (Jvm.Cond.laysFinal "LeastSolutionsModel" "LeastSolutionsModel" "draftNumbers" "[I") ∈ wd := wd_t (List.mem_of_getElem? (i := 946) (by decide +kernel)) rfl
theorem k_948 : (Jvm.Cond.laysFinal "LeastSolutionsModel" "LeastSolutionsModel" "draftSigns" "[I") ∈ wd := wd_t (List.mem_of_getElem? (i := 948) (by decide +kernel)) rfl
theorem k_950 : (Jvm.Cond.lays "LeastSolutionsModel" "LeastSolutionsModel" "known" "Z") ∈ wd := wd_t (List.mem_of_getElem? (i := 950) (by decide +kernel)) rfl
theorem k_952 : (Jvm.Cond.lays "LeastSolutionsModel" "LeastSolutionsModel" "rows" "I") ∈ wd := wd_t (List.mem_of_getElem? (i := 952) (by decide +kernel)) rfl
theorem k_954 : (Jvm.Cond.lays "LeastSolutionsModel" "LeastSolutionsModel" "variables" "I") ∈ wd := wd_t (List.mem_of_getElem? (i := 954) (by decide +kernel)) rfl
theorem k_956 : (Jvm.Cond.lays "LeastSolutionsModel" "LeastSolutionsModel" "columns" "I") ∈ wd := wd_t (List.mem_of_getElem? (i := 956) (by decide +kernel)) rfl
theorem k_958 : (Jvm.Cond.laysFinal "LeastSolutionsModel" "LeastSolutionsModel" "letters" "[I") ∈ wd := wd_t (List.mem_of_getElem? (i := 958) (by decide +kernel)) rfl
theorem k_960 : (Jvm.Cond.laysFinal "LeastSolutionsModel" "LeastSolutionsModel" "numbers" "[I") ∈ wd := wd_t (List.mem_of_getElem? (i := 960) (by decide +kernel)) rfl
theorem k_962 : (Jvm.Cond.laysFinal "LeastSolutionsModel" "LeastSolutionsModel" "isList" "[Z") ∈ wd := wd_t (List.mem_of_getElem? (i := 962) (by decide +kernel)) rfl
theorem k_964 : (Jvm.Cond.laysFinal "LeastSolutionsModel" "LeastSolutionsModel" "bounds" "[I") ∈ wd := wd_t (List.mem_of_getElem? (i := 964) (by decide +kernel)) rfl
theorem k_966 : (Jvm.Cond.laysFinal "LeastSolutionsModel" "LeastSolutionsModel" "sizes" "[I") ∈ wd := wd_t (List.mem_of_getElem? (i := 966) (by decide +kernel)) rfl
theorem k_968 : (Jvm.Cond.laysFinal "LeastSolutionsModel" "LeastSolutionsModel" "lists" "[B") ∈ wd := wd_t (List.mem_of_getElem? (i := 968) (by decide +kernel)) rfl
theorem k_970 : (Jvm.Cond.laysFinal "LeastSolutionsModel" "LeastSolutionsModel" "told" "[I") ∈ wd := wd_t (List.mem_of_getElem? (i := 970) (by decide +kernel)) rfl
theorem k_972 : (Jvm.Cond.laysFinal "LeastSolutionsModel" "LeastSolutionsModel" "costs" "[I") ∈ wd := wd_t (List.mem_of_getElem? (i := 972) (by decide +kernel)) rfl
theorem k_974 : (Jvm.Cond.lays "LeastSolutionsModel" "LeastSolutionsModel" "isSplit" "Z") ∈ wd := wd_t (List.mem_of_getElem? (i := 974) (by decide +kernel)) rfl
theorem k_976 : (Jvm.Cond.laysFinal "LeastSolutionsModel" "LeastSolutionsModel" "times" "[I") ∈ wd := wd_t (List.mem_of_getElem? (i := 976) (by decide +kernel)) rfl
theorem k_978 : (Jvm.Cond.lays "LeastSolutionsModel" "LeastSolutionsModel" "isBest" "Z") ∈ wd := wd_t (List.mem_of_getElem? (i := 978) (by decide +kernel)) rfl
theorem k_980 : (Jvm.Cond.laysFinal "LeastSolutionsModel" "LeastSolutionsModel" "bestOne" "[I") ∈ wd := wd_t (List.mem_of_getElem? (i := 980) (by decide +kernel)) rfl
theorem k_982 : (Jvm.Cond.laysFinal "LeastSolutionsModel" "LeastSolutionsModel" "basis" "[J") ∈ wd := wd_t (List.mem_of_getElem? (i := 982) (by decide +kernel)) rfl
theorem k_984 : (Jvm.Cond.lays "LeastSolutionsModel" "LeastSolutionsModel" "vectors" "I") ∈ wd := wd_t (List.mem_of_getElem? (i := 984) (by decide +kernel)) rfl
theorem k_986 : (Jvm.Cond.laysFinal "LeastSolutionsModel" "LeastSolutionsModel" "one" "[J") ∈ wd := wd_t (List.mem_of_getElem? (i := 986) (by decide +kernel)) rfl
theorem k_988 : (Jvm.Cond.lays "LeastSolutionsModel" "LeastSolutionsModel" "isOne" "Z") ∈ wd := wd_t (List.mem_of_getElem? (i := 988) (by decide +kernel)) rfl
theorem k_990 : (Jvm.Cond.laysFinal "LeastSolutionsModel" "LeastSolutionsModel" "along" "[J") ∈ wd := wd_t (List.mem_of_getElem? (i := 990) (by decide +kernel)) rfl
theorem k_992 : (Jvm.Cond.laysFinal "LeastSolutionsModel" "LeastSolutionsModel" "now" "[I") ∈ wd := wd_t (List.mem_of_getElem? (i := 992) (by decide +kernel)) rfl
