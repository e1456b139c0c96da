
abbrev y_JA_fill : MethodName := ⟨"java/util/Arrays", "fill", "([II)V"⟩
abbrev b_JA_fill : ByteArray := prog_21_method_103_code
abbrev y_JA_fill2 : MethodName := ⟨"java/util/Arrays", "fill", "([JJ)V"⟩
abbrev b_JA_fill2 : ByteArray := prog_21_method_101_code
abbrev y_JM_floorDiv : MethodName := ⟨"java/lang/Math", "floorDiv", "(JJ)J"⟩
abbrev b_JM_floorDiv : ByteArray := prog_17_method_49_code
