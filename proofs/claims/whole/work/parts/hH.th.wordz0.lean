theorem d_LS_kernelAt_15 : decode b_LS_kernelAt 15 = .ok (.new 118, 3) := by decide +kernel
theorem d_LS_kernelAt_18 : decode b_LS_kernelAt 18 = .ok (.dup, 1) := by decide +kernel
theorem d_LS_kernelAt_19 : decode b_LS_kernelAt 19 = .ok (.invokespecial 120, 3) := by decide +kernel
theorem d_LS_kernelAt_22 : decode b_LS_kernelAt 22 = .ok (.athrow, 1) := by decide +kernel
theorem d_LS_needBound_9 : decode b_LS_needBound 9 = .ok (.new 146, 3) := by decide +kernel
theorem d_LS_needBound_12 : decode b_LS_needBound 12 = .ok (.dup, 1) := by decide +kernel
theorem d_LS_needBound_13 : decode b_LS_needBound 13 = .ok (.invokespecial 148, 3) := by decide +kernel
theorem d_LS_needBound_16 : decode b_LS_needBound 16 = .ok (.athrow, 1) := by decide +kernel
theorem d_LS_needColumn_8 : decode b_LS_needColumn 8 = .ok (.new 118, 3) := by decide +kernel
theorem d_LS_needColumn_11 : decode b_LS_needColumn 11 = .ok (.dup, 1) := by decide +kernel
theorem d_LS_needColumn_12 : decode b_LS_needColumn 12 = .ok (.invokespecial 120, 3) := by decide +kernel
theorem d_LS_needColumn_15 : decode b_LS_needColumn 15 = .ok (.athrow, 1) := by decide +kernel
theorem d_LS_needSystem_7 : decode b_LS_needSystem 7 = .ok (.new 266, 3) := by decide +kernel
theorem d_LS_needSystem_10 : decode b_LS_needSystem 10 = .ok (.dup, 1) := by decide +kernel
theorem d_LS_needSystem_11 : decode b_LS_needSystem 11 = .ok (.invokespecial 268, 3) := by decide +kernel
theorem d_LS_needSystem_14 : decode b_LS_needSystem 14 = .ok (.athrow, 1) := by decide +kernel
theorem d_LS_needTellable_12 : decode b_LS_needTellable 12 = .ok (.new 146, 3) := by decide +kernel
theorem d_LS_needTellable_15 : decode b_LS_needTellable 15 = .ok (.dup, 1) := by decide +kernel
theorem d_LS_needTellable_16 : decode b_LS_needTellable 16 = .ok (.invokespecial 148, 3) := by decide +kernel
theorem d_LS_needTellable_19 : decode b_LS_needTellable 19 = .ok (.athrow, 1) := by decide +kernel
theorem d_LS_number_30 : decode b_LS_number 30 = .ok (.new 118, 3) := by decide +kernel
theorem d_LS_number_33 : decode b_LS_number 33 = .ok (.dup, 1) := by decide +kernel
theorem d_LS_number_34 : decode b_LS_number 34 = .ok (.invokespecial 120, 3) := by decide +kernel
theorem d_LS_number_37 : decode b_LS_number 37 = .ok (.athrow, 1) := by decide +kernel
