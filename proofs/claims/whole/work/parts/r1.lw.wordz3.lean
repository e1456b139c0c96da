theorem d_LW_law_894 : decode b_LW_law 894 = .ok (.if_icmp .eq 5, 3) := by decide +kernel
