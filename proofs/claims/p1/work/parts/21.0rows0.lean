theorem dL_law_23 : decode cL_law 23 = .ok (.iload 4, 2) := by decide +kernel
theorem dL_law_25 : decode cL_law 25 = .ok (.aload_n 0, 1) := by decide +kernel
theorem dL_law_26 : decode cL_law 26 = .ok (.arraylength, 1) := by decide +kernel
theorem dL_law_27 : decode cL_law 27 = .ok (.bipush 7, 2) := by decide +kernel
theorem dL_law_29 : decode cL_law 29 = .ok (.isub, 1) := by decide +kernel
theorem dL_law_30 : decode cL_law 30 = .ok (.if_icmp .gt 2831, 3) := by decide +kernel
theorem dL_law_2855 : decode cL_law 2855 = .ok (.iinc 4 7, 3) := by decide +kernel
theorem dL_law_2858 : decode cL_law 2858 = .ok (.goto (-2835), 3) := by decide +kernel
