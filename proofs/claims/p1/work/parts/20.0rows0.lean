theorem dX10_copyOf_0 : decode cX10_copyOf 0 = .ok (.aload_n 0, 1) := by decide +kernel
theorem dX10_copyOf_1 : decode cX10_copyOf 1 = .ok (.arraylength, 1) := by decide +kernel
theorem dX10_copyOf_2 : decode cX10_copyOf 2 = .ok (.newarray .int, 2) := by decide +kernel
theorem dX10_copyOf_4 : decode cX10_copyOf 4 = .ok (.astore_n 1, 1) := by decide +kernel
theorem dX10_copyOf_5 : decode cX10_copyOf 5 = .ok (.aload_n 0, 1) := by decide +kernel
theorem dX10_copyOf_6 : decode cX10_copyOf 6 = .ok (.iconst 0, 1) := by decide +kernel
theorem dX10_copyOf_7 : decode cX10_copyOf 7 = .ok (.aload_n 1, 1) := by decide +kernel
theorem dX10_copyOf_8 : decode cX10_copyOf 8 = .ok (.iconst 0, 1) := by decide +kernel
theorem dX10_copyOf_9 : decode cX10_copyOf 9 = .ok (.aload_n 0, 1) := by decide +kernel
theorem dX10_copyOf_10 : decode cX10_copyOf 10 = .ok (.arraylength, 1) := by decide +kernel
theorem dX10_copyOf_11 : decode cX10_copyOf 11 = .ok (.invokestatic 1, 3) := by decide +kernel
theorem dX10_copyOf_14 : decode cX10_copyOf 14 = .ok (.aload_n 1, 1) := by decide +kernel
theorem dX10_copyOf_15 : decode cX10_copyOf 15 = .ok (.areturn, 1) := by decide +kernel
