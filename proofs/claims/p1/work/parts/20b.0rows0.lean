theorem dX10_firstShort_0 : decode cX10_firstShort 0 = .ok (.aload_n 0, 1) := by decide +kernel
theorem dX10_firstShort_1 : decode cX10_firstShort 1 = .ok (.iconst 0, 1) := by decide +kernel
theorem dX10_firstShort_2 : decode cX10_firstShort 2 = .ok (.putfield 22, 3) := by decide +kernel
theorem dX10_firstShort_5 : decode cX10_firstShort 5 = .ok (.iload_n 1, 1) := by decide +kernel
theorem dX10_firstShort_6 : decode cX10_firstShort 6 = .ok (.iconst 1, 1) := by decide +kernel
theorem dX10_firstShort_7 : decode cX10_firstShort 7 = .ok (.bipush 30, 2) := by decide +kernel
theorem dX10_firstShort_9 : decode cX10_firstShort 9 = .ok (.invokestatic 29, 3) := by decide +kernel
theorem dX10_firstShort_12 : decode cX10_firstShort 12 = .ok (.ifCond .ne 9, 3) := by decide +kernel
theorem dX10_firstShort_15 : decode cX10_firstShort 15 = .ok (.aload_n 0, 1) := by decide +kernel
theorem dX10_firstShort_16 : decode cX10_firstShort 16 = .ok (.iconst 1, 1) := by decide +kernel
theorem dX10_firstShort_17 : decode cX10_firstShort 17 = .ok (.invokevirtual 43, 3) := by decide +kernel
theorem dX10_firstShort_20 : decode cX10_firstShort 20 = .ok (.ireturn, 1) := by decide +kernel
theorem dX10_firstShort_21 : decode cX10_firstShort 21 = .ok (.aload_n 0, 1) := by decide +kernel
theorem dX10_firstShort_22 : decode cX10_firstShort 22 = .ok (.getfield 16, 3) := by decide +kernel
theorem dX10_firstShort_25 : decode cX10_firstShort 25 = .ok (.invokevirtual 246, 3) := by decide +kernel
theorem dX10_firstShort_28 : decode cX10_firstShort 28 = .ok (.astore_n 2, 1) := by decide +kernel
theorem dX10_firstShort_29 : decode cX10_firstShort 29 = .ok (.iconst 0, 1) := by decide +kernel
theorem dX10_firstShort_30 : decode cX10_firstShort 30 = .ok (.istore_n 3, 1) := by decide +kernel
theorem dX10_firstShort_31 : decode cX10_firstShort 31 = .ok (.iload_n 3, 1) := by decide +kernel
theorem dX10_firstShort_32 : decode cX10_firstShort 32 = .ok (.iload_n 1, 1) := by decide +kernel
theorem dX10_firstShort_33 : decode cX10_firstShort 33 = .ok (.if_icmp .ge 21, 3) := by decide +kernel
theorem dX10_firstShort_36 : decode cX10_firstShort 36 = .ok (.aload_n 2, 1) := by decide +kernel
theorem dX10_firstShort_37 : decode cX10_firstShort 37 = .ok (.invokevirtual 144, 3) := by decide +kernel
theorem dX10_firstShort_40 : decode cX10_firstShort 40 = .ok (.ifCond .le 8, 3) := by decide +kernel
theorem dX10_firstShort_48 : decode cX10_firstShort 48 = .ok (.iinc 3 1, 3) := by decide +kernel
theorem dX10_firstShort_51 : decode cX10_firstShort 51 = .ok (.goto (-20), 3) := by decide +kernel
theorem dX10_firstShort_54 : decode cX10_firstShort 54 = .ok (.iconst (-1), 1) := by decide +kernel
theorem dX10_firstShort_55 : decode cX10_firstShort 55 = .ok (.ireturn, 1) := by decide +kernel
