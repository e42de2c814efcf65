theorem dX8_onHandIn_0 : decode cX8_onHandIn 0 = .ok (.aload_n 0, 1) := by decide +kernel
theorem dX8_onHandIn_1 : decode cX8_onHandIn 1 = .ok (.iload_n 1, 1) := by decide +kernel
theorem dX8_onHandIn_2 : decode cX8_onHandIn 2 = .ok (.invokevirtual 86, 3) := by decide +kernel
theorem dX8_onHandIn_5 : decode cX8_onHandIn 5 = .ok (.aload_n 0, 1) := by decide +kernel
theorem dX8_onHandIn_6 : decode cX8_onHandIn 6 = .ok (.iload_n 2, 1) := by decide +kernel
theorem dX8_onHandIn_7 : decode cX8_onHandIn 7 = .ok (.invokevirtual 58, 3) := by decide +kernel
theorem dX8_onHandIn_10 : decode cX8_onHandIn 10 = .ok (.iload_n 3, 1) := by decide +kernel
theorem dX8_onHandIn_11 : decode cX8_onHandIn 11 = .ok (.iconst 1, 1) := by decide +kernel
theorem dX8_onHandIn_12 : decode cX8_onHandIn 12 = .ok (.bipush 30, 2) := by decide +kernel
theorem dX8_onHandIn_14 : decode cX8_onHandIn 14 = .ok (.invokestatic 26, 3) := by decide +kernel
theorem dX8_onHandIn_17 : decode cX8_onHandIn 17 = .ok (.aload_n 0, 1) := by decide +kernel
theorem dX8_onHandIn_18 : decode cX8_onHandIn 18 = .ok (.getfield 16, 3) := by decide +kernel
theorem dX8_onHandIn_21 : decode cX8_onHandIn 21 = .ok (.aload_n 0, 1) := by decide +kernel
theorem dX8_onHandIn_22 : decode cX8_onHandIn 22 = .ok (.getfield 10, 3) := by decide +kernel
theorem dX8_onHandIn_25 : decode cX8_onHandIn 25 = .ok (.invokevirtual 250, 3) := by decide +kernel
theorem dX8_onHandIn_28 : decode cX8_onHandIn 28 = .ok (.aload_n 0, 1) := by decide +kernel
theorem dX8_onHandIn_29 : decode cX8_onHandIn 29 = .ok (.getfield 16, 3) := by decide +kernel
theorem dX8_onHandIn_32 : decode cX8_onHandIn 32 = .ok (.iload_n 3, 1) := by decide +kernel
theorem dX8_onHandIn_33 : decode cX8_onHandIn 33 = .ok (.invokevirtual 172, 3) := by decide +kernel
theorem dX8_onHandIn_36 : decode cX8_onHandIn 36 = .ok (.aload_n 0, 1) := by decide +kernel
theorem dX8_onHandIn_37 : decode cX8_onHandIn 37 = .ok (.getfield 16, 3) := by decide +kernel
theorem dX8_onHandIn_40 : decode cX8_onHandIn 40 = .ok (.getfield 109, 3) := by decide +kernel
theorem dX8_onHandIn_43 : decode cX8_onHandIn 43 = .ok (.iload_n 1, 1) := by decide +kernel
theorem dX8_onHandIn_44 : decode cX8_onHandIn 44 = .ok (.iload_n 2, 1) := by decide +kernel
theorem dX8_onHandIn_45 : decode cX8_onHandIn 45 = .ok (.invokevirtual 208, 3) := by decide +kernel
theorem dX8_onHandIn_48 : decode cX8_onHandIn 48 = .ok (.ireturn, 1) := by decide +kernel
theorem dX8_firstShort_0 : decode cX8_firstShort 0 = .ok (.iload_n 1, 1) := by decide +kernel
theorem dX8_firstShort_1 : decode cX8_firstShort 1 = .ok (.iconst 1, 1) := by decide +kernel
theorem dX8_firstShort_2 : decode cX8_firstShort 2 = .ok (.bipush 30, 2) := by decide +kernel
theorem dX8_firstShort_4 : decode cX8_firstShort 4 = .ok (.invokestatic 26, 3) := by decide +kernel
theorem dX8_firstShort_7 : decode cX8_firstShort 7 = .ok (.aload_n 0, 1) := by decide +kernel
theorem dX8_firstShort_8 : decode cX8_firstShort 8 = .ok (.getfield 16, 3) := by decide +kernel
theorem dX8_firstShort_11 : decode cX8_firstShort 11 = .ok (.aload_n 0, 1) := by decide +kernel
theorem dX8_firstShort_12 : decode cX8_firstShort 12 = .ok (.getfield 10, 3) := by decide +kernel
theorem dX8_firstShort_15 : decode cX8_firstShort 15 = .ok (.invokevirtual 250, 3) := by decide +kernel
theorem dX8_firstShort_18 : decode cX8_firstShort 18 = .ok (.aload_n 0, 1) := by decide +kernel
theorem dX8_firstShort_19 : decode cX8_firstShort 19 = .ok (.getfield 16, 3) := by decide +kernel
theorem dX8_firstShort_22 : decode cX8_firstShort 22 = .ok (.getfield 119, 3) := by decide +kernel
theorem dX8_firstShort_25 : decode cX8_firstShort 25 = .ok (.iconst 2, 1) := by decide +kernel
theorem dX8_firstShort_26 : decode cX8_firstShort 26 = .ok (.iaload, 1) := by decide +kernel
theorem dX8_firstShort_27 : decode cX8_firstShort 27 = .ok (.istore_n 2, 1) := by decide +kernel
theorem dX8_firstShort_28 : decode cX8_firstShort 28 = .ok (.iconst 0, 1) := by decide +kernel
theorem dX8_firstShort_29 : decode cX8_firstShort 29 = .ok (.istore_n 3, 1) := by decide +kernel
theorem dX8_firstShort_30 : decode cX8_firstShort 30 = .ok (.iload_n 3, 1) := by decide +kernel
theorem dX8_firstShort_31 : decode cX8_firstShort 31 = .ok (.iload_n 1, 1) := by decide +kernel
theorem dX8_firstShort_32 : decode cX8_firstShort 32 = .ok (.if_icmp .ge 38, 3) := by decide +kernel
theorem dX8_firstShort_35 : decode cX8_firstShort 35 = .ok (.aload_n 0, 1) := by decide +kernel
theorem dX8_firstShort_36 : decode cX8_firstShort 36 = .ok (.getfield 16, 3) := by decide +kernel
theorem dX8_firstShort_39 : decode cX8_firstShort 39 = .ok (.iconst 1, 1) := by decide +kernel
theorem dX8_firstShort_40 : decode cX8_firstShort 40 = .ok (.invokevirtual 172, 3) := by decide +kernel
theorem dX8_firstShort_43 : decode cX8_firstShort 43 = .ok (.aload_n 0, 1) := by decide +kernel
theorem dX8_firstShort_44 : decode cX8_firstShort 44 = .ok (.getfield 16, 3) := by decide +kernel
theorem dX8_firstShort_47 : decode cX8_firstShort 47 = .ok (.getfield 119, 3) := by decide +kernel
theorem dX8_firstShort_50 : decode cX8_firstShort 50 = .ok (.iconst 2, 1) := by decide +kernel
theorem dX8_firstShort_51 : decode cX8_firstShort 51 = .ok (.iaload, 1) := by decide +kernel
theorem dX8_firstShort_52 : decode cX8_firstShort 52 = .ok (.iload_n 2, 1) := by decide +kernel
theorem dX8_firstShort_53 : decode cX8_firstShort 53 = .ok (.if_icmp .eq 11, 3) := by decide +kernel
theorem dX8_firstShort_56 : decode cX8_firstShort 56 = .ok (.aload_n 0, 1) := by decide +kernel
theorem dX8_firstShort_57 : decode cX8_firstShort 57 = .ok (.getfield 16, 3) := by decide +kernel
theorem dX8_firstShort_60 : decode cX8_firstShort 60 = .ok (.getfield 125, 3) := by decide +kernel
theorem dX8_firstShort_63 : decode cX8_firstShort 63 = .ok (.ireturn, 1) := by decide +kernel
theorem dX8_firstShort_64 : decode cX8_firstShort 64 = .ok (.iinc 3 1, 3) := by decide +kernel
theorem dX8_firstShort_67 : decode cX8_firstShort 67 = .ok (.goto (-37), 3) := by decide +kernel
theorem dX8_firstShort_70 : decode cX8_firstShort 70 = .ok (.iconst (-1), 1) := by decide +kernel
theorem dX8_firstShort_71 : decode cX8_firstShort 71 = .ok (.ireturn, 1) := by decide +kernel
