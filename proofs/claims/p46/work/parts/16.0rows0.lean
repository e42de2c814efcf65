theorem dX8_balance_0 : decode cX8_balance 0 = .ok (.aload_n 0, 1) := by decide +kernel
theorem dX8_balance_1 : decode cX8_balance 1 = .ok (.iload_n 1, 1) := by decide +kernel
theorem dX8_balance_2 : decode cX8_balance 2 = .ok (.invokevirtual 86, 3) := by decide +kernel
theorem dX8_balance_5 : decode cX8_balance 5 = .ok (.aload_n 0, 1) := by decide +kernel
theorem dX8_balance_6 : decode cX8_balance 6 = .ok (.getfield 22, 3) := by decide +kernel
theorem dX8_balance_9 : decode cX8_balance 9 = .ok (.aload_n 0, 1) := by decide +kernel
theorem dX8_balance_10 : decode cX8_balance 10 = .ok (.getfield 10, 3) := by decide +kernel
theorem dX8_balance_13 : decode cX8_balance 13 = .ok (.iload_n 1, 1) := by decide +kernel
theorem dX8_balance_14 : decode cX8_balance 14 = .ok (.invokevirtual 178, 3) := by decide +kernel
theorem dX8_balance_17 : decode cX8_balance 17 = .ok (.iconst 0, 1) := by decide +kernel
theorem dX8_balance_18 : decode cX8_balance 18 = .ok (.istore_n 2, 1) := by decide +kernel
theorem dX8_balance_19 : decode cX8_balance 19 = .ok (.iconst 0, 1) := by decide +kernel
theorem dX8_balance_20 : decode cX8_balance 20 = .ok (.istore_n 3, 1) := by decide +kernel
theorem dX8_balance_21 : decode cX8_balance 21 = .ok (.iload_n 3, 1) := by decide +kernel
theorem dX8_balance_22 : decode cX8_balance 22 = .ok (.aload_n 0, 1) := by decide +kernel
theorem dX8_balance_23 : decode cX8_balance 23 = .ok (.getfield 10, 3) := by decide +kernel
theorem dX8_balance_26 : decode cX8_balance 26 = .ok (.getfield 48, 3) := by decide +kernel
theorem dX8_balance_29 : decode cX8_balance 29 = .ok (.getfield 52, 3) := by decide +kernel
theorem dX8_balance_32 : decode cX8_balance 32 = .ok (.if_icmp .ge 61, 3) := by decide +kernel
theorem dX8_balance_35 : decode cX8_balance 35 = .ok (.iconst 0, 1) := by decide +kernel
theorem dX8_balance_36 : decode cX8_balance 36 = .ok (.istore 4, 2) := by decide +kernel
theorem dX8_balance_38 : decode cX8_balance 38 = .ok (.iload 4, 2) := by decide +kernel
theorem dX8_balance_40 : decode cX8_balance 40 = .ok (.aload_n 0, 1) := by decide +kernel
theorem dX8_balance_41 : decode cX8_balance 41 = .ok (.getfield 10, 3) := by decide +kernel
theorem dX8_balance_44 : decode cX8_balance 44 = .ok (.getfield 48, 3) := by decide +kernel
theorem dX8_balance_47 : decode cX8_balance 47 = .ok (.getfield 52, 3) := by decide +kernel
theorem dX8_balance_50 : decode cX8_balance 50 = .ok (.if_icmp .ge 37, 3) := by decide +kernel
theorem dX8_balance_53 : decode cX8_balance 53 = .ok (.iload_n 2, 1) := by decide +kernel
theorem dX8_balance_54 : decode cX8_balance 54 = .ok (.aload_n 0, 1) := by decide +kernel
theorem dX8_balance_55 : decode cX8_balance 55 = .ok (.getfield 10, 3) := by decide +kernel
theorem dX8_balance_58 : decode cX8_balance 58 = .ok (.iload_n 1, 1) := by decide +kernel
theorem dX8_balance_59 : decode cX8_balance 59 = .ok (.iload_n 3, 1) := by decide +kernel
theorem dX8_balance_60 : decode cX8_balance 60 = .ok (.iload 4, 2) := by decide +kernel
theorem dX8_balance_62 : decode cX8_balance 62 = .ok (.aload_n 0, 1) := by decide +kernel
theorem dX8_balance_63 : decode cX8_balance 63 = .ok (.getfield 22, 3) := by decide +kernel
theorem dX8_balance_66 : decode cX8_balance 66 = .ok (.getfield 182, 3) := by decide +kernel
theorem dX8_balance_69 : decode cX8_balance 69 = .ok (.iload_n 3, 1) := by decide +kernel
theorem dX8_balance_70 : decode cX8_balance 70 = .ok (.iload 4, 2) := by decide +kernel
theorem dX8_balance_72 : decode cX8_balance 72 = .ok (.invokestatic 73, 3) := by decide +kernel
theorem dX8_balance_75 : decode cX8_balance 75 = .ok (.iaload, 1) := by decide +kernel
theorem dX8_balance_76 : decode cX8_balance 76 = .ok (.invokevirtual 175, 3) := by decide +kernel
theorem dX8_balance_79 : decode cX8_balance 79 = .ok (.iadd, 1) := by decide +kernel
theorem dX8_balance_80 : decode cX8_balance 80 = .ok (.istore_n 2, 1) := by decide +kernel
theorem dX8_balance_81 : decode cX8_balance 81 = .ok (.iinc 4 1, 3) := by decide +kernel
theorem dX8_balance_84 : decode cX8_balance 84 = .ok (.goto (-46), 3) := by decide +kernel
theorem dX8_balance_87 : decode cX8_balance 87 = .ok (.iinc 3 1, 3) := by decide +kernel
theorem dX8_balance_90 : decode cX8_balance 90 = .ok (.goto (-69), 3) := by decide +kernel
theorem dX8_balance_93 : decode cX8_balance 93 = .ok (.iload_n 2, 1) := by decide +kernel
theorem dX8_balance_94 : decode cX8_balance 94 = .ok (.ireturn, 1) := by decide +kernel
