theorem dX6_liveDays_0 : decode cX6_liveDays 0 = .ok (.iconst 0, 1) := by decide +kernel
theorem dX6_liveDays_1 : decode cX6_liveDays 1 = .ok (.istore_n 2, 1) := by decide +kernel
theorem dX6_liveDays_2 : decode cX6_liveDays 2 = .ok (.iload_n 2, 1) := by decide +kernel
theorem dX6_liveDays_3 : decode cX6_liveDays 3 = .ok (.iload_n 1, 1) := by decide +kernel
theorem dX6_liveDays_4 : decode cX6_liveDays 4 = .ok (.if_icmp .ge 43, 3) := by decide +kernel
theorem dX6_liveDays_7 : decode cX6_liveDays 7 = .ok (.aload_n 0, 1) := by decide +kernel
theorem dX6_liveDays_8 : decode cX6_liveDays 8 = .ok (.dup, 1) := by decide +kernel
theorem dX6_liveDays_9 : decode cX6_liveDays 9 = .ok (.getfield 60, 3) := by decide +kernel
theorem dX6_liveDays_12 : decode cX6_liveDays 12 = .ok (.iconst 1, 1) := by decide +kernel
theorem dX6_liveDays_13 : decode cX6_liveDays 13 = .ok (.iadd, 1) := by decide +kernel
theorem dX6_liveDays_14 : decode cX6_liveDays 14 = .ok (.putfield 60, 3) := by decide +kernel
theorem dX6_liveDays_17 : decode cX6_liveDays 17 = .ok (.aload_n 0, 1) := by decide +kernel
theorem dX6_liveDays_18 : decode cX6_liveDays 18 = .ok (.invokevirtual 242, 3) := by decide +kernel
theorem dX6_liveDays_21 : decode cX6_liveDays 21 = .ok (.aload_n 0, 1) := by decide +kernel
theorem dX6_liveDays_22 : decode cX6_liveDays 22 = .ok (.invokevirtual 245, 3) := by decide +kernel
theorem dX6_liveDays_25 : decode cX6_liveDays 25 = .ok (.aload_n 0, 1) := by decide +kernel
theorem dX6_liveDays_26 : decode cX6_liveDays 26 = .ok (.invokevirtual 248, 3) := by decide +kernel
theorem dX6_liveDays_29 : decode cX6_liveDays 29 = .ok (.aload_n 0, 1) := by decide +kernel
theorem dX6_liveDays_30 : decode cX6_liveDays 30 = .ok (.invokevirtual 251, 3) := by decide +kernel
theorem dX6_liveDays_33 : decode cX6_liveDays 33 = .ok (.aload_n 0, 1) := by decide +kernel
theorem dX6_liveDays_34 : decode cX6_liveDays 34 = .ok (.invokevirtual 254, 3) := by decide +kernel
theorem dX6_liveDays_37 : decode cX6_liveDays 37 = .ok (.aload_n 0, 1) := by decide +kernel
theorem dX6_liveDays_38 : decode cX6_liveDays 38 = .ok (.invokevirtual 257, 3) := by decide +kernel
theorem dX6_liveDays_41 : decode cX6_liveDays 41 = .ok (.iinc 2 1, 3) := by decide +kernel
theorem dX6_liveDays_44 : decode cX6_liveDays 44 = .ok (.goto (-42), 3) := by decide +kernel
theorem dX6_liveDays_47 : decode cX6_liveDays 47 = .ok (.return_, 1) := by decide +kernel
