theorem dX6_reserveForAll_0 : decode cX6_reserveForAll 0 = .ok (.aload_n 0, 1) := by decide +kernel
theorem dX6_reserveForAll_1 : decode cX6_reserveForAll 1 = .ok (.invokevirtual 180, 3) := by decide +kernel
theorem dX6_reserveForAll_4 : decode cX6_reserveForAll 4 = .ok (.istore_n 1, 1) := by decide +kernel
theorem dX6_reserveForAll_5 : decode cX6_reserveForAll 5 = .ok (.iconst 0, 1) := by decide +kernel
theorem dX6_reserveForAll_6 : decode cX6_reserveForAll 6 = .ok (.istore_n 2, 1) := by decide +kernel
theorem dX6_reserveForAll_7 : decode cX6_reserveForAll 7 = .ok (.iload_n 2, 1) := by decide +kernel
theorem dX6_reserveForAll_8 : decode cX6_reserveForAll 8 = .ok (.iload_n 1, 1) := by decide +kernel
theorem dX6_reserveForAll_9 : decode cX6_reserveForAll 9 = .ok (.if_icmp .ge 19, 3) := by decide +kernel
theorem dX6_reserveForAll_12 : decode cX6_reserveForAll 12 = .ok (.aload_n 0, 1) := by decide +kernel
theorem dX6_reserveForAll_13 : decode cX6_reserveForAll 13 = .ok (.aload_n 0, 1) := by decide +kernel
theorem dX6_reserveForAll_14 : decode cX6_reserveForAll 14 = .ok (.getfield 57, 3) := by decide +kernel
theorem dX6_reserveForAll_17 : decode cX6_reserveForAll 17 = .ok (.iload_n 2, 1) := by decide +kernel
theorem dX6_reserveForAll_18 : decode cX6_reserveForAll 18 = .ok (.iaload, 1) := by decide +kernel
theorem dX6_reserveForAll_19 : decode cX6_reserveForAll 19 = .ok (.invokevirtual 184, 3) := by decide +kernel
theorem dX6_reserveForAll_22 : decode cX6_reserveForAll 22 = .ok (.iinc 2 1, 3) := by decide +kernel
theorem dX6_reserveForAll_25 : decode cX6_reserveForAll 25 = .ok (.goto (-18), 3) := by decide +kernel
theorem dX6_reserveForAll_28 : decode cX6_reserveForAll 28 = .ok (.return_, 1) := by decide +kernel
theorem dX6_queueOpenOrders_0 : decode cX6_queueOpenOrders 0 = .ok (.iconst 0, 1) := by decide +kernel
theorem dX6_queueOpenOrders_1 : decode cX6_queueOpenOrders 1 = .ok (.istore_n 1, 1) := by decide +kernel
theorem dX6_queueOpenOrders_2 : decode cX6_queueOpenOrders 2 = .ok (.iconst 0, 1) := by decide +kernel
theorem dX6_queueOpenOrders_3 : decode cX6_queueOpenOrders 3 = .ok (.istore_n 2, 1) := by decide +kernel
theorem dX6_queueOpenOrders_4 : decode cX6_queueOpenOrders 4 = .ok (.iload_n 2, 1) := by decide +kernel
theorem dX6_queueOpenOrders_5 : decode cX6_queueOpenOrders 5 = .ok (.aload_n 0, 1) := by decide +kernel
theorem dX6_queueOpenOrders_6 : decode cX6_queueOpenOrders 6 = .ok (.getfield 42, 3) := by decide +kernel
theorem dX6_queueOpenOrders_9 : decode cX6_queueOpenOrders 9 = .ok (.getfield 188, 3) := by decide +kernel
theorem dX6_queueOpenOrders_12 : decode cX6_queueOpenOrders 12 = .ok (.if_icmp .ge 76, 3) := by decide +kernel
theorem dX6_queueOpenOrders_15 : decode cX6_queueOpenOrders 15 = .ok (.aload_n 0, 1) := by decide +kernel
theorem dX6_queueOpenOrders_16 : decode cX6_queueOpenOrders 16 = .ok (.getfield 42, 3) := by decide +kernel
theorem dX6_queueOpenOrders_19 : decode cX6_queueOpenOrders 19 = .ok (.getfield 189, 3) := by decide +kernel
theorem dX6_queueOpenOrders_22 : decode cX6_queueOpenOrders 22 = .ok (.iload_n 2, 1) := by decide +kernel
theorem dX6_queueOpenOrders_23 : decode cX6_queueOpenOrders 23 = .ok (.iaload, 1) := by decide +kernel
theorem dX6_queueOpenOrders_24 : decode cX6_queueOpenOrders 24 = .ok (.ifCond .ne 58, 3) := by decide +kernel
theorem dX6_queueOpenOrders_27 : decode cX6_queueOpenOrders 27 = .ok (.iload_n 1, 1) := by decide +kernel
theorem dX6_queueOpenOrders_28 : decode cX6_queueOpenOrders 28 = .ok (.istore_n 3, 1) := by decide +kernel
theorem dX6_queueOpenOrders_29 : decode cX6_queueOpenOrders 29 = .ok (.iload_n 3, 1) := by decide +kernel
theorem dX6_queueOpenOrders_30 : decode cX6_queueOpenOrders 30 = .ok (.ifCond .le 42, 3) := by decide +kernel
theorem dX6_queueOpenOrders_33 : decode cX6_queueOpenOrders 33 = .ok (.aload_n 0, 1) := by decide +kernel
theorem dX6_queueOpenOrders_34 : decode cX6_queueOpenOrders 34 = .ok (.getfield 42, 3) := by decide +kernel
theorem dX6_queueOpenOrders_37 : decode cX6_queueOpenOrders 37 = .ok (.iload_n 2, 1) := by decide +kernel
theorem dX6_queueOpenOrders_38 : decode cX6_queueOpenOrders 38 = .ok (.aload_n 0, 1) := by decide +kernel
theorem dX6_queueOpenOrders_39 : decode cX6_queueOpenOrders 39 = .ok (.getfield 57, 3) := by decide +kernel
theorem dX6_queueOpenOrders_42 : decode cX6_queueOpenOrders 42 = .ok (.iload_n 3, 1) := by decide +kernel
theorem dX6_queueOpenOrders_43 : decode cX6_queueOpenOrders 43 = .ok (.iconst 1, 1) := by decide +kernel
theorem dX6_queueOpenOrders_44 : decode cX6_queueOpenOrders 44 = .ok (.isub, 1) := by decide +kernel
theorem dX6_queueOpenOrders_45 : decode cX6_queueOpenOrders 45 = .ok (.iaload, 1) := by decide +kernel
theorem dX6_queueOpenOrders_46 : decode cX6_queueOpenOrders 46 = .ok (.invokevirtual 192, 3) := by decide +kernel
theorem dX6_queueOpenOrders_49 : decode cX6_queueOpenOrders 49 = .ok (.ifCond .eq 23, 3) := by decide +kernel
theorem dX6_queueOpenOrders_52 : decode cX6_queueOpenOrders 52 = .ok (.aload_n 0, 1) := by decide +kernel
theorem dX6_queueOpenOrders_53 : decode cX6_queueOpenOrders 53 = .ok (.getfield 57, 3) := by decide +kernel
theorem dX6_queueOpenOrders_56 : decode cX6_queueOpenOrders 56 = .ok (.iload_n 3, 1) := by decide +kernel
theorem dX6_queueOpenOrders_57 : decode cX6_queueOpenOrders 57 = .ok (.aload_n 0, 1) := by decide +kernel
theorem dX6_queueOpenOrders_58 : decode cX6_queueOpenOrders 58 = .ok (.getfield 57, 3) := by decide +kernel
theorem dX6_queueOpenOrders_61 : decode cX6_queueOpenOrders 61 = .ok (.iload_n 3, 1) := by decide +kernel
theorem dX6_queueOpenOrders_62 : decode cX6_queueOpenOrders 62 = .ok (.iconst 1, 1) := by decide +kernel
theorem dX6_queueOpenOrders_63 : decode cX6_queueOpenOrders 63 = .ok (.isub, 1) := by decide +kernel
theorem dX6_queueOpenOrders_64 : decode cX6_queueOpenOrders 64 = .ok (.iaload, 1) := by decide +kernel
theorem dX6_queueOpenOrders_65 : decode cX6_queueOpenOrders 65 = .ok (.iastore, 1) := by decide +kernel
theorem dX6_queueOpenOrders_66 : decode cX6_queueOpenOrders 66 = .ok (.iinc 3 (-1), 3) := by decide +kernel
theorem dX6_queueOpenOrders_69 : decode cX6_queueOpenOrders 69 = .ok (.goto (-40), 3) := by decide +kernel
theorem dX6_queueOpenOrders_72 : decode cX6_queueOpenOrders 72 = .ok (.aload_n 0, 1) := by decide +kernel
theorem dX6_queueOpenOrders_73 : decode cX6_queueOpenOrders 73 = .ok (.getfield 57, 3) := by decide +kernel
theorem dX6_queueOpenOrders_76 : decode cX6_queueOpenOrders 76 = .ok (.iload_n 3, 1) := by decide +kernel
theorem dX6_queueOpenOrders_77 : decode cX6_queueOpenOrders 77 = .ok (.iload_n 2, 1) := by decide +kernel
theorem dX6_queueOpenOrders_78 : decode cX6_queueOpenOrders 78 = .ok (.iastore, 1) := by decide +kernel
theorem dX6_queueOpenOrders_79 : decode cX6_queueOpenOrders 79 = .ok (.iinc 1 1, 3) := by decide +kernel
theorem dX6_queueOpenOrders_82 : decode cX6_queueOpenOrders 82 = .ok (.iinc 2 1, 3) := by decide +kernel
theorem dX6_queueOpenOrders_85 : decode cX6_queueOpenOrders 85 = .ok (.goto (-81), 3) := by decide +kernel
theorem dX6_queueOpenOrders_88 : decode cX6_queueOpenOrders 88 = .ok (.iload_n 1, 1) := by decide +kernel
theorem dX6_queueOpenOrders_89 : decode cX6_queueOpenOrders 89 = .ok (.ireturn, 1) := by decide +kernel
theorem dX6_liveDays_0 : decode cX6_liveDays 0 = .ok (.iconst 0, 1) := by decide +kernel
theorem dX6_liveDays_1 : decode cX6_liveDays 1 = .ok (.istore_n 2, 1) := by decide +kernel
theorem dX6_liveDays_2 : decode cX6_liveDays 2 = .ok (.iload_n 2, 1) := by decide +kernel
theorem dX6_liveDays_3 : decode cX6_liveDays 3 = .ok (.iload_n 1, 1) := by decide +kernel
theorem dX6_liveDays_4 : decode cX6_liveDays 4 = .ok (.if_icmp .ge 43, 3) := by decide +kernel
theorem dX6_liveDays_7 : decode cX6_liveDays 7 = .ok (.aload_n 0, 1) := by decide +kernel
theorem dX6_liveDays_8 : decode cX6_liveDays 8 = .ok (.dup, 1) := by decide +kernel
theorem dX6_liveDays_9 : decode cX6_liveDays 9 = .ok (.getfield 60, 3) := by decide +kernel
theorem dX6_liveDays_12 : decode cX6_liveDays 12 = .ok (.iconst 1, 1) := by decide +kernel
theorem dX6_liveDays_13 : decode cX6_liveDays 13 = .ok (.iadd, 1) := by decide +kernel
theorem dX6_liveDays_14 : decode cX6_liveDays 14 = .ok (.putfield 60, 3) := by decide +kernel
theorem dX6_liveDays_17 : decode cX6_liveDays 17 = .ok (.aload_n 0, 1) := by decide +kernel
theorem dX6_liveDays_18 : decode cX6_liveDays 18 = .ok (.invokevirtual 242, 3) := by decide +kernel
theorem dX6_liveDays_21 : decode cX6_liveDays 21 = .ok (.aload_n 0, 1) := by decide +kernel
theorem dX6_liveDays_22 : decode cX6_liveDays 22 = .ok (.invokevirtual 245, 3) := by decide +kernel
theorem dX6_liveDays_25 : decode cX6_liveDays 25 = .ok (.aload_n 0, 1) := by decide +kernel
theorem dX6_liveDays_26 : decode cX6_liveDays 26 = .ok (.invokevirtual 248, 3) := by decide +kernel
theorem dX6_liveDays_29 : decode cX6_liveDays 29 = .ok (.aload_n 0, 1) := by decide +kernel
theorem dX6_liveDays_30 : decode cX6_liveDays 30 = .ok (.invokevirtual 251, 3) := by decide +kernel
theorem dX6_liveDays_33 : decode cX6_liveDays 33 = .ok (.aload_n 0, 1) := by decide +kernel
theorem dX6_liveDays_34 : decode cX6_liveDays 34 = .ok (.invokevirtual 254, 3) := by decide +kernel
theorem dX6_liveDays_37 : decode cX6_liveDays 37 = .ok (.aload_n 0, 1) := by decide +kernel
theorem dX6_liveDays_38 : decode cX6_liveDays 38 = .ok (.invokevirtual 257, 3) := by decide +kernel
theorem dX6_liveDays_41 : decode cX6_liveDays 41 = .ok (.iinc 2 1, 3) := by decide +kernel
theorem dX6_liveDays_44 : decode cX6_liveDays 44 = .ok (.goto (-42), 3) := by decide +kernel
theorem dX6_liveDays_47 : decode cX6_liveDays 47 = .ok (.return_, 1) := by decide +kernel
