theorem dX8_mixPlans_0 : decode cX8_mixPlans 0 = .ok (.lload_n 1, 1) := by decide +kernel
theorem dX8_mixPlans_1 : decode cX8_mixPlans 1 = .ok (.lstore_n 3, 1) := by decide +kernel
theorem dX8_mixPlans_2 : decode cX8_mixPlans 2 = .ok (.iconst 0, 1) := by decide +kernel
theorem dX8_mixPlans_3 : decode cX8_mixPlans 3 = .ok (.istore 5, 2) := by decide +kernel
theorem dX8_mixPlans_5 : decode cX8_mixPlans 5 = .ok (.iload 5, 2) := by decide +kernel
theorem dX8_mixPlans_7 : decode cX8_mixPlans 7 = .ok (.aload_n 0, 1) := by decide +kernel
theorem dX8_mixPlans_8 : decode cX8_mixPlans 8 = .ok (.getfield 10, 3) := by decide +kernel
theorem dX8_mixPlans_11 : decode cX8_mixPlans 11 = .ok (.getfield 30, 3) := by decide +kernel
theorem dX8_mixPlans_14 : decode cX8_mixPlans 14 = .ok (.getfield 34, 3) := by decide +kernel
theorem dX8_mixPlans_17 : decode cX8_mixPlans 17 = .ok (.if_icmp .ge 116, 3) := by decide +kernel
theorem dX8_mixPlans_20 : decode cX8_mixPlans 20 = .ok (.lload_n 3, 1) := by decide +kernel
theorem dX8_mixPlans_21 : decode cX8_mixPlans 21 = .ok (.aload_n 0, 1) := by decide +kernel
theorem dX8_mixPlans_22 : decode cX8_mixPlans 22 = .ok (.getfield 10, 3) := by decide +kernel
theorem dX8_mixPlans_25 : decode cX8_mixPlans 25 = .ok (.getfield 30, 3) := by decide +kernel
theorem dX8_mixPlans_28 : decode cX8_mixPlans 28 = .ok (.iload 5, 2) := by decide +kernel
theorem dX8_mixPlans_30 : decode cX8_mixPlans 30 = .ok (.invokevirtual 237, 3) := by decide +kernel
theorem dX8_mixPlans_33 : decode cX8_mixPlans 33 = .ok (.i2l, 1) := by decide +kernel
theorem dX8_mixPlans_34 : decode cX8_mixPlans 34 = .ok (.invokestatic 281, 3) := by decide +kernel
theorem dX8_mixPlans_37 : decode cX8_mixPlans 37 = .ok (.lstore_n 3, 1) := by decide +kernel
theorem dX8_mixPlans_38 : decode cX8_mixPlans 38 = .ok (.aload_n 0, 1) := by decide +kernel
theorem dX8_mixPlans_39 : decode cX8_mixPlans 39 = .ok (.getfield 22, 3) := by decide +kernel
theorem dX8_mixPlans_42 : decode cX8_mixPlans 42 = .ok (.aload_n 0, 1) := by decide +kernel
theorem dX8_mixPlans_43 : decode cX8_mixPlans 43 = .ok (.getfield 10, 3) := by decide +kernel
theorem dX8_mixPlans_46 : decode cX8_mixPlans 46 = .ok (.iload 5, 2) := by decide +kernel
theorem dX8_mixPlans_48 : decode cX8_mixPlans 48 = .ok (.invokevirtual 178, 3) := by decide +kernel
theorem dX8_mixPlans_51 : decode cX8_mixPlans 51 = .ok (.iconst 0, 1) := by decide +kernel
theorem dX8_mixPlans_52 : decode cX8_mixPlans 52 = .ok (.istore 6, 2) := by decide +kernel
theorem dX8_mixPlans_54 : decode cX8_mixPlans 54 = .ok (.iload 6, 2) := by decide +kernel
theorem dX8_mixPlans_56 : decode cX8_mixPlans 56 = .ok (.aload_n 0, 1) := by decide +kernel
theorem dX8_mixPlans_57 : decode cX8_mixPlans 57 = .ok (.getfield 10, 3) := by decide +kernel
theorem dX8_mixPlans_60 : decode cX8_mixPlans 60 = .ok (.getfield 48, 3) := by decide +kernel
theorem dX8_mixPlans_63 : decode cX8_mixPlans 63 = .ok (.getfield 52, 3) := by decide +kernel
theorem dX8_mixPlans_66 : decode cX8_mixPlans 66 = .ok (.if_icmp .ge 61, 3) := by decide +kernel
theorem dX8_mixPlans_69 : decode cX8_mixPlans 69 = .ok (.iconst 0, 1) := by decide +kernel
theorem dX8_mixPlans_70 : decode cX8_mixPlans 70 = .ok (.istore 7, 2) := by decide +kernel
theorem dX8_mixPlans_72 : decode cX8_mixPlans 72 = .ok (.iload 7, 2) := by decide +kernel
theorem dX8_mixPlans_74 : decode cX8_mixPlans 74 = .ok (.aload_n 0, 1) := by decide +kernel
theorem dX8_mixPlans_75 : decode cX8_mixPlans 75 = .ok (.getfield 10, 3) := by decide +kernel
theorem dX8_mixPlans_78 : decode cX8_mixPlans 78 = .ok (.getfield 48, 3) := by decide +kernel
theorem dX8_mixPlans_81 : decode cX8_mixPlans 81 = .ok (.getfield 52, 3) := by decide +kernel
theorem dX8_mixPlans_84 : decode cX8_mixPlans 84 = .ok (.if_icmp .ge 37, 3) := by decide +kernel
theorem dX8_mixPlans_87 : decode cX8_mixPlans 87 = .ok (.iload 6, 2) := by decide +kernel
theorem dX8_mixPlans_89 : decode cX8_mixPlans 89 = .ok (.iload 7, 2) := by decide +kernel
theorem dX8_mixPlans_91 : decode cX8_mixPlans 91 = .ok (.if_icmp .eq 24, 3) := by decide +kernel
theorem dX8_mixPlans_94 : decode cX8_mixPlans 94 = .ok (.lload_n 3, 1) := by decide +kernel
theorem dX8_mixPlans_95 : decode cX8_mixPlans 95 = .ok (.aload_n 0, 1) := by decide +kernel
theorem dX8_mixPlans_96 : decode cX8_mixPlans 96 = .ok (.getfield 22, 3) := by decide +kernel
theorem dX8_mixPlans_99 : decode cX8_mixPlans 99 = .ok (.getfield 182, 3) := by decide +kernel
theorem dX8_mixPlans_102 : decode cX8_mixPlans 102 = .ok (.iload 6, 2) := by decide +kernel
theorem dX8_mixPlans_104 : decode cX8_mixPlans 104 = .ok (.iload 7, 2) := by decide +kernel
theorem dX8_mixPlans_106 : decode cX8_mixPlans 106 = .ok (.invokestatic 73, 3) := by decide +kernel
theorem dX8_mixPlans_109 : decode cX8_mixPlans 109 = .ok (.iaload, 1) := by decide +kernel
theorem dX8_mixPlans_110 : decode cX8_mixPlans 110 = .ok (.i2l, 1) := by decide +kernel
theorem dX8_mixPlans_111 : decode cX8_mixPlans 111 = .ok (.invokestatic 281, 3) := by decide +kernel
theorem dX8_mixPlans_114 : decode cX8_mixPlans 114 = .ok (.lstore_n 3, 1) := by decide +kernel
theorem dX8_mixPlans_115 : decode cX8_mixPlans 115 = .ok (.iinc 7 1, 3) := by decide +kernel
theorem dX8_mixPlans_118 : decode cX8_mixPlans 118 = .ok (.goto (-46), 3) := by decide +kernel
theorem dX8_mixPlans_121 : decode cX8_mixPlans 121 = .ok (.iinc 6 1, 3) := by decide +kernel
theorem dX8_mixPlans_124 : decode cX8_mixPlans 124 = .ok (.goto (-70), 3) := by decide +kernel
theorem dX8_mixPlans_127 : decode cX8_mixPlans 127 = .ok (.iinc 5 1, 3) := by decide +kernel
theorem dX8_mixPlans_130 : decode cX8_mixPlans 130 = .ok (.goto (-125), 3) := by decide +kernel
theorem dX8_mixPlans_133 : decode cX8_mixPlans 133 = .ok (.lload_n 3, 1) := by decide +kernel
theorem dX8_mixPlans_134 : decode cX8_mixPlans 134 = .ok (.lreturn, 1) := by decide +kernel
