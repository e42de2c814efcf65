theorem dX6_sendUnits_0 : decode cX6_sendUnits 0 = .ok (.aload_n 0, 1) := by decide +kernel
theorem dX6_sendUnits_1 : decode cX6_sendUnits 1 = .ok (.getfield 21, 3) := by decide +kernel
theorem dX6_sendUnits_4 : decode cX6_sendUnits 4 = .ok (.iload_n 2, 1) := by decide +kernel
theorem dX6_sendUnits_5 : decode cX6_sendUnits 5 = .ok (.iload_n 3, 1) := by decide +kernel
theorem dX6_sendUnits_6 : decode cX6_sendUnits 6 = .ok (.invokevirtual 209, 3) := by decide +kernel
theorem dX6_sendUnits_9 : decode cX6_sendUnits 9 = .ok (.istore 5, 2) := by decide +kernel
theorem dX6_sendUnits_11 : decode cX6_sendUnits 11 = .ok (.iload 5, 2) := by decide +kernel
theorem dX6_sendUnits_13 : decode cX6_sendUnits 13 = .ok (.ifCond .ne 5, 3) := by decide +kernel
theorem dX6_sendUnits_16 : decode cX6_sendUnits 16 = .ok (.iconst 0, 1) := by decide +kernel
theorem dX6_sendUnits_17 : decode cX6_sendUnits 17 = .ok (.ireturn, 1) := by decide +kernel
theorem dX6_sendUnits_18 : decode cX6_sendUnits 18 = .ok (.aload_n 0, 1) := by decide +kernel
theorem dX6_sendUnits_19 : decode cX6_sendUnits 19 = .ok (.getfield 60, 3) := by decide +kernel
theorem dX6_sendUnits_22 : decode cX6_sendUnits 22 = .ok (.iload 5, 2) := by decide +kernel
theorem dX6_sendUnits_24 : decode cX6_sendUnits 24 = .ok (.iadd, 1) := by decide +kernel
theorem dX6_sendUnits_25 : decode cX6_sendUnits 25 = .ok (.istore 6, 2) := by decide +kernel
theorem dX6_sendUnits_27 : decode cX6_sendUnits 27 = .ok (.iconst 0, 1) := by decide +kernel
theorem dX6_sendUnits_28 : decode cX6_sendUnits 28 = .ok (.istore 7, 2) := by decide +kernel
theorem dX6_sendUnits_30 : decode cX6_sendUnits 30 = .ok (.iconst 0, 1) := by decide +kernel
theorem dX6_sendUnits_31 : decode cX6_sendUnits 31 = .ok (.istore 8, 2) := by decide +kernel
theorem dX6_sendUnits_33 : decode cX6_sendUnits 33 = .ok (.iload 8, 2) := by decide +kernel
theorem dX6_sendUnits_35 : decode cX6_sendUnits 35 = .ok (.bipush 90, 2) := by decide +kernel
theorem dX6_sendUnits_37 : decode cX6_sendUnits 37 = .ok (.if_icmp .ge 114, 3) := by decide +kernel
theorem dX6_sendUnits_40 : decode cX6_sendUnits 40 = .ok (.iload 7, 2) := by decide +kernel
theorem dX6_sendUnits_42 : decode cX6_sendUnits 42 = .ok (.iload 4, 2) := by decide +kernel
theorem dX6_sendUnits_44 : decode cX6_sendUnits 44 = .ok (.if_icmp .ge 107, 3) := by decide +kernel
theorem dX6_sendUnits_47 : decode cX6_sendUnits 47 = .ok (.aload_n 0, 1) := by decide +kernel
theorem dX6_sendUnits_48 : decode cX6_sendUnits 48 = .ok (.getfield 49, 3) := by decide +kernel
theorem dX6_sendUnits_51 : decode cX6_sendUnits 51 = .ok (.invokevirtual 212, 3) := by decide +kernel
theorem dX6_sendUnits_54 : decode cX6_sendUnits 54 = .ok (.ifCond .ne 97, 3) := by decide +kernel
theorem dX6_sendUnits_57 : decode cX6_sendUnits 57 = .ok (.aload_n 0, 1) := by decide +kernel
theorem dX6_sendUnits_58 : decode cX6_sendUnits 58 = .ok (.getfield 35, 3) := by decide +kernel
theorem dX6_sendUnits_61 : decode cX6_sendUnits 61 = .ok (.iload_n 1, 1) := by decide +kernel
theorem dX6_sendUnits_62 : decode cX6_sendUnits 62 = .ok (.iload_n 2, 1) := by decide +kernel
theorem dX6_sendUnits_63 : decode cX6_sendUnits 63 = .ok (.iload 6, 2) := by decide +kernel
theorem dX6_sendUnits_65 : decode cX6_sendUnits 65 = .ok (.iconst 1, 1) := by decide +kernel
theorem dX6_sendUnits_66 : decode cX6_sendUnits 66 = .ok (.iadd, 1) := by decide +kernel
theorem dX6_sendUnits_67 : decode cX6_sendUnits 67 = .ok (.invokevirtual 173, 3) := by decide +kernel
theorem dX6_sendUnits_70 : decode cX6_sendUnits 70 = .ok (.istore 9, 2) := by decide +kernel
theorem dX6_sendUnits_72 : decode cX6_sendUnits 72 = .ok (.iload 9, 2) := by decide +kernel
theorem dX6_sendUnits_74 : decode cX6_sendUnits 74 = .ok (.iconst (-1), 1) := by decide +kernel
theorem dX6_sendUnits_75 : decode cX6_sendUnits 75 = .ok (.if_icmp .ne 6, 3) := by decide +kernel
theorem dX6_sendUnits_78 : decode cX6_sendUnits 78 = .ok (.iload 7, 2) := by decide +kernel
theorem dX6_sendUnits_80 : decode cX6_sendUnits 80 = .ok (.ireturn, 1) := by decide +kernel
theorem dX6_sendUnits_81 : decode cX6_sendUnits 81 = .ok (.iload 4, 2) := by decide +kernel
theorem dX6_sendUnits_83 : decode cX6_sendUnits 83 = .ok (.iload 7, 2) := by decide +kernel
theorem dX6_sendUnits_85 : decode cX6_sendUnits 85 = .ok (.isub, 1) := by decide +kernel
theorem dX6_sendUnits_86 : decode cX6_sendUnits 86 = .ok (.aload_n 0, 1) := by decide +kernel
theorem dX6_sendUnits_87 : decode cX6_sendUnits 87 = .ok (.getfield 35, 3) := by decide +kernel
theorem dX6_sendUnits_90 : decode cX6_sendUnits 90 = .ok (.iload 9, 2) := by decide +kernel
theorem dX6_sendUnits_92 : decode cX6_sendUnits 92 = .ok (.invokevirtual 177, 3) := by decide +kernel
theorem dX6_sendUnits_95 : decode cX6_sendUnits 95 = .ok (.invokestatic 134, 3) := by decide +kernel
theorem dX6_sendUnits_98 : decode cX6_sendUnits 98 = .ok (.istore 10, 2) := by decide +kernel
theorem dX6_sendUnits_100 : decode cX6_sendUnits 100 = .ok (.aload_n 0, 1) := by decide +kernel
theorem dX6_sendUnits_101 : decode cX6_sendUnits 101 = .ok (.getfield 49, 3) := by decide +kernel
theorem dX6_sendUnits_104 : decode cX6_sendUnits 104 = .ok (.iload_n 1, 1) := by decide +kernel
theorem dX6_sendUnits_105 : decode cX6_sendUnits 105 = .ok (.iload_n 3, 1) := by decide +kernel
theorem dX6_sendUnits_106 : decode cX6_sendUnits 106 = .ok (.iload 10, 2) := by decide +kernel
theorem dX6_sendUnits_108 : decode cX6_sendUnits 108 = .ok (.iload 6, 2) := by decide +kernel
theorem dX6_sendUnits_110 : decode cX6_sendUnits 110 = .ok (.aload_n 0, 1) := by decide +kernel
theorem dX6_sendUnits_111 : decode cX6_sendUnits 111 = .ok (.getfield 35, 3) := by decide +kernel
theorem dX6_sendUnits_114 : decode cX6_sendUnits 114 = .ok (.getfield 216, 3) := by decide +kernel
theorem dX6_sendUnits_117 : decode cX6_sendUnits 117 = .ok (.iload 9, 2) := by decide +kernel
theorem dX6_sendUnits_119 : decode cX6_sendUnits 119 = .ok (.iaload, 1) := by decide +kernel
theorem dX6_sendUnits_120 : decode cX6_sendUnits 120 = .ok (.invokevirtual 219, 3) := by decide +kernel
theorem dX6_sendUnits_123 : decode cX6_sendUnits 123 = .ok (.aload_n 0, 1) := by decide +kernel
theorem dX6_sendUnits_124 : decode cX6_sendUnits 124 = .ok (.getfield 35, 3) := by decide +kernel
theorem dX6_sendUnits_127 : decode cX6_sendUnits 127 = .ok (.getfield 195, 3) := by decide +kernel
theorem dX6_sendUnits_130 : decode cX6_sendUnits 130 = .ok (.iload 9, 2) := by decide +kernel
theorem dX6_sendUnits_132 : decode cX6_sendUnits 132 = .ok (.dup2, 1) := by decide +kernel
theorem dX6_sendUnits_133 : decode cX6_sendUnits 133 = .ok (.iaload, 1) := by decide +kernel
theorem dX6_sendUnits_134 : decode cX6_sendUnits 134 = .ok (.iload 10, 2) := by decide +kernel
theorem dX6_sendUnits_136 : decode cX6_sendUnits 136 = .ok (.isub, 1) := by decide +kernel
theorem dX6_sendUnits_137 : decode cX6_sendUnits 137 = .ok (.iastore, 1) := by decide +kernel
theorem dX6_sendUnits_138 : decode cX6_sendUnits 138 = .ok (.iload 7, 2) := by decide +kernel
theorem dX6_sendUnits_140 : decode cX6_sendUnits 140 = .ok (.iload 10, 2) := by decide +kernel
theorem dX6_sendUnits_142 : decode cX6_sendUnits 142 = .ok (.iadd, 1) := by decide +kernel
theorem dX6_sendUnits_143 : decode cX6_sendUnits 143 = .ok (.istore 7, 2) := by decide +kernel
theorem dX6_sendUnits_145 : decode cX6_sendUnits 145 = .ok (.iinc 8 1, 3) := by decide +kernel
theorem dX6_sendUnits_148 : decode cX6_sendUnits 148 = .ok (.goto (-115), 3) := by decide +kernel
theorem dX6_sendUnits_151 : decode cX6_sendUnits 151 = .ok (.iload 7, 2) := by decide +kernel
theorem dX6_sendUnits_153 : decode cX6_sendUnits 153 = .ok (.ireturn, 1) := by decide +kernel
theorem dX6_review_0 : decode cX6_review 0 = .ok (.aload_n 0, 1) := by decide +kernel
theorem dX6_review_1 : decode cX6_review 1 = .ok (.getfield 28, 3) := by decide +kernel
theorem dX6_review_4 : decode cX6_review 4 = .ok (.iload_n 1, 1) := by decide +kernel
theorem dX6_review_5 : decode cX6_review 5 = .ok (.iload_n 2, 1) := by decide +kernel
theorem dX6_review_6 : decode cX6_review 6 = .ok (.invokevirtual 110, 3) := by decide +kernel
theorem dX6_review_9 : decode cX6_review 9 = .ok (.ifCond .ne 4, 3) := by decide +kernel
theorem dX6_review_12 : decode cX6_review 12 = .ok (.return_, 1) := by decide +kernel
theorem dX6_review_13 : decode cX6_review 13 = .ok (.iload_n 1, 1) := by decide +kernel
theorem dX6_review_14 : decode cX6_review 14 = .ok (.iload_n 2, 1) := by decide +kernel
theorem dX6_review_15 : decode cX6_review 15 = .ok (.invokestatic 117, 3) := by decide +kernel
theorem dX6_review_18 : decode cX6_review 18 = .ok (.istore_n 3, 1) := by decide +kernel
theorem dX6_review_19 : decode cX6_review 19 = .ok (.aload_n 0, 1) := by decide +kernel
theorem dX6_review_20 : decode cX6_review 20 = .ok (.iload_n 1, 1) := by decide +kernel
theorem dX6_review_21 : decode cX6_review 21 = .ok (.iload_n 2, 1) := by decide +kernel
theorem dX6_review_22 : decode cX6_review 22 = .ok (.invokevirtual 120, 3) := by decide +kernel
theorem dX6_review_25 : decode cX6_review 25 = .ok (.istore 4, 2) := by decide +kernel
theorem dX6_review_27 : decode cX6_review 27 = .ok (.iload 4, 2) := by decide +kernel
theorem dX6_review_29 : decode cX6_review 29 = .ok (.aload_n 0, 1) := by decide +kernel
theorem dX6_review_30 : decode cX6_review 30 = .ok (.getfield 28, 3) := by decide +kernel
theorem dX6_review_33 : decode cX6_review 33 = .ok (.getfield 114, 3) := by decide +kernel
theorem dX6_review_36 : decode cX6_review 36 = .ok (.iload_n 3, 1) := by decide +kernel
theorem dX6_review_37 : decode cX6_review 37 = .ok (.iaload, 1) := by decide +kernel
theorem dX6_review_38 : decode cX6_review 38 = .ok (.if_icmp .gt 17, 3) := by decide +kernel
theorem dX6_review_41 : decode cX6_review 41 = .ok (.iload 4, 2) := by decide +kernel
theorem dX6_review_43 : decode cX6_review 43 = .ok (.aload_n 0, 1) := by decide +kernel
theorem dX6_review_44 : decode cX6_review 44 = .ok (.getfield 28, 3) := by decide +kernel
theorem dX6_review_47 : decode cX6_review 47 = .ok (.getfield 128, 3) := by decide +kernel
theorem dX6_review_50 : decode cX6_review 50 = .ok (.iload_n 3, 1) := by decide +kernel
theorem dX6_review_51 : decode cX6_review 51 = .ok (.iaload, 1) := by decide +kernel
theorem dX6_review_52 : decode cX6_review 52 = .ok (.if_icmp .lt 4, 3) := by decide +kernel
theorem dX6_review_55 : decode cX6_review 55 = .ok (.return_, 1) := by decide +kernel
theorem dX6_review_56 : decode cX6_review 56 = .ok (.aload_n 0, 1) := by decide +kernel
theorem dX6_review_57 : decode cX6_review 57 = .ok (.getfield 12, 3) := by decide +kernel
theorem dX6_review_60 : decode cX6_review 60 = .ok (.iload_n 1, 1) := by decide +kernel
theorem dX6_review_61 : decode cX6_review 61 = .ok (.aload_n 0, 1) := by decide +kernel
theorem dX6_review_62 : decode cX6_review 62 = .ok (.getfield 28, 3) := by decide +kernel
theorem dX6_review_65 : decode cX6_review 65 = .ok (.getfield 128, 3) := by decide +kernel
theorem dX6_review_68 : decode cX6_review 68 = .ok (.iload_n 3, 1) := by decide +kernel
theorem dX6_review_69 : decode cX6_review 69 = .ok (.iaload, 1) := by decide +kernel
theorem dX6_review_70 : decode cX6_review 70 = .ok (.iload 4, 2) := by decide +kernel
theorem dX6_review_72 : decode cX6_review 72 = .ok (.isub, 1) := by decide +kernel
theorem dX6_review_73 : decode cX6_review 73 = .ok (.invokevirtual 223, 3) := by decide +kernel
theorem dX6_review_76 : decode cX6_review 76 = .ok (.istore 5, 2) := by decide +kernel
theorem dX6_review_78 : decode cX6_review 78 = .ok (.aload_n 0, 1) := by decide +kernel
theorem dX6_review_79 : decode cX6_review 79 = .ok (.getfield 28, 3) := by decide +kernel
theorem dX6_review_82 : decode cX6_review 82 = .ok (.getfield 226, 3) := by decide +kernel
theorem dX6_review_85 : decode cX6_review 85 = .ok (.iload_n 3, 1) := by decide +kernel
theorem dX6_review_86 : decode cX6_review 86 = .ok (.iaload, 1) := by decide +kernel
theorem dX6_review_87 : decode cX6_review 87 = .ok (.iconst (-1), 1) := by decide +kernel
theorem dX6_review_88 : decode cX6_review 88 = .ok (.if_icmp .ne 23, 3) := by decide +kernel
theorem dX6_review_91 : decode cX6_review 91 = .ok (.aload_n 0, 1) := by decide +kernel
theorem dX6_review_92 : decode cX6_review 92 = .ok (.iload_n 1, 1) := by decide +kernel
theorem dX6_review_93 : decode cX6_review 93 = .ok (.iload_n 2, 1) := by decide +kernel
theorem dX6_review_94 : decode cX6_review 94 = .ok (.iload 5, 2) := by decide +kernel
theorem dX6_review_96 : decode cX6_review 96 = .ok (.aload_n 0, 1) := by decide +kernel
theorem dX6_review_97 : decode cX6_review 97 = .ok (.getfield 28, 3) := by decide +kernel
theorem dX6_review_100 : decode cX6_review 100 = .ok (.getfield 229, 3) := by decide +kernel
theorem dX6_review_103 : decode cX6_review 103 = .ok (.iload_n 3, 1) := by decide +kernel
theorem dX6_review_104 : decode cX6_review 104 = .ok (.iaload, 1) := by decide +kernel
theorem dX6_review_105 : decode cX6_review 105 = .ok (.invokevirtual 232, 3) := by decide +kernel
theorem dX6_review_108 : decode cX6_review 108 = .ok (.goto 21, 3) := by decide +kernel
theorem dX6_review_111 : decode cX6_review 111 = .ok (.aload_n 0, 1) := by decide +kernel
theorem dX6_review_112 : decode cX6_review 112 = .ok (.iload_n 1, 1) := by decide +kernel
theorem dX6_review_113 : decode cX6_review 113 = .ok (.aload_n 0, 1) := by decide +kernel
theorem dX6_review_114 : decode cX6_review 114 = .ok (.getfield 28, 3) := by decide +kernel
theorem dX6_review_117 : decode cX6_review 117 = .ok (.getfield 226, 3) := by decide +kernel
theorem dX6_review_120 : decode cX6_review 120 = .ok (.iload_n 3, 1) := by decide +kernel
theorem dX6_review_121 : decode cX6_review 121 = .ok (.iaload, 1) := by decide +kernel
theorem dX6_review_122 : decode cX6_review 122 = .ok (.iload_n 2, 1) := by decide +kernel
theorem dX6_review_123 : decode cX6_review 123 = .ok (.iload 5, 2) := by decide +kernel
theorem dX6_review_125 : decode cX6_review 125 = .ok (.invokevirtual 236, 3) := by decide +kernel
theorem dX6_review_128 : decode cX6_review 128 = .ok (.pop, 1) := by decide +kernel
theorem dX6_review_129 : decode cX6_review 129 = .ok (.return_, 1) := by decide +kernel
theorem dX6_orderOutside_0 : decode cX6_orderOutside 0 = .ok (.aload_n 0, 1) := by decide +kernel
theorem dX6_orderOutside_1 : decode cX6_orderOutside 1 = .ok (.getfield 49, 3) := by decide +kernel
theorem dX6_orderOutside_4 : decode cX6_orderOutside 4 = .ok (.invokevirtual 212, 3) := by decide +kernel
theorem dX6_orderOutside_7 : decode cX6_orderOutside 7 = .ok (.ifCond .ne 14, 3) := by decide +kernel
theorem dX6_orderOutside_10 : decode cX6_orderOutside 10 = .ok (.aload_n 0, 1) := by decide +kernel
theorem dX6_orderOutside_11 : decode cX6_orderOutside 11 = .ok (.getfield 12, 3) := by decide +kernel
theorem dX6_orderOutside_14 : decode cX6_orderOutside 14 = .ok (.iload_n 1, 1) := by decide +kernel
theorem dX6_orderOutside_15 : decode cX6_orderOutside 15 = .ok (.invokevirtual 205, 3) := by decide +kernel
theorem dX6_orderOutside_18 : decode cX6_orderOutside 18 = .ok (.ifCond .ne 4, 3) := by decide +kernel
theorem dX6_orderOutside_21 : decode cX6_orderOutside 21 = .ok (.return_, 1) := by decide +kernel
theorem dX6_orderOutside_22 : decode cX6_orderOutside 22 = .ok (.aload_n 0, 1) := by decide +kernel
theorem dX6_orderOutside_23 : decode cX6_orderOutside 23 = .ok (.getfield 60, 3) := by decide +kernel
theorem dX6_orderOutside_26 : decode cX6_orderOutside 26 = .ok (.iload 4, 2) := by decide +kernel
theorem dX6_orderOutside_28 : decode cX6_orderOutside 28 = .ok (.iadd, 1) := by decide +kernel
theorem dX6_orderOutside_29 : decode cX6_orderOutside 29 = .ok (.istore 5, 2) := by decide +kernel
theorem dX6_orderOutside_31 : decode cX6_orderOutside 31 = .ok (.aload_n 0, 1) := by decide +kernel
theorem dX6_orderOutside_32 : decode cX6_orderOutside 32 = .ok (.getfield 49, 3) := by decide +kernel
theorem dX6_orderOutside_35 : decode cX6_orderOutside 35 = .ok (.iload_n 1, 1) := by decide +kernel
theorem dX6_orderOutside_36 : decode cX6_orderOutside 36 = .ok (.iload_n 2, 1) := by decide +kernel
theorem dX6_orderOutside_37 : decode cX6_orderOutside 37 = .ok (.iload_n 3, 1) := by decide +kernel
theorem dX6_orderOutside_38 : decode cX6_orderOutside 38 = .ok (.iload 5, 2) := by decide +kernel
theorem dX6_orderOutside_40 : decode cX6_orderOutside 40 = .ok (.iload 5, 2) := by decide +kernel
theorem dX6_orderOutside_42 : decode cX6_orderOutside 42 = .ok (.aload_n 0, 1) := by decide +kernel
theorem dX6_orderOutside_43 : decode cX6_orderOutside 43 = .ok (.getfield 12, 3) := by decide +kernel
theorem dX6_orderOutside_46 : decode cX6_orderOutside 46 = .ok (.getfield 239, 3) := by decide +kernel
theorem dX6_orderOutside_49 : decode cX6_orderOutside 49 = .ok (.iload_n 1, 1) := by decide +kernel
theorem dX6_orderOutside_50 : decode cX6_orderOutside 50 = .ok (.iaload, 1) := by decide +kernel
theorem dX6_orderOutside_51 : decode cX6_orderOutside 51 = .ok (.iadd, 1) := by decide +kernel
theorem dX6_orderOutside_52 : decode cX6_orderOutside 52 = .ok (.invokevirtual 219, 3) := by decide +kernel
theorem dX6_orderOutside_55 : decode cX6_orderOutside 55 = .ok (.aload_n 0, 1) := by decide +kernel
theorem dX6_orderOutside_56 : decode cX6_orderOutside 56 = .ok (.getfield 53, 3) := by decide +kernel
theorem dX6_orderOutside_59 : decode cX6_orderOutside 59 = .ok (.iconst 3, 1) := by decide +kernel
theorem dX6_orderOutside_60 : decode cX6_orderOutside 60 = .ok (.dup2, 1) := by decide +kernel
theorem dX6_orderOutside_61 : decode cX6_orderOutside 61 = .ok (.iaload, 1) := by decide +kernel
theorem dX6_orderOutside_62 : decode cX6_orderOutside 62 = .ok (.iload_n 3, 1) := by decide +kernel
theorem dX6_orderOutside_63 : decode cX6_orderOutside 63 = .ok (.aload_n 0, 1) := by decide +kernel
theorem dX6_orderOutside_64 : decode cX6_orderOutside 64 = .ok (.getfield 12, 3) := by decide +kernel
theorem dX6_orderOutside_67 : decode cX6_orderOutside 67 = .ok (.iload_n 1, 1) := by decide +kernel
theorem dX6_orderOutside_68 : decode cX6_orderOutside 68 = .ok (.invokevirtual 202, 3) := by decide +kernel
theorem dX6_orderOutside_71 : decode cX6_orderOutside 71 = .ok (.imul, 1) := by decide +kernel
theorem dX6_orderOutside_72 : decode cX6_orderOutside 72 = .ok (.iadd, 1) := by decide +kernel
theorem dX6_orderOutside_73 : decode cX6_orderOutside 73 = .ok (.iastore, 1) := by decide +kernel
theorem dX6_orderOutside_74 : decode cX6_orderOutside 74 = .ok (.return_, 1) := by decide +kernel
theorem dX6_wasteExpired_0 : decode cX6_wasteExpired 0 = .ok (.iconst 0, 1) := by decide +kernel
theorem dX6_wasteExpired_1 : decode cX6_wasteExpired 1 = .ok (.istore_n 1, 1) := by decide +kernel
theorem dX6_wasteExpired_2 : decode cX6_wasteExpired 2 = .ok (.iload_n 1, 1) := by decide +kernel
theorem dX6_wasteExpired_3 : decode cX6_wasteExpired 3 = .ok (.aload_n 0, 1) := by decide +kernel
theorem dX6_wasteExpired_4 : decode cX6_wasteExpired 4 = .ok (.getfield 35, 3) := by decide +kernel
theorem dX6_wasteExpired_7 : decode cX6_wasteExpired 7 = .ok (.getfield 148, 3) := by decide +kernel
theorem dX6_wasteExpired_10 : decode cX6_wasteExpired 10 = .ok (.if_icmp .ge 104, 3) := by decide +kernel
theorem dX6_wasteExpired_13 : decode cX6_wasteExpired 13 = .ok (.aload_n 0, 1) := by decide +kernel
theorem dX6_wasteExpired_14 : decode cX6_wasteExpired 14 = .ok (.getfield 35, 3) := by decide +kernel
theorem dX6_wasteExpired_17 : decode cX6_wasteExpired 17 = .ok (.getfield 216, 3) := by decide +kernel
theorem dX6_wasteExpired_20 : decode cX6_wasteExpired 20 = .ok (.iload_n 1, 1) := by decide +kernel
theorem dX6_wasteExpired_21 : decode cX6_wasteExpired 21 = .ok (.iaload, 1) := by decide +kernel
theorem dX6_wasteExpired_22 : decode cX6_wasteExpired 22 = .ok (.aload_n 0, 1) := by decide +kernel
theorem dX6_wasteExpired_23 : decode cX6_wasteExpired 23 = .ok (.getfield 60, 3) := by decide +kernel
theorem dX6_wasteExpired_26 : decode cX6_wasteExpired 26 = .ok (.if_icmp .ge 82, 3) := by decide +kernel
theorem dX6_wasteExpired_29 : decode cX6_wasteExpired 29 = .ok (.aload_n 0, 1) := by decide +kernel
theorem dX6_wasteExpired_30 : decode cX6_wasteExpired 30 = .ok (.getfield 35, 3) := by decide +kernel
theorem dX6_wasteExpired_33 : decode cX6_wasteExpired 33 = .ok (.getfield 195, 3) := by decide +kernel
theorem dX6_wasteExpired_36 : decode cX6_wasteExpired 36 = .ok (.iload_n 1, 1) := by decide +kernel
theorem dX6_wasteExpired_37 : decode cX6_wasteExpired 37 = .ok (.iaload, 1) := by decide +kernel
theorem dX6_wasteExpired_38 : decode cX6_wasteExpired 38 = .ok (.ifCond .le 70, 3) := by decide +kernel
theorem dX6_wasteExpired_41 : decode cX6_wasteExpired 41 = .ok (.iconst 0, 1) := by decide +kernel
theorem dX6_wasteExpired_42 : decode cX6_wasteExpired 42 = .ok (.istore_n 2, 1) := by decide +kernel
theorem dX6_wasteExpired_43 : decode cX6_wasteExpired 43 = .ok (.iload_n 2, 1) := by decide +kernel
theorem dX6_wasteExpired_44 : decode cX6_wasteExpired 44 = .ok (.aload_n 0, 1) := by decide +kernel
theorem dX6_wasteExpired_45 : decode cX6_wasteExpired 45 = .ok (.getfield 42, 3) := by decide +kernel
theorem dX6_wasteExpired_48 : decode cX6_wasteExpired 48 = .ok (.getfield 188, 3) := by decide +kernel
theorem dX6_wasteExpired_51 : decode cX6_wasteExpired 51 = .ok (.if_icmp .ge 25, 3) := by decide +kernel
theorem dX6_wasteExpired_54 : decode cX6_wasteExpired 54 = .ok (.aload_n 0, 1) := by decide +kernel
theorem dX6_wasteExpired_55 : decode cX6_wasteExpired 55 = .ok (.iload_n 2, 1) := by decide +kernel
theorem dX6_wasteExpired_56 : decode cX6_wasteExpired 56 = .ok (.iload_n 1, 1) := by decide +kernel
theorem dX6_wasteExpired_57 : decode cX6_wasteExpired 57 = .ok (.aload_n 0, 1) := by decide +kernel
theorem dX6_wasteExpired_58 : decode cX6_wasteExpired 58 = .ok (.getfield 42, 3) := by decide +kernel
theorem dX6_wasteExpired_61 : decode cX6_wasteExpired 61 = .ok (.iload_n 2, 1) := by decide +kernel
theorem dX6_wasteExpired_62 : decode cX6_wasteExpired 62 = .ok (.iload_n 1, 1) := by decide +kernel
theorem dX6_wasteExpired_63 : decode cX6_wasteExpired 63 = .ok (.invokevirtual 151, 3) := by decide +kernel
theorem dX6_wasteExpired_66 : decode cX6_wasteExpired 66 = .ok (.ineg, 1) := by decide +kernel
theorem dX6_wasteExpired_67 : decode cX6_wasteExpired 67 = .ok (.invokevirtual 154, 3) := by decide +kernel
theorem dX6_wasteExpired_70 : decode cX6_wasteExpired 70 = .ok (.iinc 2 1, 3) := by decide +kernel
theorem dX6_wasteExpired_73 : decode cX6_wasteExpired 73 = .ok (.goto (-30), 3) := by decide +kernel
theorem dX6_wasteExpired_76 : decode cX6_wasteExpired 76 = .ok (.aload_n 0, 1) := by decide +kernel
theorem dX6_wasteExpired_77 : decode cX6_wasteExpired 77 = .ok (.aload_n 0, 1) := by decide +kernel
theorem dX6_wasteExpired_78 : decode cX6_wasteExpired 78 = .ok (.getfield 35, 3) := by decide +kernel
theorem dX6_wasteExpired_81 : decode cX6_wasteExpired 81 = .ok (.getfield 260, 3) := by decide +kernel
theorem dX6_wasteExpired_84 : decode cX6_wasteExpired 84 = .ok (.iload_n 1, 1) := by decide +kernel
theorem dX6_wasteExpired_85 : decode cX6_wasteExpired 85 = .ok (.iaload, 1) := by decide +kernel
theorem dX6_wasteExpired_86 : decode cX6_wasteExpired 86 = .ok (.aload_n 0, 1) := by decide +kernel
theorem dX6_wasteExpired_87 : decode cX6_wasteExpired 87 = .ok (.getfield 35, 3) := by decide +kernel
theorem dX6_wasteExpired_90 : decode cX6_wasteExpired 90 = .ok (.getfield 195, 3) := by decide +kernel
theorem dX6_wasteExpired_93 : decode cX6_wasteExpired 93 = .ok (.iload_n 1, 1) := by decide +kernel
theorem dX6_wasteExpired_94 : decode cX6_wasteExpired 94 = .ok (.iaload, 1) := by decide +kernel
theorem dX6_wasteExpired_95 : decode cX6_wasteExpired 95 = .ok (.invokevirtual 261, 3) := by decide +kernel
theorem dX6_wasteExpired_98 : decode cX6_wasteExpired 98 = .ok (.aload_n 0, 1) := by decide +kernel
theorem dX6_wasteExpired_99 : decode cX6_wasteExpired 99 = .ok (.getfield 35, 3) := by decide +kernel
theorem dX6_wasteExpired_102 : decode cX6_wasteExpired 102 = .ok (.getfield 195, 3) := by decide +kernel
theorem dX6_wasteExpired_105 : decode cX6_wasteExpired 105 = .ok (.iload_n 1, 1) := by decide +kernel
theorem dX6_wasteExpired_106 : decode cX6_wasteExpired 106 = .ok (.iconst 0, 1) := by decide +kernel
theorem dX6_wasteExpired_107 : decode cX6_wasteExpired 107 = .ok (.iastore, 1) := by decide +kernel
theorem dX6_wasteExpired_108 : decode cX6_wasteExpired 108 = .ok (.iinc 1 1, 3) := by decide +kernel
theorem dX6_wasteExpired_111 : decode cX6_wasteExpired 111 = .ok (.goto (-109), 3) := by decide +kernel
theorem dX6_wasteExpired_114 : decode cX6_wasteExpired 114 = .ok (.return_, 1) := by decide +kernel
theorem dX6_takeArrivals_0 : decode cX6_takeArrivals 0 = .ok (.iconst 0, 1) := by decide +kernel
theorem dX6_takeArrivals_1 : decode cX6_takeArrivals 1 = .ok (.istore_n 1, 1) := by decide +kernel
theorem dX6_takeArrivals_2 : decode cX6_takeArrivals 2 = .ok (.iload_n 1, 1) := by decide +kernel
theorem dX6_takeArrivals_3 : decode cX6_takeArrivals 3 = .ok (.aload_n 0, 1) := by decide +kernel
theorem dX6_takeArrivals_4 : decode cX6_takeArrivals 4 = .ok (.getfield 49, 3) := by decide +kernel
theorem dX6_takeArrivals_7 : decode cX6_takeArrivals 7 = .ok (.getfield 265, 3) := by decide +kernel
theorem dX6_takeArrivals_10 : decode cX6_takeArrivals 10 = .ok (.if_icmp .ge 43, 3) := by decide +kernel
theorem dX6_takeArrivals_13 : decode cX6_takeArrivals 13 = .ok (.aload_n 0, 1) := by decide +kernel
theorem dX6_takeArrivals_14 : decode cX6_takeArrivals 14 = .ok (.getfield 49, 3) := by decide +kernel
theorem dX6_takeArrivals_17 : decode cX6_takeArrivals 17 = .ok (.getfield 266, 3) := by decide +kernel
theorem dX6_takeArrivals_20 : decode cX6_takeArrivals 20 = .ok (.iload_n 1, 1) := by decide +kernel
theorem dX6_takeArrivals_21 : decode cX6_takeArrivals 21 = .ok (.iaload, 1) := by decide +kernel
theorem dX6_takeArrivals_22 : decode cX6_takeArrivals 22 = .ok (.iconst 1, 1) := by decide +kernel
theorem dX6_takeArrivals_23 : decode cX6_takeArrivals 23 = .ok (.if_icmp .ne 24, 3) := by decide +kernel
theorem dX6_takeArrivals_26 : decode cX6_takeArrivals 26 = .ok (.aload_n 0, 1) := by decide +kernel
theorem dX6_takeArrivals_27 : decode cX6_takeArrivals 27 = .ok (.getfield 49, 3) := by decide +kernel
theorem dX6_takeArrivals_30 : decode cX6_takeArrivals 30 = .ok (.getfield 269, 3) := by decide +kernel
theorem dX6_takeArrivals_33 : decode cX6_takeArrivals 33 = .ok (.iload_n 1, 1) := by decide +kernel
theorem dX6_takeArrivals_34 : decode cX6_takeArrivals 34 = .ok (.iaload, 1) := by decide +kernel
theorem dX6_takeArrivals_35 : decode cX6_takeArrivals 35 = .ok (.aload_n 0, 1) := by decide +kernel
theorem dX6_takeArrivals_36 : decode cX6_takeArrivals 36 = .ok (.getfield 60, 3) := by decide +kernel
theorem dX6_takeArrivals_39 : decode cX6_takeArrivals 39 = .ok (.if_icmp .ne 8, 3) := by decide +kernel
theorem dX6_takeArrivals_42 : decode cX6_takeArrivals 42 = .ok (.aload_n 0, 1) := by decide +kernel
theorem dX6_takeArrivals_43 : decode cX6_takeArrivals 43 = .ok (.iload_n 1, 1) := by decide +kernel
theorem dX6_takeArrivals_44 : decode cX6_takeArrivals 44 = .ok (.invokevirtual 272, 3) := by decide +kernel
theorem dX6_takeArrivals_47 : decode cX6_takeArrivals 47 = .ok (.iinc 1 1, 3) := by decide +kernel
theorem dX6_takeArrivals_50 : decode cX6_takeArrivals 50 = .ok (.goto (-48), 3) := by decide +kernel
theorem dX6_takeArrivals_53 : decode cX6_takeArrivals 53 = .ok (.return_, 1) := by decide +kernel
theorem dX6_takeIn_0 : decode cX6_takeIn 0 = .ok (.aload_n 0, 1) := by decide +kernel
theorem dX6_takeIn_1 : decode cX6_takeIn 1 = .ok (.getfield 49, 3) := by decide +kernel
theorem dX6_takeIn_4 : decode cX6_takeIn 4 = .ok (.getfield 266, 3) := by decide +kernel
theorem dX6_takeIn_7 : decode cX6_takeIn 7 = .ok (.iload_n 1, 1) := by decide +kernel
theorem dX6_takeIn_8 : decode cX6_takeIn 8 = .ok (.iconst 0, 1) := by decide +kernel
theorem dX6_takeIn_9 : decode cX6_takeIn 9 = .ok (.iastore, 1) := by decide +kernel
theorem dX6_takeIn_10 : decode cX6_takeIn 10 = .ok (.aload_n 0, 1) := by decide +kernel
theorem dX6_takeIn_11 : decode cX6_takeIn 11 = .ok (.getfield 49, 3) := by decide +kernel
theorem dX6_takeIn_14 : decode cX6_takeIn 14 = .ok (.getfield 275, 3) := by decide +kernel
theorem dX6_takeIn_17 : decode cX6_takeIn 17 = .ok (.iload_n 1, 1) := by decide +kernel
theorem dX6_takeIn_18 : decode cX6_takeIn 18 = .ok (.iaload, 1) := by decide +kernel
theorem dX6_takeIn_19 : decode cX6_takeIn 19 = .ok (.istore_n 2, 1) := by decide +kernel
theorem dX6_takeIn_20 : decode cX6_takeIn 20 = .ok (.aload_n 0, 1) := by decide +kernel
theorem dX6_takeIn_21 : decode cX6_takeIn 21 = .ok (.getfield 49, 3) := by decide +kernel
theorem dX6_takeIn_24 : decode cX6_takeIn 24 = .ok (.getfield 276, 3) := by decide +kernel
theorem dX6_takeIn_27 : decode cX6_takeIn 27 = .ok (.iload_n 1, 1) := by decide +kernel
theorem dX6_takeIn_28 : decode cX6_takeIn 28 = .ok (.iaload, 1) := by decide +kernel
theorem dX6_takeIn_29 : decode cX6_takeIn 29 = .ok (.istore_n 3, 1) := by decide +kernel
theorem dX6_takeIn_30 : decode cX6_takeIn 30 = .ok (.aload_n 0, 1) := by decide +kernel
theorem dX6_takeIn_31 : decode cX6_takeIn 31 = .ok (.getfield 49, 3) := by decide +kernel
theorem dX6_takeIn_34 : decode cX6_takeIn 34 = .ok (.getfield 277, 3) := by decide +kernel
theorem dX6_takeIn_37 : decode cX6_takeIn 37 = .ok (.iload_n 1, 1) := by decide +kernel
theorem dX6_takeIn_38 : decode cX6_takeIn 38 = .ok (.iaload, 1) := by decide +kernel
theorem dX6_takeIn_39 : decode cX6_takeIn 39 = .ok (.istore 4, 2) := by decide +kernel
theorem dX6_takeIn_41 : decode cX6_takeIn 41 = .ok (.aload_n 0, 1) := by decide +kernel
theorem dX6_takeIn_42 : decode cX6_takeIn 42 = .ok (.getfield 49, 3) := by decide +kernel
theorem dX6_takeIn_45 : decode cX6_takeIn 45 = .ok (.getfield 278, 3) := by decide +kernel
theorem dX6_takeIn_48 : decode cX6_takeIn 48 = .ok (.iload_n 1, 1) := by decide +kernel
theorem dX6_takeIn_49 : decode cX6_takeIn 49 = .ok (.iaload, 1) := by decide +kernel
theorem dX6_takeIn_50 : decode cX6_takeIn 50 = .ok (.aload_n 0, 1) := by decide +kernel
theorem dX6_takeIn_51 : decode cX6_takeIn 51 = .ok (.iload_n 3, 1) := by decide +kernel
theorem dX6_takeIn_52 : decode cX6_takeIn 52 = .ok (.invokevirtual 279, 3) := by decide +kernel
theorem dX6_takeIn_55 : decode cX6_takeIn 55 = .ok (.invokestatic 134, 3) := by decide +kernel
theorem dX6_takeIn_58 : decode cX6_takeIn 58 = .ok (.istore 5, 2) := by decide +kernel
theorem dX6_takeIn_60 : decode cX6_takeIn 60 = .ok (.iload 4, 2) := by decide +kernel
theorem dX6_takeIn_62 : decode cX6_takeIn 62 = .ok (.aload_n 0, 1) := by decide +kernel
theorem dX6_takeIn_63 : decode cX6_takeIn 63 = .ok (.getfield 60, 3) := by decide +kernel
theorem dX6_takeIn_66 : decode cX6_takeIn 66 = .ok (.if_icmp .lt 16, 3) := by decide +kernel
theorem dX6_takeIn_69 : decode cX6_takeIn 69 = .ok (.aload_n 0, 1) := by decide +kernel
theorem dX6_takeIn_70 : decode cX6_takeIn 70 = .ok (.getfield 35, 3) := by decide +kernel
theorem dX6_takeIn_73 : decode cX6_takeIn 73 = .ok (.getfield 148, 3) := by decide +kernel
theorem dX6_takeIn_76 : decode cX6_takeIn 76 = .ok (.sipush 200, 3) := by decide +kernel
theorem dX6_takeIn_79 : decode cX6_takeIn 79 = .ok (.if_icmp .lt 6, 3) := by decide +kernel
theorem dX6_takeIn_82 : decode cX6_takeIn 82 = .ok (.iconst 0, 1) := by decide +kernel
theorem dX6_takeIn_83 : decode cX6_takeIn 83 = .ok (.istore 5, 2) := by decide +kernel
theorem dX6_takeIn_85 : decode cX6_takeIn 85 = .ok (.iload 5, 2) := by decide +kernel
theorem dX6_takeIn_87 : decode cX6_takeIn 87 = .ok (.ifCond .le 17, 3) := by decide +kernel
theorem dX6_takeIn_90 : decode cX6_takeIn 90 = .ok (.aload_n 0, 1) := by decide +kernel
theorem dX6_takeIn_91 : decode cX6_takeIn 91 = .ok (.getfield 35, 3) := by decide +kernel
theorem dX6_takeIn_94 : decode cX6_takeIn 94 = .ok (.iload_n 2, 1) := by decide +kernel
theorem dX6_takeIn_95 : decode cX6_takeIn 95 = .ok (.iload_n 3, 1) := by decide +kernel
theorem dX6_takeIn_96 : decode cX6_takeIn 96 = .ok (.iload 5, 2) := by decide +kernel
theorem dX6_takeIn_98 : decode cX6_takeIn 98 = .ok (.iload 4, 2) := by decide +kernel
theorem dX6_takeIn_100 : decode cX6_takeIn 100 = .ok (.invokevirtual 282, 3) := by decide +kernel
theorem dX6_takeIn_103 : decode cX6_takeIn 103 = .ok (.pop, 1) := by decide +kernel
theorem dX6_takeIn_104 : decode cX6_takeIn 104 = .ok (.aload_n 0, 1) := by decide +kernel
theorem dX6_takeIn_105 : decode cX6_takeIn 105 = .ok (.iload_n 2, 1) := by decide +kernel
theorem dX6_takeIn_106 : decode cX6_takeIn 106 = .ok (.aload_n 0, 1) := by decide +kernel
theorem dX6_takeIn_107 : decode cX6_takeIn 107 = .ok (.getfield 49, 3) := by decide +kernel
theorem dX6_takeIn_110 : decode cX6_takeIn 110 = .ok (.getfield 278, 3) := by decide +kernel
theorem dX6_takeIn_113 : decode cX6_takeIn 113 = .ok (.iload_n 1, 1) := by decide +kernel
theorem dX6_takeIn_114 : decode cX6_takeIn 114 = .ok (.iaload, 1) := by decide +kernel
theorem dX6_takeIn_115 : decode cX6_takeIn 115 = .ok (.iload 5, 2) := by decide +kernel
theorem dX6_takeIn_117 : decode cX6_takeIn 117 = .ok (.isub, 1) := by decide +kernel
theorem dX6_takeIn_118 : decode cX6_takeIn 118 = .ok (.invokevirtual 261, 3) := by decide +kernel
theorem dX6_takeIn_121 : decode cX6_takeIn 121 = .ok (.return_, 1) := by decide +kernel
theorem dX6_serveDueOrders_0 : decode cX6_serveDueOrders 0 = .ok (.iconst 0, 1) := by decide +kernel
theorem dX6_serveDueOrders_1 : decode cX6_serveDueOrders 1 = .ok (.istore_n 1, 1) := by decide +kernel
theorem dX6_serveDueOrders_2 : decode cX6_serveDueOrders 2 = .ok (.iload_n 1, 1) := by decide +kernel
theorem dX6_serveDueOrders_3 : decode cX6_serveDueOrders 3 = .ok (.aload_n 0, 1) := by decide +kernel
theorem dX6_serveDueOrders_4 : decode cX6_serveDueOrders 4 = .ok (.getfield 42, 3) := by decide +kernel
theorem dX6_serveDueOrders_7 : decode cX6_serveDueOrders 7 = .ok (.getfield 188, 3) := by decide +kernel
theorem dX6_serveDueOrders_10 : decode cX6_serveDueOrders 10 = .ok (.if_icmp .ge 73, 3) := by decide +kernel
theorem dX6_serveDueOrders_13 : decode cX6_serveDueOrders 13 = .ok (.aload_n 0, 1) := by decide +kernel
theorem dX6_serveDueOrders_14 : decode cX6_serveDueOrders 14 = .ok (.getfield 42, 3) := by decide +kernel
theorem dX6_serveDueOrders_17 : decode cX6_serveDueOrders 17 = .ok (.getfield 189, 3) := by decide +kernel
theorem dX6_serveDueOrders_20 : decode cX6_serveDueOrders 20 = .ok (.iload_n 1, 1) := by decide +kernel
theorem dX6_serveDueOrders_21 : decode cX6_serveDueOrders 21 = .ok (.iaload, 1) := by decide +kernel
theorem dX6_serveDueOrders_22 : decode cX6_serveDueOrders 22 = .ok (.ifCond .ne 55, 3) := by decide +kernel
theorem dX6_serveDueOrders_25 : decode cX6_serveDueOrders 25 = .ok (.aload_n 0, 1) := by decide +kernel
theorem dX6_serveDueOrders_26 : decode cX6_serveDueOrders 26 = .ok (.getfield 42, 3) := by decide +kernel
theorem dX6_serveDueOrders_29 : decode cX6_serveDueOrders 29 = .ok (.getfield 158, 3) := by decide +kernel
theorem dX6_serveDueOrders_32 : decode cX6_serveDueOrders 32 = .ok (.iload_n 1, 1) := by decide +kernel
theorem dX6_serveDueOrders_33 : decode cX6_serveDueOrders 33 = .ok (.iaload, 1) := by decide +kernel
theorem dX6_serveDueOrders_34 : decode cX6_serveDueOrders 34 = .ok (.aload_n 0, 1) := by decide +kernel
theorem dX6_serveDueOrders_35 : decode cX6_serveDueOrders 35 = .ok (.getfield 60, 3) := by decide +kernel
theorem dX6_serveDueOrders_38 : decode cX6_serveDueOrders 38 = .ok (.if_icmp .gt 39, 3) := by decide +kernel
theorem dX6_serveDueOrders_41 : decode cX6_serveDueOrders 41 = .ok (.aload_n 0, 1) := by decide +kernel
theorem dX6_serveDueOrders_42 : decode cX6_serveDueOrders 42 = .ok (.getfield 42, 3) := by decide +kernel
theorem dX6_serveDueOrders_45 : decode cX6_serveDueOrders 45 = .ok (.iload_n 1, 1) := by decide +kernel
theorem dX6_serveDueOrders_46 : decode cX6_serveDueOrders 46 = .ok (.invokevirtual 164, 3) := by decide +kernel
theorem dX6_serveDueOrders_49 : decode cX6_serveDueOrders 49 = .ok (.ifCond .ne 11, 3) := by decide +kernel
theorem dX6_serveDueOrders_52 : decode cX6_serveDueOrders 52 = .ok (.aload_n 0, 1) := by decide +kernel
theorem dX6_serveDueOrders_53 : decode cX6_serveDueOrders 53 = .ok (.iload_n 1, 1) := by decide +kernel
theorem dX6_serveDueOrders_54 : decode cX6_serveDueOrders 54 = .ok (.invokevirtual 284, 3) := by decide +kernel
theorem dX6_serveDueOrders_57 : decode cX6_serveDueOrders 57 = .ok (.goto 20, 3) := by decide +kernel
theorem dX6_serveDueOrders_60 : decode cX6_serveDueOrders 60 = .ok (.aload_n 0, 1) := by decide +kernel
theorem dX6_serveDueOrders_61 : decode cX6_serveDueOrders 61 = .ok (.getfield 53, 3) := by decide +kernel
theorem dX6_serveDueOrders_64 : decode cX6_serveDueOrders 64 = .ok (.iconst 2, 1) := by decide +kernel
theorem dX6_serveDueOrders_65 : decode cX6_serveDueOrders 65 = .ok (.dup2, 1) := by decide +kernel
theorem dX6_serveDueOrders_66 : decode cX6_serveDueOrders 66 = .ok (.iaload, 1) := by decide +kernel
theorem dX6_serveDueOrders_67 : decode cX6_serveDueOrders 67 = .ok (.aload_n 0, 1) := by decide +kernel
theorem dX6_serveDueOrders_68 : decode cX6_serveDueOrders 68 = .ok (.getfield 42, 3) := by decide +kernel
theorem dX6_serveDueOrders_71 : decode cX6_serveDueOrders 71 = .ok (.iload_n 1, 1) := by decide +kernel
theorem dX6_serveDueOrders_72 : decode cX6_serveDueOrders 72 = .ok (.invokevirtual 164, 3) := by decide +kernel
theorem dX6_serveDueOrders_75 : decode cX6_serveDueOrders 75 = .ok (.iadd, 1) := by decide +kernel
theorem dX6_serveDueOrders_76 : decode cX6_serveDueOrders 76 = .ok (.iastore, 1) := by decide +kernel
theorem dX6_serveDueOrders_77 : decode cX6_serveDueOrders 77 = .ok (.iinc 1 1, 3) := by decide +kernel
theorem dX6_serveDueOrders_80 : decode cX6_serveDueOrders 80 = .ok (.goto (-78), 3) := by decide +kernel
theorem dX6_serveDueOrders_83 : decode cX6_serveDueOrders 83 = .ok (.return_, 1) := by decide +kernel
theorem dX6_reviewAll_0 : decode cX6_reviewAll 0 = .ok (.iconst 0, 1) := by decide +kernel
theorem dX6_reviewAll_1 : decode cX6_reviewAll 1 = .ok (.istore_n 1, 1) := by decide +kernel
theorem dX6_reviewAll_2 : decode cX6_reviewAll 2 = .ok (.iload_n 1, 1) := by decide +kernel
theorem dX6_reviewAll_3 : decode cX6_reviewAll 3 = .ok (.aload_n 0, 1) := by decide +kernel
theorem dX6_reviewAll_4 : decode cX6_reviewAll 4 = .ok (.getfield 12, 3) := by decide +kernel
theorem dX6_reviewAll_7 : decode cX6_reviewAll 7 = .ok (.getfield 287, 3) := by decide +kernel
theorem dX6_reviewAll_10 : decode cX6_reviewAll 10 = .ok (.if_icmp .ge 34, 3) := by decide +kernel
theorem dX6_reviewAll_13 : decode cX6_reviewAll 13 = .ok (.iconst 0, 1) := by decide +kernel
theorem dX6_reviewAll_14 : decode cX6_reviewAll 14 = .ok (.istore_n 2, 1) := by decide +kernel
theorem dX6_reviewAll_15 : decode cX6_reviewAll 15 = .ok (.iload_n 2, 1) := by decide +kernel
theorem dX6_reviewAll_16 : decode cX6_reviewAll 16 = .ok (.aload_n 0, 1) := by decide +kernel
theorem dX6_reviewAll_17 : decode cX6_reviewAll 17 = .ok (.getfield 21, 3) := by decide +kernel
theorem dX6_reviewAll_20 : decode cX6_reviewAll 20 = .ok (.getfield 288, 3) := by decide +kernel
theorem dX6_reviewAll_23 : decode cX6_reviewAll 23 = .ok (.if_icmp .ge 15, 3) := by decide +kernel
theorem dX6_reviewAll_26 : decode cX6_reviewAll 26 = .ok (.aload_n 0, 1) := by decide +kernel
theorem dX6_reviewAll_27 : decode cX6_reviewAll 27 = .ok (.iload_n 1, 1) := by decide +kernel
theorem dX6_reviewAll_28 : decode cX6_reviewAll 28 = .ok (.iload_n 2, 1) := by decide +kernel
theorem dX6_reviewAll_29 : decode cX6_reviewAll 29 = .ok (.invokevirtual 289, 3) := by decide +kernel
theorem dX6_reviewAll_32 : decode cX6_reviewAll 32 = .ok (.iinc 2 1, 3) := by decide +kernel
theorem dX6_reviewAll_35 : decode cX6_reviewAll 35 = .ok (.goto (-20), 3) := by decide +kernel
theorem dX6_reviewAll_38 : decode cX6_reviewAll 38 = .ok (.iinc 1 1, 3) := by decide +kernel
theorem dX6_reviewAll_41 : decode cX6_reviewAll 41 = .ok (.goto (-39), 3) := by decide +kernel
theorem dX6_reviewAll_44 : decode cX6_reviewAll 44 = .ok (.return_, 1) := by decide +kernel
theorem dX6_countHolding_0 : decode cX6_countHolding 0 = .ok (.iconst 0, 1) := by decide +kernel
theorem dX6_countHolding_1 : decode cX6_countHolding 1 = .ok (.istore_n 1, 1) := by decide +kernel
theorem dX6_countHolding_2 : decode cX6_countHolding 2 = .ok (.iload_n 1, 1) := by decide +kernel
theorem dX6_countHolding_3 : decode cX6_countHolding 3 = .ok (.aload_n 0, 1) := by decide +kernel
theorem dX6_countHolding_4 : decode cX6_countHolding 4 = .ok (.getfield 35, 3) := by decide +kernel
theorem dX6_countHolding_7 : decode cX6_countHolding 7 = .ok (.getfield 148, 3) := by decide +kernel
theorem dX6_countHolding_10 : decode cX6_countHolding 10 = .ok (.if_icmp .ge 44, 3) := by decide +kernel
theorem dX6_countHolding_13 : decode cX6_countHolding 13 = .ok (.aload_n 0, 1) := by decide +kernel
theorem dX6_countHolding_14 : decode cX6_countHolding 14 = .ok (.getfield 53, 3) := by decide +kernel
theorem dX6_countHolding_17 : decode cX6_countHolding 17 = .ok (.iconst 0, 1) := by decide +kernel
theorem dX6_countHolding_18 : decode cX6_countHolding 18 = .ok (.dup2, 1) := by decide +kernel
theorem dX6_countHolding_19 : decode cX6_countHolding 19 = .ok (.iaload, 1) := by decide +kernel
theorem dX6_countHolding_20 : decode cX6_countHolding 20 = .ok (.aload_n 0, 1) := by decide +kernel
theorem dX6_countHolding_21 : decode cX6_countHolding 21 = .ok (.getfield 35, 3) := by decide +kernel
theorem dX6_countHolding_24 : decode cX6_countHolding 24 = .ok (.getfield 195, 3) := by decide +kernel
theorem dX6_countHolding_27 : decode cX6_countHolding 27 = .ok (.iload_n 1, 1) := by decide +kernel
theorem dX6_countHolding_28 : decode cX6_countHolding 28 = .ok (.iaload, 1) := by decide +kernel
theorem dX6_countHolding_29 : decode cX6_countHolding 29 = .ok (.aload_n 0, 1) := by decide +kernel
theorem dX6_countHolding_30 : decode cX6_countHolding 30 = .ok (.getfield 12, 3) := by decide +kernel
theorem dX6_countHolding_33 : decode cX6_countHolding 33 = .ok (.aload_n 0, 1) := by decide +kernel
theorem dX6_countHolding_34 : decode cX6_countHolding 34 = .ok (.getfield 35, 3) := by decide +kernel
theorem dX6_countHolding_37 : decode cX6_countHolding 37 = .ok (.getfield 260, 3) := by decide +kernel
theorem dX6_countHolding_40 : decode cX6_countHolding 40 = .ok (.iload_n 1, 1) := by decide +kernel
theorem dX6_countHolding_41 : decode cX6_countHolding 41 = .ok (.iaload, 1) := by decide +kernel
theorem dX6_countHolding_42 : decode cX6_countHolding 42 = .ok (.invokevirtual 202, 3) := by decide +kernel
theorem dX6_countHolding_45 : decode cX6_countHolding 45 = .ok (.imul, 1) := by decide +kernel
theorem dX6_countHolding_46 : decode cX6_countHolding 46 = .ok (.iadd, 1) := by decide +kernel
theorem dX6_countHolding_47 : decode cX6_countHolding 47 = .ok (.iastore, 1) := by decide +kernel
theorem dX6_countHolding_48 : decode cX6_countHolding 48 = .ok (.iinc 1 1, 3) := by decide +kernel
theorem dX6_countHolding_51 : decode cX6_countHolding 51 = .ok (.goto (-49), 3) := by decide +kernel
theorem dX6_countHolding_54 : decode cX6_countHolding 54 = .ok (.return_, 1) := by decide +kernel
