theorem dX3_make_0 : decode cX3_make 0 = .ok (.aload_n 0, 1) := by decide +kernel
theorem dX3_make_1 : decode cX3_make 1 = .ok (.aload_n 1, 1) := by decide +kernel
theorem dX3_make_2 : decode cX3_make 2 = .ok (.getfield 31, 3) := by decide +kernel
theorem dX3_make_5 : decode cX3_make 5 = .ok (.getfield 37, 3) := by decide +kernel
theorem dX3_make_8 : decode cX3_make 8 = .ok (.putfield 43, 3) := by decide +kernel
theorem dX3_make_11 : decode cX3_make 11 = .ok (.iconst 0, 1) := by decide +kernel
theorem dX3_make_12 : decode cX3_make 12 = .ok (.istore_n 3, 1) := by decide +kernel
theorem dX3_make_13 : decode cX3_make 13 = .ok (.iload_n 3, 1) := by decide +kernel
theorem dX3_make_14 : decode cX3_make 14 = .ok (.aload_n 0, 1) := by decide +kernel
theorem dX3_make_15 : decode cX3_make 15 = .ok (.getfield 43, 3) := by decide +kernel
theorem dX3_make_18 : decode cX3_make 18 = .ok (.if_icmp .ge 33, 3) := by decide +kernel
theorem dX3_make_21 : decode cX3_make 21 = .ok (.aload_n 0, 1) := by decide +kernel
theorem dX3_make_22 : decode cX3_make 22 = .ok (.getfield 9, 3) := by decide +kernel
theorem dX3_make_25 : decode cX3_make 25 = .ok (.iload_n 3, 1) := by decide +kernel
theorem dX3_make_26 : decode cX3_make 26 = .ok (.aload_n 1, 1) := by decide +kernel
theorem dX3_make_27 : decode cX3_make 27 = .ok (.iload_n 2, 1) := by decide +kernel
theorem dX3_make_28 : decode cX3_make 28 = .ok (.iload_n 3, 1) := by decide +kernel
theorem dX3_make_29 : decode cX3_make 29 = .ok (.invokevirtual 45, 3) := by decide +kernel
theorem dX3_make_32 : decode cX3_make 32 = .ok (.iastore, 1) := by decide +kernel
theorem dX3_make_33 : decode cX3_make 33 = .ok (.aload_n 0, 1) := by decide +kernel
theorem dX3_make_34 : decode cX3_make 34 = .ok (.getfield 15, 3) := by decide +kernel
theorem dX3_make_37 : decode cX3_make 37 = .ok (.iload_n 3, 1) := by decide +kernel
theorem dX3_make_38 : decode cX3_make 38 = .ok (.aload_n 1, 1) := by decide +kernel
theorem dX3_make_39 : decode cX3_make 39 = .ok (.iload_n 2, 1) := by decide +kernel
theorem dX3_make_40 : decode cX3_make 40 = .ok (.iload_n 3, 1) := by decide +kernel
theorem dX3_make_41 : decode cX3_make 41 = .ok (.invokevirtual 49, 3) := by decide +kernel
theorem dX3_make_44 : decode cX3_make 44 = .ok (.iastore, 1) := by decide +kernel
theorem dX3_make_45 : decode cX3_make 45 = .ok (.iinc 3 1, 3) := by decide +kernel
theorem dX3_make_48 : decode cX3_make 48 = .ok (.goto (-35), 3) := by decide +kernel
theorem dX3_make_51 : decode cX3_make 51 = .ok (.iconst 0, 1) := by decide +kernel
theorem dX3_make_52 : decode cX3_make 52 = .ok (.istore_n 3, 1) := by decide +kernel
theorem dX3_make_53 : decode cX3_make 53 = .ok (.iload_n 3, 1) := by decide +kernel
theorem dX3_make_54 : decode cX3_make 54 = .ok (.aload_n 0, 1) := by decide +kernel
theorem dX3_make_55 : decode cX3_make 55 = .ok (.getfield 43, 3) := by decide +kernel
theorem dX3_make_58 : decode cX3_make 58 = .ok (.if_icmp .ge 88, 3) := by decide +kernel
theorem dX3_make_61 : decode cX3_make 61 = .ok (.iconst 0, 1) := by decide +kernel
theorem dX3_make_62 : decode cX3_make 62 = .ok (.istore 4, 2) := by decide +kernel
theorem dX3_make_64 : decode cX3_make 64 = .ok (.iload 4, 2) := by decide +kernel
theorem dX3_make_66 : decode cX3_make 66 = .ok (.aload_n 0, 1) := by decide +kernel
theorem dX3_make_67 : decode cX3_make 67 = .ok (.getfield 43, 3) := by decide +kernel
theorem dX3_make_70 : decode cX3_make 70 = .ok (.if_icmp .ge 70, 3) := by decide +kernel
theorem dX3_make_73 : decode cX3_make 73 = .ok (.iload_n 3, 1) := by decide +kernel
theorem dX3_make_74 : decode cX3_make 74 = .ok (.iload 4, 2) := by decide +kernel
theorem dX3_make_76 : decode cX3_make 76 = .ok (.invokestatic 52, 3) := by decide +kernel
theorem dX3_make_79 : decode cX3_make 79 = .ok (.istore 5, 2) := by decide +kernel
theorem dX3_make_81 : decode cX3_make 81 = .ok (.aload_n 0, 1) := by decide +kernel
theorem dX3_make_82 : decode cX3_make 82 = .ok (.getfield 28, 3) := by decide +kernel
theorem dX3_make_85 : decode cX3_make 85 = .ok (.iload 5, 2) := by decide +kernel
theorem dX3_make_87 : decode cX3_make 87 = .ok (.iconst 0, 1) := by decide +kernel
theorem dX3_make_88 : decode cX3_make 88 = .ok (.iastore, 1) := by decide +kernel
theorem dX3_make_89 : decode cX3_make 89 = .ok (.aload_n 0, 1) := by decide +kernel
theorem dX3_make_90 : decode cX3_make 90 = .ok (.getfield 18, 3) := by decide +kernel
theorem dX3_make_93 : decode cX3_make 93 = .ok (.iload 5, 2) := by decide +kernel
theorem dX3_make_95 : decode cX3_make 95 = .ok (.aload_n 0, 1) := by decide +kernel
theorem dX3_make_96 : decode cX3_make 96 = .ok (.getfield 9, 3) := by decide +kernel
theorem dX3_make_99 : decode cX3_make 99 = .ok (.iload_n 3, 1) := by decide +kernel
theorem dX3_make_100 : decode cX3_make 100 = .ok (.iaload, 1) := by decide +kernel
theorem dX3_make_101 : decode cX3_make 101 = .ok (.ifCond .le 31, 3) := by decide +kernel
theorem dX3_make_104 : decode cX3_make 104 = .ok (.aload_n 0, 1) := by decide +kernel
theorem dX3_make_105 : decode cX3_make 105 = .ok (.getfield 15, 3) := by decide +kernel
theorem dX3_make_108 : decode cX3_make 108 = .ok (.iload 4, 2) := by decide +kernel
theorem dX3_make_110 : decode cX3_make 110 = .ok (.iaload, 1) := by decide +kernel
theorem dX3_make_111 : decode cX3_make 111 = .ok (.ifCond .le 21, 3) := by decide +kernel
theorem dX3_make_114 : decode cX3_make 114 = .ok (.iload 5, 2) := by decide +kernel
theorem dX3_make_116 : decode cX3_make 116 = .ok (.aload_n 1, 1) := by decide +kernel
theorem dX3_make_117 : decode cX3_make 117 = .ok (.getfield 31, 3) := by decide +kernel
theorem dX3_make_120 : decode cX3_make 120 = .ok (.getfield 55, 3) := by decide +kernel
theorem dX3_make_123 : decode cX3_make 123 = .ok (.iload 5, 2) := by decide +kernel
theorem dX3_make_125 : decode cX3_make 125 = .ok (.iaload, 1) := by decide +kernel
theorem dX3_make_126 : decode cX3_make 126 = .ok (.invokestatic 58, 3) := by decide +kernel
theorem dX3_make_129 : decode cX3_make 129 = .ok (.goto 4, 3) := by decide +kernel
theorem dX3_make_132 : decode cX3_make 132 = .ok (.lconst 0, 1) := by decide +kernel
theorem dX3_make_133 : decode cX3_make 133 = .ok (.lastore, 1) := by decide +kernel
theorem dX3_make_134 : decode cX3_make 134 = .ok (.iinc 4 1, 3) := by decide +kernel
theorem dX3_make_137 : decode cX3_make 137 = .ok (.goto (-73), 3) := by decide +kernel
theorem dX3_make_140 : decode cX3_make 140 = .ok (.iinc 3 1, 3) := by decide +kernel
theorem dX3_make_143 : decode cX3_make 143 = .ok (.goto (-90), 3) := by decide +kernel
theorem dX3_make_146 : decode cX3_make 146 = .ok (.iconst 0, 1) := by decide +kernel
theorem dX3_make_147 : decode cX3_make 147 = .ok (.istore_n 3, 1) := by decide +kernel
theorem dX3_make_148 : decode cX3_make 148 = .ok (.iload_n 3, 1) := by decide +kernel
theorem dX3_make_149 : decode cX3_make 149 = .ok (.ldc 62, 2) := by decide +kernel
theorem dX3_make_151 : decode cX3_make 151 = .ok (.if_icmp .ge 32, 3) := by decide +kernel
theorem dX3_make_154 : decode cX3_make 154 = .ok (.aload_n 0, 1) := by decide +kernel
theorem dX3_make_155 : decode cX3_make 155 = .ok (.invokevirtual 63, 3) := by decide +kernel
theorem dX3_make_158 : decode cX3_make 158 = .ok (.aload_n 0, 1) := by decide +kernel
theorem dX3_make_159 : decode cX3_make 159 = .ok (.invokevirtual 66, 3) := by decide +kernel
theorem dX3_make_162 : decode cX3_make 162 = .ok (.istore 4, 2) := by decide +kernel
theorem dX3_make_164 : decode cX3_make 164 = .ok (.iload 4, 2) := by decide +kernel
theorem dX3_make_166 : decode cX3_make 166 = .ok (.iconst (-1), 1) := by decide +kernel
theorem dX3_make_167 : decode cX3_make 167 = .ok (.if_icmp .ne 4, 3) := by decide +kernel
theorem dX3_make_170 : decode cX3_make 170 = .ok (.return_, 1) := by decide +kernel
theorem dX3_make_171 : decode cX3_make 171 = .ok (.aload_n 0, 1) := by decide +kernel
theorem dX3_make_172 : decode cX3_make 172 = .ok (.iload 4, 2) := by decide +kernel
theorem dX3_make_174 : decode cX3_make 174 = .ok (.invokevirtual 70, 3) := by decide +kernel
theorem dX3_make_177 : decode cX3_make 177 = .ok (.iinc 3 1, 3) := by decide +kernel
theorem dX3_make_180 : decode cX3_make 180 = .ok (.goto (-32), 3) := by decide +kernel
theorem dX3_make_183 : decode cX3_make 183 = .ok (.return_, 1) := by decide +kernel
