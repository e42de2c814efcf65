theorem dX9_make_0 : decode cX9_make 0 = .ok (.aload_n 0, 1) := by decide +kernel
theorem dX9_make_1 : decode cX9_make 1 = .ok (.iconst 1, 1) := by decide +kernel
theorem dX9_make_2 : decode cX9_make 2 = .ok (.aload_n 0, 1) := by decide +kernel
theorem dX9_make_3 : decode cX9_make 3 = .ok (.iconst 3, 1) := by decide +kernel
theorem dX9_make_4 : decode cX9_make 4 = .ok (.invokevirtual 67, 3) := by decide +kernel
theorem dX9_make_7 : decode cX9_make 7 = .ok (.iadd, 1) := by decide +kernel
theorem dX9_make_8 : decode cX9_make 8 = .ok (.putfield 71, 3) := by decide +kernel
theorem dX9_make_11 : decode cX9_make 11 = .ok (.aload_n 0, 1) := by decide +kernel
theorem dX9_make_12 : decode cX9_make 12 = .ok (.iconst 2, 1) := by decide +kernel
theorem dX9_make_13 : decode cX9_make 13 = .ok (.aload_n 0, 1) := by decide +kernel
theorem dX9_make_14 : decode cX9_make 14 = .ok (.iconst 3, 1) := by decide +kernel
theorem dX9_make_15 : decode cX9_make 15 = .ok (.invokevirtual 67, 3) := by decide +kernel
theorem dX9_make_18 : decode cX9_make 18 = .ok (.iadd, 1) := by decide +kernel
theorem dX9_make_19 : decode cX9_make 19 = .ok (.putfield 74, 3) := by decide +kernel
theorem dX9_make_22 : decode cX9_make 22 = .ok (.iconst 0, 1) := by decide +kernel
theorem dX9_make_23 : decode cX9_make 23 = .ok (.istore_n 1, 1) := by decide +kernel
theorem dX9_make_24 : decode cX9_make 24 = .ok (.iload_n 1, 1) := by decide +kernel
theorem dX9_make_25 : decode cX9_make 25 = .ok (.aload_n 0, 1) := by decide +kernel
theorem dX9_make_26 : decode cX9_make 26 = .ok (.getfield 71, 3) := by decide +kernel
theorem dX9_make_29 : decode cX9_make 29 = .ok (.if_icmp .ge 81, 3) := by decide +kernel
theorem dX9_make_32 : decode cX9_make 32 = .ok (.aload_n 0, 1) := by decide +kernel
theorem dX9_make_33 : decode cX9_make 33 = .ok (.getfield 16, 3) := by decide +kernel
theorem dX9_make_36 : decode cX9_make 36 = .ok (.iload_n 1, 1) := by decide +kernel
theorem dX9_make_37 : decode cX9_make 37 = .ok (.iconst 1, 1) := by decide +kernel
theorem dX9_make_38 : decode cX9_make 38 = .ok (.aload_n 0, 1) := by decide +kernel
theorem dX9_make_39 : decode cX9_make 39 = .ok (.bipush 20, 2) := by decide +kernel
theorem dX9_make_41 : decode cX9_make 41 = .ok (.invokevirtual 67, 3) := by decide +kernel
theorem dX9_make_44 : decode cX9_make 44 = .ok (.iadd, 1) := by decide +kernel
theorem dX9_make_45 : decode cX9_make 45 = .ok (.iastore, 1) := by decide +kernel
theorem dX9_make_46 : decode cX9_make 46 = .ok (.aload_n 0, 1) := by decide +kernel
theorem dX9_make_47 : decode cX9_make 47 = .ok (.getfield 20, 3) := by decide +kernel
theorem dX9_make_50 : decode cX9_make 50 = .ok (.iload_n 1, 1) := by decide +kernel
theorem dX9_make_51 : decode cX9_make 51 = .ok (.iconst 3, 1) := by decide +kernel
theorem dX9_make_52 : decode cX9_make 52 = .ok (.aload_n 0, 1) := by decide +kernel
theorem dX9_make_53 : decode cX9_make 53 = .ok (.bipush 20, 2) := by decide +kernel
theorem dX9_make_55 : decode cX9_make 55 = .ok (.invokevirtual 67, 3) := by decide +kernel
theorem dX9_make_58 : decode cX9_make 58 = .ok (.iadd, 1) := by decide +kernel
theorem dX9_make_59 : decode cX9_make 59 = .ok (.iastore, 1) := by decide +kernel
theorem dX9_make_60 : decode cX9_make 60 = .ok (.aload_n 0, 1) := by decide +kernel
theorem dX9_make_61 : decode cX9_make 61 = .ok (.getfield 23, 3) := by decide +kernel
theorem dX9_make_64 : decode cX9_make 64 = .ok (.iload_n 1, 1) := by decide +kernel
theorem dX9_make_65 : decode cX9_make 65 = .ok (.iconst 1, 1) := by decide +kernel
theorem dX9_make_66 : decode cX9_make 66 = .ok (.aload_n 0, 1) := by decide +kernel
theorem dX9_make_67 : decode cX9_make 67 = .ok (.iconst 5, 1) := by decide +kernel
theorem dX9_make_68 : decode cX9_make 68 = .ok (.invokevirtual 67, 3) := by decide +kernel
theorem dX9_make_71 : decode cX9_make 71 = .ok (.iadd, 1) := by decide +kernel
theorem dX9_make_72 : decode cX9_make 72 = .ok (.iastore, 1) := by decide +kernel
theorem dX9_make_73 : decode cX9_make 73 = .ok (.aload_n 0, 1) := by decide +kernel
theorem dX9_make_74 : decode cX9_make 74 = .ok (.getfield 10, 3) := by decide +kernel
theorem dX9_make_77 : decode cX9_make 77 = .ok (.aload_n 0, 1) := by decide +kernel
theorem dX9_make_78 : decode cX9_make 78 = .ok (.getfield 20, 3) := by decide +kernel
theorem dX9_make_81 : decode cX9_make 81 = .ok (.iload_n 1, 1) := by decide +kernel
theorem dX9_make_82 : decode cX9_make 82 = .ok (.iaload, 1) := by decide +kernel
theorem dX9_make_83 : decode cX9_make 83 = .ok (.aload_n 0, 1) := by decide +kernel
theorem dX9_make_84 : decode cX9_make 84 = .ok (.getfield 16, 3) := by decide +kernel
theorem dX9_make_87 : decode cX9_make 87 = .ok (.iload_n 1, 1) := by decide +kernel
theorem dX9_make_88 : decode cX9_make 88 = .ok (.iaload, 1) := by decide +kernel
theorem dX9_make_89 : decode cX9_make 89 = .ok (.aload_n 0, 1) := by decide +kernel
theorem dX9_make_90 : decode cX9_make 90 = .ok (.getfield 23, 3) := by decide +kernel
theorem dX9_make_93 : decode cX9_make 93 = .ok (.iload_n 1, 1) := by decide +kernel
theorem dX9_make_94 : decode cX9_make 94 = .ok (.iaload, 1) := by decide +kernel
theorem dX9_make_95 : decode cX9_make 95 = .ok (.invokevirtual 77, 3) := by decide +kernel
theorem dX9_make_98 : decode cX9_make 98 = .ok (.iload_n 1, 1) := by decide +kernel
theorem dX9_make_99 : decode cX9_make 99 = .ok (.if_icmp .eq 5, 3) := by decide +kernel
theorem dX9_make_104 : decode cX9_make 104 = .ok (.iinc 1 1, 3) := by decide +kernel
theorem dX9_make_107 : decode cX9_make 107 = .ok (.goto (-83), 3) := by decide +kernel
theorem dX9_make_110 : decode cX9_make 110 = .ok (.iconst 0, 1) := by decide +kernel
theorem dX9_make_111 : decode cX9_make 111 = .ok (.istore_n 1, 1) := by decide +kernel
theorem dX9_make_112 : decode cX9_make 112 = .ok (.iload_n 1, 1) := by decide +kernel
theorem dX9_make_113 : decode cX9_make 113 = .ok (.aload_n 0, 1) := by decide +kernel
theorem dX9_make_114 : decode cX9_make 114 = .ok (.getfield 74, 3) := by decide +kernel
theorem dX9_make_117 : decode cX9_make 117 = .ok (.if_icmp .ge 57, 3) := by decide +kernel
theorem dX9_make_120 : decode cX9_make 120 = .ok (.aload_n 0, 1) := by decide +kernel
theorem dX9_make_121 : decode cX9_make 121 = .ok (.getfield 37, 3) := by decide +kernel
theorem dX9_make_124 : decode cX9_make 124 = .ok (.iload_n 1, 1) := by decide +kernel
theorem dX9_make_125 : decode cX9_make 125 = .ok (.aload_n 0, 1) := by decide +kernel
theorem dX9_make_126 : decode cX9_make 126 = .ok (.iconst 4, 1) := by decide +kernel
theorem dX9_make_127 : decode cX9_make 127 = .ok (.invokevirtual 67, 3) := by decide +kernel
theorem dX9_make_130 : decode cX9_make 130 = .ok (.ifCond .ne 15, 3) := by decide +kernel
theorem dX9_make_133 : decode cX9_make 133 = .ok (.bipush 20, 2) := by decide +kernel
theorem dX9_make_135 : decode cX9_make 135 = .ok (.aload_n 0, 1) := by decide +kernel
theorem dX9_make_136 : decode cX9_make 136 = .ok (.bipush 40, 2) := by decide +kernel
theorem dX9_make_138 : decode cX9_make 138 = .ok (.invokevirtual 67, 3) := by decide +kernel
theorem dX9_make_141 : decode cX9_make 141 = .ok (.iadd, 1) := by decide +kernel
theorem dX9_make_142 : decode cX9_make 142 = .ok (.goto 6, 3) := by decide +kernel
theorem dX9_make_145 : decode cX9_make 145 = .ok (.sipush 900, 3) := by decide +kernel
theorem dX9_make_148 : decode cX9_make 148 = .ok (.iastore, 1) := by decide +kernel
theorem dX9_make_149 : decode cX9_make 149 = .ok (.aload_n 0, 1) := by decide +kernel
theorem dX9_make_150 : decode cX9_make 150 = .ok (.getfield 10, 3) := by decide +kernel
theorem dX9_make_153 : decode cX9_make 153 = .ok (.aload_n 0, 1) := by decide +kernel
theorem dX9_make_154 : decode cX9_make 154 = .ok (.getfield 37, 3) := by decide +kernel
theorem dX9_make_157 : decode cX9_make 157 = .ok (.iload_n 1, 1) := by decide +kernel
theorem dX9_make_158 : decode cX9_make 158 = .ok (.iaload, 1) := by decide +kernel
theorem dX9_make_159 : decode cX9_make 159 = .ok (.invokevirtual 81, 3) := by decide +kernel
theorem dX9_make_162 : decode cX9_make 162 = .ok (.iload_n 1, 1) := by decide +kernel
theorem dX9_make_163 : decode cX9_make 163 = .ok (.if_icmp .eq 5, 3) := by decide +kernel
theorem dX9_make_168 : decode cX9_make 168 = .ok (.iinc 1 1, 3) := by decide +kernel
theorem dX9_make_171 : decode cX9_make 171 = .ok (.goto (-59), 3) := by decide +kernel
theorem dX9_make_174 : decode cX9_make 174 = .ok (.aload_n 0, 1) := by decide +kernel
theorem dX9_make_175 : decode cX9_make 175 = .ok (.getfield 10, 3) := by decide +kernel
theorem dX9_make_178 : decode cX9_make 178 = .ok (.invokevirtual 84, 3) := by decide +kernel
theorem dX9_make_181 : decode cX9_make 181 = .ok (.aload_n 0, 1) := by decide +kernel
theorem dX9_make_182 : decode cX9_make 182 = .ok (.getfield 71, 3) := by decide +kernel
theorem dX9_make_185 : decode cX9_make 185 = .ok (.if_icmp .ne 31, 3) := by decide +kernel
theorem dX9_make_188 : decode cX9_make 188 = .ok (.aload_n 0, 1) := by decide +kernel
theorem dX9_make_189 : decode cX9_make 189 = .ok (.getfield 10, 3) := by decide +kernel
theorem dX9_make_192 : decode cX9_make 192 = .ok (.invokevirtual 87, 3) := by decide +kernel
theorem dX9_make_195 : decode cX9_make 195 = .ok (.aload_n 0, 1) := by decide +kernel
theorem dX9_make_196 : decode cX9_make 196 = .ok (.getfield 74, 3) := by decide +kernel
theorem dX9_make_199 : decode cX9_make 199 = .ok (.if_icmp .ne 17, 3) := by decide +kernel
theorem dX9_make_202 : decode cX9_make 202 = .ok (.aload_n 0, 1) := by decide +kernel
theorem dX9_make_203 : decode cX9_make 203 = .ok (.getfield 10, 3) := by decide +kernel
theorem dX9_make_206 : decode cX9_make 206 = .ok (.invokevirtual 89, 3) := by decide +kernel
theorem dX9_make_209 : decode cX9_make 209 = .ok (.ifCond .ne 7, 3) := by decide +kernel
theorem dX9_make_212 : decode cX9_make 212 = .ok (.iconst 1, 1) := by decide +kernel
theorem dX9_make_213 : decode cX9_make 213 = .ok (.goto 4, 3) := by decide +kernel
theorem dX9_make_217 : decode cX9_make 217 = .ok (.ireturn, 1) := by decide +kernel
