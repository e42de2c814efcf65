theorem dX3_sendAlong_0 : decode cX3_sendAlong 0 = .ok (.aload_n 0, 1) := by decide +kernel
theorem dX3_sendAlong_1 : decode cX3_sendAlong 1 = .ok (.getfield 15, 3) := by decide +kernel
theorem dX3_sendAlong_4 : decode cX3_sendAlong 4 = .ok (.iload_n 1, 1) := by decide +kernel
theorem dX3_sendAlong_5 : decode cX3_sendAlong 5 = .ok (.iaload, 1) := by decide +kernel
theorem dX3_sendAlong_6 : decode cX3_sendAlong 6 = .ok (.istore_n 2, 1) := by decide +kernel
theorem dX3_sendAlong_7 : decode cX3_sendAlong 7 = .ok (.iload_n 1, 1) := by decide +kernel
theorem dX3_sendAlong_8 : decode cX3_sendAlong 8 = .ok (.istore_n 3, 1) := by decide +kernel
theorem dX3_sendAlong_9 : decode cX3_sendAlong 9 = .ok (.iconst 0, 1) := by decide +kernel
theorem dX3_sendAlong_10 : decode cX3_sendAlong 10 = .ok (.istore 4, 2) := by decide +kernel
theorem dX3_sendAlong_12 : decode cX3_sendAlong 12 = .ok (.iload 4, 2) := by decide +kernel
theorem dX3_sendAlong_14 : decode cX3_sendAlong 14 = .ok (.iconst 5, 1) := by decide +kernel
theorem dX3_sendAlong_15 : decode cX3_sendAlong 15 = .ok (.if_icmp .ge 62, 3) := by decide +kernel
theorem dX3_sendAlong_18 : decode cX3_sendAlong 18 = .ok (.aload_n 0, 1) := by decide +kernel
theorem dX3_sendAlong_19 : decode cX3_sendAlong 19 = .ok (.getfield 25, 3) := by decide +kernel
theorem dX3_sendAlong_22 : decode cX3_sendAlong 22 = .ok (.iload_n 3, 1) := by decide +kernel
theorem dX3_sendAlong_23 : decode cX3_sendAlong 23 = .ok (.iaload, 1) := by decide +kernel
theorem dX3_sendAlong_24 : decode cX3_sendAlong 24 = .ok (.iconst (-1), 1) := by decide +kernel
theorem dX3_sendAlong_25 : decode cX3_sendAlong 25 = .ok (.if_icmp .eq 52, 3) := by decide +kernel
theorem dX3_sendAlong_28 : decode cX3_sendAlong 28 = .ok (.iload_n 3, 1) := by decide +kernel
theorem dX3_sendAlong_29 : decode cX3_sendAlong 29 = .ok (.aload_n 0, 1) := by decide +kernel
theorem dX3_sendAlong_30 : decode cX3_sendAlong 30 = .ok (.getfield 25, 3) := by decide +kernel
theorem dX3_sendAlong_33 : decode cX3_sendAlong 33 = .ok (.iload_n 3, 1) := by decide +kernel
theorem dX3_sendAlong_34 : decode cX3_sendAlong 34 = .ok (.iaload, 1) := by decide +kernel
theorem dX3_sendAlong_35 : decode cX3_sendAlong 35 = .ok (.invokestatic 52, 3) := by decide +kernel
theorem dX3_sendAlong_38 : decode cX3_sendAlong 38 = .ok (.istore 5, 2) := by decide +kernel
theorem dX3_sendAlong_40 : decode cX3_sendAlong 40 = .ok (.aload_n 0, 1) := by decide +kernel
theorem dX3_sendAlong_41 : decode cX3_sendAlong 41 = .ok (.getfield 18, 3) := by decide +kernel
theorem dX3_sendAlong_44 : decode cX3_sendAlong 44 = .ok (.iload 5, 2) := by decide +kernel
theorem dX3_sendAlong_46 : decode cX3_sendAlong 46 = .ok (.laload, 1) := by decide +kernel
theorem dX3_sendAlong_47 : decode cX3_sendAlong 47 = .ok (.lconst 0, 1) := by decide +kernel
theorem dX3_sendAlong_48 : decode cX3_sendAlong 48 = .ok (.lcmp, 1) := by decide +kernel
theorem dX3_sendAlong_49 : decode cX3_sendAlong 49 = .ok (.ifCond .eq 15, 3) := by decide +kernel
theorem dX3_sendAlong_52 : decode cX3_sendAlong 52 = .ok (.iload_n 2, 1) := by decide +kernel
theorem dX3_sendAlong_53 : decode cX3_sendAlong 53 = .ok (.aload_n 0, 1) := by decide +kernel
theorem dX3_sendAlong_54 : decode cX3_sendAlong 54 = .ok (.getfield 28, 3) := by decide +kernel
theorem dX3_sendAlong_57 : decode cX3_sendAlong 57 = .ok (.iload 5, 2) := by decide +kernel
theorem dX3_sendAlong_59 : decode cX3_sendAlong 59 = .ok (.iaload, 1) := by decide +kernel
theorem dX3_sendAlong_60 : decode cX3_sendAlong 60 = .ok (.invokestatic 80, 3) := by decide +kernel
theorem dX3_sendAlong_63 : decode cX3_sendAlong 63 = .ok (.istore_n 2, 1) := by decide +kernel
theorem dX3_sendAlong_64 : decode cX3_sendAlong 64 = .ok (.aload_n 0, 1) := by decide +kernel
theorem dX3_sendAlong_65 : decode cX3_sendAlong 65 = .ok (.getfield 25, 3) := by decide +kernel
theorem dX3_sendAlong_68 : decode cX3_sendAlong 68 = .ok (.iload_n 3, 1) := by decide +kernel
theorem dX3_sendAlong_69 : decode cX3_sendAlong 69 = .ok (.iaload, 1) := by decide +kernel
theorem dX3_sendAlong_70 : decode cX3_sendAlong 70 = .ok (.istore_n 3, 1) := by decide +kernel
theorem dX3_sendAlong_71 : decode cX3_sendAlong 71 = .ok (.iinc 4 1, 3) := by decide +kernel
theorem dX3_sendAlong_74 : decode cX3_sendAlong 74 = .ok (.goto (-62), 3) := by decide +kernel
theorem dX3_sendAlong_77 : decode cX3_sendAlong 77 = .ok (.iload_n 2, 1) := by decide +kernel
theorem dX3_sendAlong_78 : decode cX3_sendAlong 78 = .ok (.aload_n 0, 1) := by decide +kernel
theorem dX3_sendAlong_79 : decode cX3_sendAlong 79 = .ok (.getfield 9, 3) := by decide +kernel
theorem dX3_sendAlong_82 : decode cX3_sendAlong 82 = .ok (.iload_n 3, 1) := by decide +kernel
theorem dX3_sendAlong_83 : decode cX3_sendAlong 83 = .ok (.iaload, 1) := by decide +kernel
theorem dX3_sendAlong_84 : decode cX3_sendAlong 84 = .ok (.invokestatic 80, 3) := by decide +kernel
theorem dX3_sendAlong_87 : decode cX3_sendAlong 87 = .ok (.istore_n 2, 1) := by decide +kernel
theorem dX3_sendAlong_88 : decode cX3_sendAlong 88 = .ok (.iload_n 1, 1) := by decide +kernel
theorem dX3_sendAlong_89 : decode cX3_sendAlong 89 = .ok (.istore 4, 2) := by decide +kernel
theorem dX3_sendAlong_91 : decode cX3_sendAlong 91 = .ok (.iconst 0, 1) := by decide +kernel
theorem dX3_sendAlong_92 : decode cX3_sendAlong 92 = .ok (.istore 5, 2) := by decide +kernel
theorem dX3_sendAlong_94 : decode cX3_sendAlong 94 = .ok (.iload 5, 2) := by decide +kernel
theorem dX3_sendAlong_96 : decode cX3_sendAlong 96 = .ok (.iconst 5, 1) := by decide +kernel
theorem dX3_sendAlong_97 : decode cX3_sendAlong 97 = .ok (.if_icmp .ge 90, 3) := by decide +kernel
theorem dX3_sendAlong_100 : decode cX3_sendAlong 100 = .ok (.aload_n 0, 1) := by decide +kernel
theorem dX3_sendAlong_101 : decode cX3_sendAlong 101 = .ok (.getfield 25, 3) := by decide +kernel
theorem dX3_sendAlong_104 : decode cX3_sendAlong 104 = .ok (.iload 4, 2) := by decide +kernel
theorem dX3_sendAlong_106 : decode cX3_sendAlong 106 = .ok (.iaload, 1) := by decide +kernel
theorem dX3_sendAlong_107 : decode cX3_sendAlong 107 = .ok (.iconst (-1), 1) := by decide +kernel
theorem dX3_sendAlong_108 : decode cX3_sendAlong 108 = .ok (.if_icmp .eq 79, 3) := by decide +kernel
theorem dX3_sendAlong_111 : decode cX3_sendAlong 111 = .ok (.iload 4, 2) := by decide +kernel
theorem dX3_sendAlong_113 : decode cX3_sendAlong 113 = .ok (.aload_n 0, 1) := by decide +kernel
theorem dX3_sendAlong_114 : decode cX3_sendAlong 114 = .ok (.getfield 25, 3) := by decide +kernel
theorem dX3_sendAlong_117 : decode cX3_sendAlong 117 = .ok (.iload 4, 2) := by decide +kernel
theorem dX3_sendAlong_119 : decode cX3_sendAlong 119 = .ok (.iaload, 1) := by decide +kernel
theorem dX3_sendAlong_120 : decode cX3_sendAlong 120 = .ok (.invokestatic 52, 3) := by decide +kernel
theorem dX3_sendAlong_123 : decode cX3_sendAlong 123 = .ok (.istore 6, 2) := by decide +kernel
theorem dX3_sendAlong_125 : decode cX3_sendAlong 125 = .ok (.aload_n 0, 1) := by decide +kernel
theorem dX3_sendAlong_126 : decode cX3_sendAlong 126 = .ok (.getfield 18, 3) := by decide +kernel
theorem dX3_sendAlong_129 : decode cX3_sendAlong 129 = .ok (.iload 6, 2) := by decide +kernel
theorem dX3_sendAlong_131 : decode cX3_sendAlong 131 = .ok (.laload, 1) := by decide +kernel
theorem dX3_sendAlong_132 : decode cX3_sendAlong 132 = .ok (.lconst 0, 1) := by decide +kernel
theorem dX3_sendAlong_133 : decode cX3_sendAlong 133 = .ok (.lcmp, 1) := by decide +kernel
theorem dX3_sendAlong_134 : decode cX3_sendAlong 134 = .ok (.ifCond .eq 17, 3) := by decide +kernel
theorem dX3_sendAlong_137 : decode cX3_sendAlong 137 = .ok (.aload_n 0, 1) := by decide +kernel
theorem dX3_sendAlong_138 : decode cX3_sendAlong 138 = .ok (.getfield 28, 3) := by decide +kernel
theorem dX3_sendAlong_141 : decode cX3_sendAlong 141 = .ok (.iload 6, 2) := by decide +kernel
theorem dX3_sendAlong_143 : decode cX3_sendAlong 143 = .ok (.dup2, 1) := by decide +kernel
theorem dX3_sendAlong_144 : decode cX3_sendAlong 144 = .ok (.iaload, 1) := by decide +kernel
theorem dX3_sendAlong_145 : decode cX3_sendAlong 145 = .ok (.iload_n 2, 1) := by decide +kernel
theorem dX3_sendAlong_146 : decode cX3_sendAlong 146 = .ok (.isub, 1) := by decide +kernel
theorem dX3_sendAlong_147 : decode cX3_sendAlong 147 = .ok (.iastore, 1) := by decide +kernel
theorem dX3_sendAlong_148 : decode cX3_sendAlong 148 = .ok (.goto 24, 3) := by decide +kernel
theorem dX3_sendAlong_151 : decode cX3_sendAlong 151 = .ok (.aload_n 0, 1) := by decide +kernel
theorem dX3_sendAlong_152 : decode cX3_sendAlong 152 = .ok (.getfield 28, 3) := by decide +kernel
theorem dX3_sendAlong_155 : decode cX3_sendAlong 155 = .ok (.aload_n 0, 1) := by decide +kernel
theorem dX3_sendAlong_156 : decode cX3_sendAlong 156 = .ok (.getfield 25, 3) := by decide +kernel
theorem dX3_sendAlong_159 : decode cX3_sendAlong 159 = .ok (.iload 4, 2) := by decide +kernel
theorem dX3_sendAlong_161 : decode cX3_sendAlong 161 = .ok (.iaload, 1) := by decide +kernel
theorem dX3_sendAlong_162 : decode cX3_sendAlong 162 = .ok (.iload 4, 2) := by decide +kernel
theorem dX3_sendAlong_164 : decode cX3_sendAlong 164 = .ok (.invokestatic 52, 3) := by decide +kernel
theorem dX3_sendAlong_167 : decode cX3_sendAlong 167 = .ok (.dup2, 1) := by decide +kernel
theorem dX3_sendAlong_168 : decode cX3_sendAlong 168 = .ok (.iaload, 1) := by decide +kernel
theorem dX3_sendAlong_169 : decode cX3_sendAlong 169 = .ok (.iload_n 2, 1) := by decide +kernel
theorem dX3_sendAlong_170 : decode cX3_sendAlong 170 = .ok (.iadd, 1) := by decide +kernel
theorem dX3_sendAlong_171 : decode cX3_sendAlong 171 = .ok (.iastore, 1) := by decide +kernel
theorem dX3_sendAlong_172 : decode cX3_sendAlong 172 = .ok (.aload_n 0, 1) := by decide +kernel
theorem dX3_sendAlong_173 : decode cX3_sendAlong 173 = .ok (.getfield 25, 3) := by decide +kernel
theorem dX3_sendAlong_176 : decode cX3_sendAlong 176 = .ok (.iload 4, 2) := by decide +kernel
theorem dX3_sendAlong_178 : decode cX3_sendAlong 178 = .ok (.iaload, 1) := by decide +kernel
theorem dX3_sendAlong_179 : decode cX3_sendAlong 179 = .ok (.istore 4, 2) := by decide +kernel
theorem dX3_sendAlong_181 : decode cX3_sendAlong 181 = .ok (.iinc 5 1, 3) := by decide +kernel
theorem dX3_sendAlong_184 : decode cX3_sendAlong 184 = .ok (.goto (-90), 3) := by decide +kernel
theorem dX3_sendAlong_187 : decode cX3_sendAlong 187 = .ok (.aload_n 0, 1) := by decide +kernel
theorem dX3_sendAlong_188 : decode cX3_sendAlong 188 = .ok (.getfield 9, 3) := by decide +kernel
theorem dX3_sendAlong_191 : decode cX3_sendAlong 191 = .ok (.iload_n 3, 1) := by decide +kernel
theorem dX3_sendAlong_192 : decode cX3_sendAlong 192 = .ok (.dup2, 1) := by decide +kernel
theorem dX3_sendAlong_193 : decode cX3_sendAlong 193 = .ok (.iaload, 1) := by decide +kernel
theorem dX3_sendAlong_194 : decode cX3_sendAlong 194 = .ok (.iload_n 2, 1) := by decide +kernel
theorem dX3_sendAlong_195 : decode cX3_sendAlong 195 = .ok (.isub, 1) := by decide +kernel
theorem dX3_sendAlong_196 : decode cX3_sendAlong 196 = .ok (.iastore, 1) := by decide +kernel
theorem dX3_sendAlong_197 : decode cX3_sendAlong 197 = .ok (.aload_n 0, 1) := by decide +kernel
theorem dX3_sendAlong_198 : decode cX3_sendAlong 198 = .ok (.getfield 15, 3) := by decide +kernel
theorem dX3_sendAlong_201 : decode cX3_sendAlong 201 = .ok (.iload_n 1, 1) := by decide +kernel
theorem dX3_sendAlong_202 : decode cX3_sendAlong 202 = .ok (.dup2, 1) := by decide +kernel
theorem dX3_sendAlong_203 : decode cX3_sendAlong 203 = .ok (.iaload, 1) := by decide +kernel
theorem dX3_sendAlong_204 : decode cX3_sendAlong 204 = .ok (.iload_n 2, 1) := by decide +kernel
theorem dX3_sendAlong_205 : decode cX3_sendAlong 205 = .ok (.isub, 1) := by decide +kernel
theorem dX3_sendAlong_206 : decode cX3_sendAlong 206 = .ok (.iastore, 1) := by decide +kernel
theorem dX3_sendAlong_207 : decode cX3_sendAlong 207 = .ok (.return_, 1) := by decide +kernel
