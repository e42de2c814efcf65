theorem dX8_mixStocks_0 : decode cX8_mixStocks 0 = .ok (.lload_n 1, 1) := by decide +kernel
theorem dX8_mixStocks_1 : decode cX8_mixStocks 1 = .ok (.lstore_n 3, 1) := by decide +kernel
theorem dX8_mixStocks_2 : decode cX8_mixStocks 2 = .ok (.iconst 0, 1) := by decide +kernel
theorem dX8_mixStocks_3 : decode cX8_mixStocks 3 = .ok (.istore 5, 2) := by decide +kernel
theorem dX8_mixStocks_5 : decode cX8_mixStocks 5 = .ok (.iload 5, 2) := by decide +kernel
theorem dX8_mixStocks_7 : decode cX8_mixStocks 7 = .ok (.aload_n 0, 1) := by decide +kernel
theorem dX8_mixStocks_8 : decode cX8_mixStocks 8 = .ok (.getfield 10, 3) := by decide +kernel
theorem dX8_mixStocks_11 : decode cX8_mixStocks 11 = .ok (.getfield 30, 3) := by decide +kernel
theorem dX8_mixStocks_14 : decode cX8_mixStocks 14 = .ok (.getfield 34, 3) := by decide +kernel
theorem dX8_mixStocks_17 : decode cX8_mixStocks 17 = .ok (.if_icmp .ge 190, 3) := by decide +kernel
theorem dX8_mixStocks_20 : decode cX8_mixStocks 20 = .ok (.iconst 0, 1) := by decide +kernel
theorem dX8_mixStocks_21 : decode cX8_mixStocks 21 = .ok (.istore 6, 2) := by decide +kernel
theorem dX8_mixStocks_23 : decode cX8_mixStocks 23 = .ok (.iload 6, 2) := by decide +kernel
theorem dX8_mixStocks_25 : decode cX8_mixStocks 25 = .ok (.aload_n 0, 1) := by decide +kernel
theorem dX8_mixStocks_26 : decode cX8_mixStocks 26 = .ok (.getfield 10, 3) := by decide +kernel
theorem dX8_mixStocks_29 : decode cX8_mixStocks 29 = .ok (.getfield 48, 3) := by decide +kernel
theorem dX8_mixStocks_32 : decode cX8_mixStocks 32 = .ok (.getfield 52, 3) := by decide +kernel
theorem dX8_mixStocks_35 : decode cX8_mixStocks 35 = .ok (.if_icmp .ge 166, 3) := by decide +kernel
theorem dX8_mixStocks_38 : decode cX8_mixStocks 38 = .ok (.lload_n 3, 1) := by decide +kernel
theorem dX8_mixStocks_39 : decode cX8_mixStocks 39 = .ok (.aload_n 0, 1) := by decide +kernel
theorem dX8_mixStocks_40 : decode cX8_mixStocks 40 = .ok (.getfield 10, 3) := by decide +kernel
theorem dX8_mixStocks_43 : decode cX8_mixStocks 43 = .ok (.getfield 76, 3) := by decide +kernel
theorem dX8_mixStocks_46 : decode cX8_mixStocks 46 = .ok (.iload 5, 2) := by decide +kernel
theorem dX8_mixStocks_48 : decode cX8_mixStocks 48 = .ok (.iload 6, 2) := by decide +kernel
theorem dX8_mixStocks_50 : decode cX8_mixStocks 50 = .ok (.invokevirtual 89, 3) := by decide +kernel
theorem dX8_mixStocks_53 : decode cX8_mixStocks 53 = .ok (.ifCond .eq 7, 3) := by decide +kernel
theorem dX8_mixStocks_56 : decode cX8_mixStocks 56 = .ok (.lconst 1, 1) := by decide +kernel
theorem dX8_mixStocks_57 : decode cX8_mixStocks 57 = .ok (.goto 4, 3) := by decide +kernel
theorem dX8_mixStocks_60 : decode cX8_mixStocks 60 = .ok (.lconst 0, 1) := by decide +kernel
theorem dX8_mixStocks_61 : decode cX8_mixStocks 61 = .ok (.invokestatic 281, 3) := by decide +kernel
theorem dX8_mixStocks_64 : decode cX8_mixStocks 64 = .ok (.lstore_n 3, 1) := by decide +kernel
theorem dX8_mixStocks_65 : decode cX8_mixStocks 65 = .ok (.lload_n 3, 1) := by decide +kernel
theorem dX8_mixStocks_66 : decode cX8_mixStocks 66 = .ok (.aload_n 0, 1) := by decide +kernel
theorem dX8_mixStocks_67 : decode cX8_mixStocks 67 = .ok (.getfield 10, 3) := by decide +kernel
theorem dX8_mixStocks_70 : decode cX8_mixStocks 70 = .ok (.getfield 109, 3) := by decide +kernel
theorem dX8_mixStocks_73 : decode cX8_mixStocks 73 = .ok (.iload 5, 2) := by decide +kernel
theorem dX8_mixStocks_75 : decode cX8_mixStocks 75 = .ok (.iload 6, 2) := by decide +kernel
theorem dX8_mixStocks_77 : decode cX8_mixStocks 77 = .ok (.invokevirtual 208, 3) := by decide +kernel
theorem dX8_mixStocks_80 : decode cX8_mixStocks 80 = .ok (.i2l, 1) := by decide +kernel
theorem dX8_mixStocks_81 : decode cX8_mixStocks 81 = .ok (.invokestatic 281, 3) := by decide +kernel
theorem dX8_mixStocks_84 : decode cX8_mixStocks 84 = .ok (.lstore_n 3, 1) := by decide +kernel
theorem dX8_mixStocks_85 : decode cX8_mixStocks 85 = .ok (.lload_n 3, 1) := by decide +kernel
theorem dX8_mixStocks_86 : decode cX8_mixStocks 86 = .ok (.aload_n 0, 1) := by decide +kernel
theorem dX8_mixStocks_87 : decode cX8_mixStocks 87 = .ok (.getfield 10, 3) := by decide +kernel
theorem dX8_mixStocks_90 : decode cX8_mixStocks 90 = .ok (.getfield 109, 3) := by decide +kernel
theorem dX8_mixStocks_93 : decode cX8_mixStocks 93 = .ok (.iload 5, 2) := by decide +kernel
theorem dX8_mixStocks_95 : decode cX8_mixStocks 95 = .ok (.iload 6, 2) := by decide +kernel
theorem dX8_mixStocks_97 : decode cX8_mixStocks 97 = .ok (.invokevirtual 211, 3) := by decide +kernel
theorem dX8_mixStocks_100 : decode cX8_mixStocks 100 = .ok (.i2l, 1) := by decide +kernel
theorem dX8_mixStocks_101 : decode cX8_mixStocks 101 = .ok (.invokestatic 281, 3) := by decide +kernel
theorem dX8_mixStocks_104 : decode cX8_mixStocks 104 = .ok (.lstore_n 3, 1) := by decide +kernel
theorem dX8_mixStocks_105 : decode cX8_mixStocks 105 = .ok (.lload_n 3, 1) := by decide +kernel
theorem dX8_mixStocks_106 : decode cX8_mixStocks 106 = .ok (.aload_n 0, 1) := by decide +kernel
theorem dX8_mixStocks_107 : decode cX8_mixStocks 107 = .ok (.getfield 10, 3) := by decide +kernel
theorem dX8_mixStocks_110 : decode cX8_mixStocks 110 = .ok (.getfield 183, 3) := by decide +kernel
theorem dX8_mixStocks_113 : decode cX8_mixStocks 113 = .ok (.iload 5, 2) := by decide +kernel
theorem dX8_mixStocks_115 : decode cX8_mixStocks 115 = .ok (.iload 6, 2) := by decide +kernel
theorem dX8_mixStocks_117 : decode cX8_mixStocks 117 = .ok (.invokevirtual 214, 3) := by decide +kernel
theorem dX8_mixStocks_120 : decode cX8_mixStocks 120 = .ok (.i2l, 1) := by decide +kernel
theorem dX8_mixStocks_121 : decode cX8_mixStocks 121 = .ok (.invokestatic 281, 3) := by decide +kernel
theorem dX8_mixStocks_124 : decode cX8_mixStocks 124 = .ok (.lstore_n 3, 1) := by decide +kernel
theorem dX8_mixStocks_125 : decode cX8_mixStocks 125 = .ok (.lload_n 3, 1) := by decide +kernel
theorem dX8_mixStocks_126 : decode cX8_mixStocks 126 = .ok (.aload_n 0, 1) := by decide +kernel
theorem dX8_mixStocks_127 : decode cX8_mixStocks 127 = .ok (.getfield 10, 3) := by decide +kernel
theorem dX8_mixStocks_130 : decode cX8_mixStocks 130 = .ok (.iload 5, 2) := by decide +kernel
theorem dX8_mixStocks_132 : decode cX8_mixStocks 132 = .ok (.iload 6, 2) := by decide +kernel
theorem dX8_mixStocks_134 : decode cX8_mixStocks 134 = .ok (.invokevirtual 217, 3) := by decide +kernel
theorem dX8_mixStocks_137 : decode cX8_mixStocks 137 = .ok (.i2l, 1) := by decide +kernel
theorem dX8_mixStocks_138 : decode cX8_mixStocks 138 = .ok (.invokestatic 281, 3) := by decide +kernel
theorem dX8_mixStocks_141 : decode cX8_mixStocks 141 = .ok (.lstore_n 3, 1) := by decide +kernel
theorem dX8_mixStocks_142 : decode cX8_mixStocks 142 = .ok (.lload_n 3, 1) := by decide +kernel
theorem dX8_mixStocks_143 : decode cX8_mixStocks 143 = .ok (.aload_n 0, 1) := by decide +kernel
theorem dX8_mixStocks_144 : decode cX8_mixStocks 144 = .ok (.getfield 10, 3) := by decide +kernel
theorem dX8_mixStocks_147 : decode cX8_mixStocks 147 = .ok (.iload 5, 2) := by decide +kernel
theorem dX8_mixStocks_149 : decode cX8_mixStocks 149 = .ok (.iload 6, 2) := by decide +kernel
theorem dX8_mixStocks_151 : decode cX8_mixStocks 151 = .ok (.invokevirtual 244, 3) := by decide +kernel
theorem dX8_mixStocks_154 : decode cX8_mixStocks 154 = .ok (.i2l, 1) := by decide +kernel
theorem dX8_mixStocks_155 : decode cX8_mixStocks 155 = .ok (.invokestatic 281, 3) := by decide +kernel
theorem dX8_mixStocks_158 : decode cX8_mixStocks 158 = .ok (.lstore_n 3, 1) := by decide +kernel
theorem dX8_mixStocks_159 : decode cX8_mixStocks 159 = .ok (.lload_n 3, 1) := by decide +kernel
theorem dX8_mixStocks_160 : decode cX8_mixStocks 160 = .ok (.aload_n 0, 1) := by decide +kernel
theorem dX8_mixStocks_161 : decode cX8_mixStocks 161 = .ok (.getfield 10, 3) := by decide +kernel
theorem dX8_mixStocks_164 : decode cX8_mixStocks 164 = .ok (.iload 5, 2) := by decide +kernel
theorem dX8_mixStocks_166 : decode cX8_mixStocks 166 = .ok (.iload 6, 2) := by decide +kernel
theorem dX8_mixStocks_168 : decode cX8_mixStocks 168 = .ok (.invokevirtual 247, 3) := by decide +kernel
theorem dX8_mixStocks_171 : decode cX8_mixStocks 171 = .ok (.i2l, 1) := by decide +kernel
theorem dX8_mixStocks_172 : decode cX8_mixStocks 172 = .ok (.invokestatic 281, 3) := by decide +kernel
theorem dX8_mixStocks_175 : decode cX8_mixStocks 175 = .ok (.lstore_n 3, 1) := by decide +kernel
theorem dX8_mixStocks_176 : decode cX8_mixStocks 176 = .ok (.lload_n 3, 1) := by decide +kernel
theorem dX8_mixStocks_177 : decode cX8_mixStocks 177 = .ok (.aload_n 0, 1) := by decide +kernel
theorem dX8_mixStocks_178 : decode cX8_mixStocks 178 = .ok (.getfield 10, 3) := by decide +kernel
theorem dX8_mixStocks_181 : decode cX8_mixStocks 181 = .ok (.iload 5, 2) := by decide +kernel
theorem dX8_mixStocks_183 : decode cX8_mixStocks 183 = .ok (.iload 6, 2) := by decide +kernel
theorem dX8_mixStocks_185 : decode cX8_mixStocks 185 = .ok (.bipush 7, 2) := by decide +kernel
theorem dX8_mixStocks_187 : decode cX8_mixStocks 187 = .ok (.invokevirtual 226, 3) := by decide +kernel
theorem dX8_mixStocks_190 : decode cX8_mixStocks 190 = .ok (.i2l, 1) := by decide +kernel
theorem dX8_mixStocks_191 : decode cX8_mixStocks 191 = .ok (.invokestatic 281, 3) := by decide +kernel
theorem dX8_mixStocks_194 : decode cX8_mixStocks 194 = .ok (.lstore_n 3, 1) := by decide +kernel
theorem dX8_mixStocks_195 : decode cX8_mixStocks 195 = .ok (.iinc 6 1, 3) := by decide +kernel
theorem dX8_mixStocks_198 : decode cX8_mixStocks 198 = .ok (.goto (-175), 3) := by decide +kernel
theorem dX8_mixStocks_201 : decode cX8_mixStocks 201 = .ok (.iinc 5 1, 3) := by decide +kernel
theorem dX8_mixStocks_204 : decode cX8_mixStocks 204 = .ok (.goto (-199), 3) := by decide +kernel
theorem dX8_mixStocks_207 : decode cX8_mixStocks 207 = .ok (.lload_n 3, 1) := by decide +kernel
theorem dX8_mixStocks_208 : decode cX8_mixStocks 208 = .ok (.lreturn, 1) := by decide +kernel
