theorem dX10_isIn_0 : decode cX10_isIn 0 = .ok (.iload_n 0, 1) := by decide +kernel
theorem dX10_isIn_1 : decode cX10_isIn 1 = .ok (.iload_n 1, 1) := by decide +kernel
theorem dX10_isIn_2 : decode cX10_isIn 2 = .ok (.if_icmp .lt 12, 3) := by decide +kernel
theorem dX10_isIn_5 : decode cX10_isIn 5 = .ok (.iload_n 0, 1) := by decide +kernel
theorem dX10_isIn_6 : decode cX10_isIn 6 = .ok (.iload_n 2, 1) := by decide +kernel
theorem dX10_isIn_7 : decode cX10_isIn 7 = .ok (.if_icmp .gt 7, 3) := by decide +kernel
theorem dX10_isIn_10 : decode cX10_isIn 10 = .ok (.iconst 1, 1) := by decide +kernel
theorem dX10_isIn_11 : decode cX10_isIn 11 = .ok (.goto 4, 3) := by decide +kernel
theorem dX10_isIn_14 : decode cX10_isIn 14 = .ok (.iconst 0, 1) := by decide +kernel
theorem dX10_isIn_15 : decode cX10_isIn 15 = .ok (.ireturn, 1) := by decide +kernel
theorem dX10_thrown_0 : decode cX10_thrown 0 = .ok (.aload_n 0, 1) := by decide +kernel
theorem dX10_thrown_1 : decode cX10_thrown 1 = .ok (.getfield 22, 3) := by decide +kernel
theorem dX10_thrown_4 : decode cX10_thrown 4 = .ok (.ireturn, 1) := by decide +kernel
theorem dX10_no_0 : decode cX10_no 0 = .ok (.aload_n 0, 1) := by decide +kernel
theorem dX10_no_1 : decode cX10_no 1 = .ok (.iload_n 1, 1) := by decide +kernel
theorem dX10_no_2 : decode cX10_no 2 = .ok (.putfield 22, 3) := by decide +kernel
theorem dX10_no_5 : decode cX10_no 5 = .ok (.iconst 0, 1) := by decide +kernel
theorem dX10_no_6 : decode cX10_no 6 = .ok (.ireturn, 1) := by decide +kernel
theorem dX10_isNot_0 : decode cX10_isNot 0 = .ok (.aload_n 0, 1) := by decide +kernel
theorem dX10_isNot_1 : decode cX10_isNot 1 = .ok (.iload_n 1, 1) := by decide +kernel
theorem dX10_isNot_2 : decode cX10_isNot 2 = .ok (.putfield 22, 3) := by decide +kernel
theorem dX10_isNot_5 : decode cX10_isNot 5 = .ok (.iconst 0, 1) := by decide +kernel
theorem dX10_isNot_6 : decode cX10_isNot 6 = .ok (.ireturn, 1) := by decide +kernel
theorem dX10_ok_0 : decode cX10_ok 0 = .ok (.aload_n 0, 1) := by decide +kernel
theorem dX10_ok_1 : decode cX10_ok 1 = .ok (.iconst 0, 1) := by decide +kernel
theorem dX10_ok_2 : decode cX10_ok 2 = .ok (.putfield 22, 3) := by decide +kernel
theorem dX10_ok_5 : decode cX10_ok 5 = .ok (.iload_n 1, 1) := by decide +kernel
theorem dX10_ok_6 : decode cX10_ok 6 = .ok (.ireturn, 1) := by decide +kernel
theorem dX10_isItem_0 : decode cX10_isItem 0 = .ok (.iload_n 1, 1) := by decide +kernel
theorem dX10_isItem_1 : decode cX10_isItem 1 = .ok (.iconst 0, 1) := by decide +kernel
theorem dX10_isItem_2 : decode cX10_isItem 2 = .ok (.aload_n 0, 1) := by decide +kernel
theorem dX10_isItem_3 : decode cX10_isItem 3 = .ok (.getfield 16, 3) := by decide +kernel
theorem dX10_isItem_6 : decode cX10_isItem 6 = .ok (.getfield 26, 3) := by decide +kernel
theorem dX10_isItem_9 : decode cX10_isItem 9 = .ok (.iconst 1, 1) := by decide +kernel
theorem dX10_isItem_10 : decode cX10_isItem 10 = .ok (.isub, 1) := by decide +kernel
theorem dX10_isItem_11 : decode cX10_isItem 11 = .ok (.invokestatic 29, 3) := by decide +kernel
theorem dX10_isItem_14 : decode cX10_isItem 14 = .ok (.ireturn, 1) := by decide +kernel
theorem dX10_isSite_0 : decode cX10_isSite 0 = .ok (.iload_n 1, 1) := by decide +kernel
theorem dX10_isSite_1 : decode cX10_isSite 1 = .ok (.iconst 0, 1) := by decide +kernel
theorem dX10_isSite_2 : decode cX10_isSite 2 = .ok (.aload_n 0, 1) := by decide +kernel
theorem dX10_isSite_3 : decode cX10_isSite 3 = .ok (.getfield 16, 3) := by decide +kernel
theorem dX10_isSite_6 : decode cX10_isSite 6 = .ok (.getfield 33, 3) := by decide +kernel
theorem dX10_isSite_9 : decode cX10_isSite 9 = .ok (.iconst 1, 1) := by decide +kernel
theorem dX10_isSite_10 : decode cX10_isSite 10 = .ok (.isub, 1) := by decide +kernel
theorem dX10_isSite_11 : decode cX10_isSite 11 = .ok (.invokestatic 29, 3) := by decide +kernel
theorem dX10_isSite_14 : decode cX10_isSite 14 = .ok (.ireturn, 1) := by decide +kernel
theorem dX10_isBoth_0 : decode cX10_isBoth 0 = .ok (.aload_n 0, 1) := by decide +kernel
theorem dX10_isBoth_1 : decode cX10_isBoth 1 = .ok (.iload_n 1, 1) := by decide +kernel
theorem dX10_isBoth_2 : decode cX10_isBoth 2 = .ok (.invokevirtual 36, 3) := by decide +kernel
theorem dX10_isBoth_5 : decode cX10_isBoth 5 = .ok (.ifCond .eq 15, 3) := by decide +kernel
theorem dX10_isBoth_20 : decode cX10_isBoth 20 = .ok (.iconst 0, 1) := by decide +kernel
theorem dX10_isBoth_21 : decode cX10_isBoth 21 = .ok (.ireturn, 1) := by decide +kernel
theorem dX10_isOrder_0 : decode cX10_isOrder 0 = .ok (.iload_n 1, 1) := by decide +kernel
theorem dX10_isOrder_1 : decode cX10_isOrder 1 = .ok (.iconst 0, 1) := by decide +kernel
theorem dX10_isOrder_2 : decode cX10_isOrder 2 = .ok (.aload_n 0, 1) := by decide +kernel
theorem dX10_isOrder_3 : decode cX10_isOrder 3 = .ok (.getfield 16, 3) := by decide +kernel
theorem dX10_isOrder_6 : decode cX10_isOrder 6 = .ok (.getfield 98, 3) := by decide +kernel
theorem dX10_isOrder_9 : decode cX10_isOrder 9 = .ok (.iconst 1, 1) := by decide +kernel
theorem dX10_isOrder_10 : decode cX10_isOrder 10 = .ok (.isub, 1) := by decide +kernel
theorem dX10_isOrder_11 : decode cX10_isOrder 11 = .ok (.invokestatic 29, 3) := by decide +kernel
theorem dX10_isOrder_14 : decode cX10_isOrder 14 = .ok (.ireturn, 1) := by decide +kernel
