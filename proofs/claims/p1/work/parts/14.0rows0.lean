theorem dX0_add_0 : decode cX0_add 0 = .ok (.aload_n 0, 1) := by decide +kernel
theorem dX0_add_1 : decode cX0_add 1 = .ok (.getfield 24, 3) := by decide +kernel
theorem dX0_add_4 : decode cX0_add 4 = .ok (.bipush 6, 2) := by decide +kernel
theorem dX0_add_6 : decode cX0_add 6 = .ok (.if_icmp .lt 5, 3) := by decide +kernel
theorem dX0_add_11 : decode cX0_add 11 = .ok (.aload_n 0, 1) := by decide +kernel
theorem dX0_add_12 : decode cX0_add 12 = .ok (.getfield 9, 3) := by decide +kernel
theorem dX0_add_15 : decode cX0_add 15 = .ok (.aload_n 0, 1) := by decide +kernel
theorem dX0_add_16 : decode cX0_add 16 = .ok (.getfield 24, 3) := by decide +kernel
theorem dX0_add_19 : decode cX0_add 19 = .ok (.iload_n 1, 1) := by decide +kernel
theorem dX0_add_20 : decode cX0_add 20 = .ok (.iastore, 1) := by decide +kernel
theorem dX0_add_21 : decode cX0_add 21 = .ok (.aload_n 0, 1) := by decide +kernel
theorem dX0_add_22 : decode cX0_add 22 = .ok (.getfield 15, 3) := by decide +kernel
theorem dX0_add_25 : decode cX0_add 25 = .ok (.aload_n 0, 1) := by decide +kernel
theorem dX0_add_26 : decode cX0_add 26 = .ok (.getfield 24, 3) := by decide +kernel
theorem dX0_add_29 : decode cX0_add 29 = .ok (.iload_n 2, 1) := by decide +kernel
theorem dX0_add_30 : decode cX0_add 30 = .ok (.iastore, 1) := by decide +kernel
theorem dX0_add_31 : decode cX0_add 31 = .ok (.aload_n 0, 1) := by decide +kernel
theorem dX0_add_32 : decode cX0_add 32 = .ok (.getfield 18, 3) := by decide +kernel
theorem dX0_add_35 : decode cX0_add 35 = .ok (.aload_n 0, 1) := by decide +kernel
theorem dX0_add_36 : decode cX0_add 36 = .ok (.getfield 24, 3) := by decide +kernel
theorem dX0_add_39 : decode cX0_add 39 = .ok (.iload_n 3, 1) := by decide +kernel
theorem dX0_add_40 : decode cX0_add 40 = .ok (.iastore, 1) := by decide +kernel
theorem dX0_add_41 : decode cX0_add 41 = .ok (.aload_n 0, 1) := by decide +kernel
theorem dX0_add_42 : decode cX0_add 42 = .ok (.getfield 21, 3) := by decide +kernel
theorem dX0_add_45 : decode cX0_add 45 = .ok (.aload_n 0, 1) := by decide +kernel
theorem dX0_add_46 : decode cX0_add 46 = .ok (.getfield 24, 3) := by decide +kernel
theorem dX0_add_49 : decode cX0_add 49 = .ok (.iconst 0, 1) := by decide +kernel
theorem dX0_add_50 : decode cX0_add 50 = .ok (.iastore, 1) := by decide +kernel
theorem dX0_add_51 : decode cX0_add 51 = .ok (.aload_n 0, 1) := by decide +kernel
theorem dX0_add_52 : decode cX0_add 52 = .ok (.dup, 1) := by decide +kernel
theorem dX0_add_53 : decode cX0_add 53 = .ok (.getfield 24, 3) := by decide +kernel
theorem dX0_add_56 : decode cX0_add 56 = .ok (.iconst 1, 1) := by decide +kernel
theorem dX0_add_57 : decode cX0_add 57 = .ok (.iadd, 1) := by decide +kernel
theorem dX0_add_58 : decode cX0_add 58 = .ok (.putfield 24, 3) := by decide +kernel
theorem dX0_add_61 : decode cX0_add 61 = .ok (.aload_n 0, 1) := by decide +kernel
theorem dX0_add_62 : decode cX0_add 62 = .ok (.getfield 24, 3) := by decide +kernel
theorem dX0_add_65 : decode cX0_add 65 = .ok (.iconst 1, 1) := by decide +kernel
theorem dX0_add_66 : decode cX0_add 66 = .ok (.isub, 1) := by decide +kernel
theorem dX0_add_67 : decode cX0_add 67 = .ok (.ireturn, 1) := by decide +kernel
theorem dX5_add_0 : decode cX5_add 0 = .ok (.aload_n 0, 1) := by decide +kernel
theorem dX5_add_1 : decode cX5_add 1 = .ok (.getfield 18, 3) := by decide +kernel
theorem dX5_add_4 : decode cX5_add 4 = .ok (.iconst 5, 1) := by decide +kernel
theorem dX5_add_5 : decode cX5_add 5 = .ok (.if_icmp .lt 5, 3) := by decide +kernel
theorem dX5_add_10 : decode cX5_add 10 = .ok (.aload_n 0, 1) := by decide +kernel
theorem dX5_add_11 : decode cX5_add 11 = .ok (.getfield 9, 3) := by decide +kernel
theorem dX5_add_14 : decode cX5_add 14 = .ok (.aload_n 0, 1) := by decide +kernel
theorem dX5_add_15 : decode cX5_add 15 = .ok (.getfield 18, 3) := by decide +kernel
theorem dX5_add_18 : decode cX5_add 18 = .ok (.iload_n 1, 1) := by decide +kernel
theorem dX5_add_19 : decode cX5_add 19 = .ok (.iastore, 1) := by decide +kernel
theorem dX5_add_20 : decode cX5_add 20 = .ok (.aload_n 0, 1) := by decide +kernel
theorem dX5_add_21 : decode cX5_add 21 = .ok (.dup, 1) := by decide +kernel
theorem dX5_add_22 : decode cX5_add 22 = .ok (.getfield 18, 3) := by decide +kernel
theorem dX5_add_25 : decode cX5_add 25 = .ok (.iconst 1, 1) := by decide +kernel
theorem dX5_add_26 : decode cX5_add 26 = .ok (.iadd, 1) := by decide +kernel
theorem dX5_add_27 : decode cX5_add 27 = .ok (.putfield 18, 3) := by decide +kernel
theorem dX5_add_30 : decode cX5_add 30 = .ok (.aload_n 0, 1) := by decide +kernel
theorem dX5_add_31 : decode cX5_add 31 = .ok (.getfield 18, 3) := by decide +kernel
theorem dX5_add_34 : decode cX5_add 34 = .ok (.iconst 1, 1) := by decide +kernel
theorem dX5_add_35 : decode cX5_add 35 = .ok (.isub, 1) := by decide +kernel
theorem dX5_add_36 : decode cX5_add 36 = .ok (.ireturn, 1) := by decide +kernel
theorem dX8_addItem_0 : decode cX8_addItem 0 = .ok (.iload_n 1, 1) := by decide +kernel
theorem dX8_addItem_1 : decode cX8_addItem 1 = .ok (.iconst 1, 1) := by decide +kernel
theorem dX8_addItem_2 : decode cX8_addItem 2 = .ok (.bipush 99, 2) := by decide +kernel
theorem dX8_addItem_4 : decode cX8_addItem 4 = .ok (.invokestatic 26, 3) := by decide +kernel
theorem dX8_addItem_7 : decode cX8_addItem 7 = .ok (.iload_n 2, 1) := by decide +kernel
theorem dX8_addItem_8 : decode cX8_addItem 8 = .ok (.iconst 1, 1) := by decide +kernel
theorem dX8_addItem_9 : decode cX8_addItem 9 = .ok (.bipush 99, 2) := by decide +kernel
theorem dX8_addItem_11 : decode cX8_addItem 11 = .ok (.invokestatic 26, 3) := by decide +kernel
theorem dX8_addItem_14 : decode cX8_addItem 14 = .ok (.iload_n 3, 1) := by decide +kernel
theorem dX8_addItem_15 : decode cX8_addItem 15 = .ok (.iconst 1, 1) := by decide +kernel
theorem dX8_addItem_16 : decode cX8_addItem 16 = .ok (.bipush 20, 2) := by decide +kernel
theorem dX8_addItem_18 : decode cX8_addItem 18 = .ok (.invokestatic 26, 3) := by decide +kernel
theorem dX8_addItem_21 : decode cX8_addItem 21 = .ok (.aload_n 0, 1) := by decide +kernel
theorem dX8_addItem_22 : decode cX8_addItem 22 = .ok (.getfield 10, 3) := by decide +kernel
theorem dX8_addItem_25 : decode cX8_addItem 25 = .ok (.getfield 30, 3) := by decide +kernel
theorem dX8_addItem_28 : decode cX8_addItem 28 = .ok (.getfield 34, 3) := by decide +kernel
theorem dX8_addItem_31 : decode cX8_addItem 31 = .ok (.bipush 6, 2) := by decide +kernel
theorem dX8_addItem_33 : decode cX8_addItem 33 = .ok (.if_icmp .ge 7, 3) := by decide +kernel
theorem dX8_addItem_36 : decode cX8_addItem 36 = .ok (.iconst 1, 1) := by decide +kernel
theorem dX8_addItem_37 : decode cX8_addItem 37 = .ok (.goto 4, 3) := by decide +kernel
theorem dX8_addItem_41 : decode cX8_addItem 41 = .ok (.invokestatic 40, 3) := by decide +kernel
theorem dX8_addItem_44 : decode cX8_addItem 44 = .ok (.aload_n 0, 1) := by decide +kernel
theorem dX8_addItem_45 : decode cX8_addItem 45 = .ok (.getfield 10, 3) := by decide +kernel
theorem dX8_addItem_48 : decode cX8_addItem 48 = .ok (.getfield 30, 3) := by decide +kernel
theorem dX8_addItem_51 : decode cX8_addItem 51 = .ok (.iload_n 1, 1) := by decide +kernel
theorem dX8_addItem_52 : decode cX8_addItem 52 = .ok (.iload_n 2, 1) := by decide +kernel
theorem dX8_addItem_53 : decode cX8_addItem 53 = .ok (.iload_n 3, 1) := by decide +kernel
theorem dX8_addItem_54 : decode cX8_addItem 54 = .ok (.invokevirtual 44, 3) := by decide +kernel
theorem dX8_addItem_57 : decode cX8_addItem 57 = .ok (.ireturn, 1) := by decide +kernel
theorem dX8_addSite_0 : decode cX8_addSite 0 = .ok (.iload_n 1, 1) := by decide +kernel
theorem dX8_addSite_1 : decode cX8_addSite 1 = .ok (.iconst 1, 1) := by decide +kernel
theorem dX8_addSite_2 : decode cX8_addSite 2 = .ok (.sipush 9999, 3) := by decide +kernel
theorem dX8_addSite_5 : decode cX8_addSite 5 = .ok (.invokestatic 26, 3) := by decide +kernel
theorem dX8_addSite_8 : decode cX8_addSite 8 = .ok (.aload_n 0, 1) := by decide +kernel
theorem dX8_addSite_9 : decode cX8_addSite 9 = .ok (.getfield 10, 3) := by decide +kernel
theorem dX8_addSite_12 : decode cX8_addSite 12 = .ok (.getfield 48, 3) := by decide +kernel
theorem dX8_addSite_15 : decode cX8_addSite 15 = .ok (.getfield 52, 3) := by decide +kernel
theorem dX8_addSite_18 : decode cX8_addSite 18 = .ok (.iconst 5, 1) := by decide +kernel
theorem dX8_addSite_19 : decode cX8_addSite 19 = .ok (.if_icmp .ge 7, 3) := by decide +kernel
theorem dX8_addSite_22 : decode cX8_addSite 22 = .ok (.iconst 1, 1) := by decide +kernel
theorem dX8_addSite_23 : decode cX8_addSite 23 = .ok (.goto 4, 3) := by decide +kernel
theorem dX8_addSite_27 : decode cX8_addSite 27 = .ok (.invokestatic 40, 3) := by decide +kernel
theorem dX8_addSite_30 : decode cX8_addSite 30 = .ok (.aload_n 0, 1) := by decide +kernel
theorem dX8_addSite_31 : decode cX8_addSite 31 = .ok (.getfield 10, 3) := by decide +kernel
theorem dX8_addSite_34 : decode cX8_addSite 34 = .ok (.getfield 48, 3) := by decide +kernel
theorem dX8_addSite_37 : decode cX8_addSite 37 = .ok (.iload_n 1, 1) := by decide +kernel
theorem dX8_addSite_38 : decode cX8_addSite 38 = .ok (.invokevirtual 55, 3) := by decide +kernel
theorem dX8_addSite_41 : decode cX8_addSite 41 = .ok (.ireturn, 1) := by decide +kernel
theorem dX8_pass_0 : decode cX8_pass 0 = .ok (.iload_n 1, 1) := by decide +kernel
theorem dX8_pass_1 : decode cX8_pass 1 = .ok (.iconst 1, 1) := by decide +kernel
theorem dX8_pass_2 : decode cX8_pass 2 = .ok (.bipush 30, 2) := by decide +kernel
theorem dX8_pass_4 : decode cX8_pass 4 = .ok (.invokestatic 26, 3) := by decide +kernel
theorem dX8_pass_7 : decode cX8_pass 7 = .ok (.aload_n 0, 1) := by decide +kernel
theorem dX8_pass_8 : decode cX8_pass 8 = .ok (.getfield 10, 3) := by decide +kernel
theorem dX8_pass_11 : decode cX8_pass 11 = .ok (.iload_n 1, 1) := by decide +kernel
theorem dX8_pass_12 : decode cX8_pass 12 = .ok (.invokevirtual 172, 3) := by decide +kernel
theorem dX8_pass_15 : decode cX8_pass 15 = .ok (.aload_n 0, 1) := by decide +kernel
theorem dX8_pass_16 : decode cX8_pass 16 = .ok (.getfield 10, 3) := by decide +kernel
theorem dX8_pass_19 : decode cX8_pass 19 = .ok (.getfield 125, 3) := by decide +kernel
theorem dX8_pass_22 : decode cX8_pass 22 = .ok (.ireturn, 1) := by decide +kernel
theorem dX8_account_0 : decode cX8_account 0 = .ok (.iload_n 1, 1) := by decide +kernel
theorem dX8_account_1 : decode cX8_account 1 = .ok (.iconst 0, 1) := by decide +kernel
theorem dX8_account_2 : decode cX8_account 2 = .ok (.iconst 4, 1) := by decide +kernel
theorem dX8_account_3 : decode cX8_account 3 = .ok (.invokestatic 26, 3) := by decide +kernel
theorem dX8_account_6 : decode cX8_account 6 = .ok (.aload_n 0, 1) := by decide +kernel
theorem dX8_account_7 : decode cX8_account 7 = .ok (.getfield 10, 3) := by decide +kernel
theorem dX8_account_10 : decode cX8_account 10 = .ok (.getfield 119, 3) := by decide +kernel
theorem dX8_account_13 : decode cX8_account 13 = .ok (.iload_n 1, 1) := by decide +kernel
theorem dX8_account_14 : decode cX8_account 14 = .ok (.iaload, 1) := by decide +kernel
theorem dX8_account_15 : decode cX8_account 15 = .ok (.ireturn, 1) := by decide +kernel
