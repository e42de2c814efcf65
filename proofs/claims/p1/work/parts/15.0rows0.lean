theorem dL_addItem_0 : decode cL_addItem 0 = .ok (.aload 4, 2) := by decide +kernel
theorem dL_addItem_2 : decode cL_addItem 2 = .ok (.iconst 0, 1) := by decide +kernel
theorem dL_addItem_3 : decode cL_addItem 3 = .ok (.aload_n 0, 1) := by decide +kernel
theorem dL_addItem_4 : decode cL_addItem 4 = .ok (.iload_n 1, 1) := by decide +kernel
theorem dL_addItem_5 : decode cL_addItem 5 = .ok (.iload_n 2, 1) := by decide +kernel
theorem dL_addItem_6 : decode cL_addItem 6 = .ok (.iload_n 3, 1) := by decide +kernel
theorem dL_addItem_7 : decode cL_addItem 7 = .ok (.invokevirtual 7, 3) := by decide +kernel
theorem dL_addItem_10 : decode cL_addItem 10 = .ok (.i2l, 1) := by decide +kernel
theorem dL_addItem_11 : decode cL_addItem 11 = .ok (.lastore, 1) := by decide +kernel
theorem dL_addItem_12 : decode cL_addItem 12 = .ok (.goto 11, 3) := by decide +kernel
theorem dL_addItem_15 : decode cL_addItem 15 = .ok (.astore 5, 2) := by decide +kernel
theorem dL_addItem_17 : decode cL_addItem 17 = .ok (.iconst 1, 1) := by decide +kernel
theorem dL_addItem_18 : decode cL_addItem 18 = .ok (.ireturn, 1) := by decide +kernel
theorem dL_addItem_23 : decode cL_addItem 23 = .ok (.iconst 0, 1) := by decide +kernel
theorem dL_addItem_24 : decode cL_addItem 24 = .ok (.ireturn, 1) := by decide +kernel
theorem dL_addSite_0 : decode cL_addSite 0 = .ok (.aload_n 2, 1) := by decide +kernel
theorem dL_addSite_1 : decode cL_addSite 1 = .ok (.iconst 0, 1) := by decide +kernel
theorem dL_addSite_2 : decode cL_addSite 2 = .ok (.aload_n 0, 1) := by decide +kernel
theorem dL_addSite_3 : decode cL_addSite 3 = .ok (.iload_n 1, 1) := by decide +kernel
theorem dL_addSite_4 : decode cL_addSite 4 = .ok (.invokevirtual 17, 3) := by decide +kernel
theorem dL_addSite_7 : decode cL_addSite 7 = .ok (.i2l, 1) := by decide +kernel
theorem dL_addSite_8 : decode cL_addSite 8 = .ok (.lastore, 1) := by decide +kernel
theorem dL_addSite_9 : decode cL_addSite 9 = .ok (.goto 9, 3) := by decide +kernel
theorem dL_addSite_12 : decode cL_addSite 12 = .ok (.astore_n 3, 1) := by decide +kernel
theorem dL_addSite_13 : decode cL_addSite 13 = .ok (.iconst 1, 1) := by decide +kernel
theorem dL_addSite_14 : decode cL_addSite 14 = .ok (.ireturn, 1) := by decide +kernel
theorem dL_addSite_18 : decode cL_addSite 18 = .ok (.iconst 0, 1) := by decide +kernel
theorem dL_addSite_19 : decode cL_addSite 19 = .ok (.ireturn, 1) := by decide +kernel
theorem dL_pass_0 : decode cL_pass 0 = .ok (.aload_n 2, 1) := by decide +kernel
theorem dL_pass_1 : decode cL_pass 1 = .ok (.iconst 0, 1) := by decide +kernel
theorem dL_pass_2 : decode cL_pass 2 = .ok (.aload_n 0, 1) := by decide +kernel
theorem dL_pass_3 : decode cL_pass 3 = .ok (.iload_n 1, 1) := by decide +kernel
theorem dL_pass_4 : decode cL_pass 4 = .ok (.invokevirtual 44, 3) := by decide +kernel
theorem dL_pass_7 : decode cL_pass 7 = .ok (.i2l, 1) := by decide +kernel
theorem dL_pass_8 : decode cL_pass 8 = .ok (.lastore, 1) := by decide +kernel
theorem dL_pass_9 : decode cL_pass 9 = .ok (.goto 6, 3) := by decide +kernel
theorem dL_pass_12 : decode cL_pass 12 = .ok (.astore_n 3, 1) := by decide +kernel
theorem dL_pass_13 : decode cL_pass 13 = .ok (.iconst 1, 1) := by decide +kernel
theorem dL_pass_14 : decode cL_pass 14 = .ok (.ireturn, 1) := by decide +kernel
theorem dL_pass_15 : decode cL_pass 15 = .ok (.iconst 0, 1) := by decide +kernel
theorem dL_pass_16 : decode cL_pass 16 = .ok (.ireturn, 1) := by decide +kernel
theorem dL_account_0 : decode cL_account 0 = .ok (.aload_n 2, 1) := by decide +kernel
theorem dL_account_1 : decode cL_account 1 = .ok (.iconst 0, 1) := by decide +kernel
theorem dL_account_2 : decode cL_account 2 = .ok (.aload_n 0, 1) := by decide +kernel
theorem dL_account_3 : decode cL_account 3 = .ok (.iload_n 1, 1) := by decide +kernel
theorem dL_account_4 : decode cL_account 4 = .ok (.invokevirtual 95, 3) := by decide +kernel
theorem dL_account_7 : decode cL_account 7 = .ok (.i2l, 1) := by decide +kernel
theorem dL_account_8 : decode cL_account 8 = .ok (.lastore, 1) := by decide +kernel
theorem dL_account_9 : decode cL_account 9 = .ok (.goto 6, 3) := by decide +kernel
theorem dL_account_12 : decode cL_account 12 = .ok (.astore_n 3, 1) := by decide +kernel
theorem dL_account_13 : decode cL_account 13 = .ok (.iconst 1, 1) := by decide +kernel
theorem dL_account_14 : decode cL_account 14 = .ok (.ireturn, 1) := by decide +kernel
theorem dL_account_15 : decode cL_account 15 = .ok (.iconst 0, 1) := by decide +kernel
theorem dL_account_16 : decode cL_account 16 = .ok (.ireturn, 1) := by decide +kernel
