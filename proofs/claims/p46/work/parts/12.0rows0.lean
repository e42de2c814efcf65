theorem dX0_add_0 : decode cX0_add 0 = .ok (.aload_n 0, 1) := by decide +kernel
theorem dX0_add_1 : decode cX0_add 1 = .ok (.getfield 24, 3) := by decide +kernel
theorem dX0_add_4 : decode cX0_add 4 = .ok (.bipush 6, 2) := by decide +kernel
theorem dX0_add_6 : decode cX0_add 6 = .ok (.if_icmp .lt 5, 3) := by decide +kernel
theorem dX0_add_9 : decode cX0_add 9 = .ok (.iconst (-1), 1) := by decide +kernel
theorem dX0_add_10 : decode cX0_add 10 = .ok (.ireturn, 1) := by decide +kernel
theorem dX0_add_11 : decode cX0_add 11 = .ok (.aload_n 0, 1) := by decide +kernel
theorem dX0_add_12 : decode cX0_add 12 = .ok (.getfield 9, 3) := by decide +kernel
theorem dX0_add_15 : decode cX0_add 15 = .ok (.aload_n 0, 1) := by decide +kernel
theorem dX0_add_16 : decode cX0_add 16 = .ok (.getfield 24, 3) := by decide +kernel
theorem dX0_add_19 : decode cX0_add 19 = .ok (.iload_n 1, 1) := by decide +kernel
theorem dX0_add_20 : decode cX0_add 20 = .ok (.iastore, 1) := by decide +kernel
theorem dX0_add_21 : decode cX0_add 21 = .ok (.aload_n 0, 1) := by decide +kernel
theorem dX0_add_22 : decode cX0_add 22 = .ok (.getfield 15, 3) := by decide +kernel
theorem dX0_add_25 : decode cX0_add 25 = .ok (.aload_n 0, 1) := by decide +kernel
theorem dX0_add_26 : decode cX0_add 26 = .ok (.getfield 24, 3) := by decide +kernel
theorem dX0_add_29 : decode cX0_add 29 = .ok (.iload_n 2, 1) := by decide +kernel
theorem dX0_add_30 : decode cX0_add 30 = .ok (.iastore, 1) := by decide +kernel
theorem dX0_add_31 : decode cX0_add 31 = .ok (.aload_n 0, 1) := by decide +kernel
theorem dX0_add_32 : decode cX0_add 32 = .ok (.getfield 18, 3) := by decide +kernel
theorem dX0_add_35 : decode cX0_add 35 = .ok (.aload_n 0, 1) := by decide +kernel
theorem dX0_add_36 : decode cX0_add 36 = .ok (.getfield 24, 3) := by decide +kernel
theorem dX0_add_39 : decode cX0_add 39 = .ok (.iload_n 3, 1) := by decide +kernel
theorem dX0_add_40 : decode cX0_add 40 = .ok (.iastore, 1) := by decide +kernel
theorem dX0_add_41 : decode cX0_add 41 = .ok (.aload_n 0, 1) := by decide +kernel
theorem dX0_add_42 : decode cX0_add 42 = .ok (.getfield 21, 3) := by decide +kernel
theorem dX0_add_45 : decode cX0_add 45 = .ok (.aload_n 0, 1) := by decide +kernel
theorem dX0_add_46 : decode cX0_add 46 = .ok (.getfield 24, 3) := by decide +kernel
theorem dX0_add_49 : decode cX0_add 49 = .ok (.iconst 0, 1) := by decide +kernel
theorem dX0_add_50 : decode cX0_add 50 = .ok (.iastore, 1) := by decide +kernel
theorem dX0_add_51 : decode cX0_add 51 = .ok (.aload_n 0, 1) := by decide +kernel
theorem dX0_add_52 : decode cX0_add 52 = .ok (.dup, 1) := by decide +kernel
theorem dX0_add_53 : decode cX0_add 53 = .ok (.getfield 24, 3) := by decide +kernel
theorem dX0_add_56 : decode cX0_add 56 = .ok (.iconst 1, 1) := by decide +kernel
theorem dX0_add_57 : decode cX0_add 57 = .ok (.iadd, 1) := by decide +kernel
theorem dX0_add_58 : decode cX0_add 58 = .ok (.putfield 24, 3) := by decide +kernel
theorem dX0_add_61 : decode cX0_add 61 = .ok (.aload_n 0, 1) := by decide +kernel
theorem dX0_add_62 : decode cX0_add 62 = .ok (.getfield 24, 3) := by decide +kernel
theorem dX0_add_65 : decode cX0_add 65 = .ok (.iconst 1, 1) := by decide +kernel
theorem dX0_add_66 : decode cX0_add 66 = .ok (.isub, 1) := by decide +kernel
theorem dX0_add_67 : decode cX0_add 67 = .ok (.ireturn, 1) := by decide +kernel
theorem dX2_add_0 : decode cX2_add 0 = .ok (.aload_n 0, 1) := by decide +kernel
theorem dX2_add_1 : decode cX2_add 1 = .ok (.getfield 42, 3) := by decide +kernel
theorem dX2_add_4 : decode cX2_add 4 = .ok (.bipush 60, 2) := by decide +kernel
theorem dX2_add_6 : decode cX2_add 6 = .ok (.if_icmp .lt 5, 3) := by decide +kernel
theorem dX2_add_9 : decode cX2_add 9 = .ok (.iconst (-1), 1) := by decide +kernel
theorem dX2_add_10 : decode cX2_add 10 = .ok (.ireturn, 1) := by decide +kernel
theorem dX2_add_11 : decode cX2_add 11 = .ok (.aload_n 0, 1) := by decide +kernel
theorem dX2_add_12 : decode cX2_add 12 = .ok (.getfield 9, 3) := by decide +kernel
theorem dX2_add_15 : decode cX2_add 15 = .ok (.aload_n 0, 1) := by decide +kernel
theorem dX2_add_16 : decode cX2_add 16 = .ok (.getfield 42, 3) := by decide +kernel
theorem dX2_add_19 : decode cX2_add 19 = .ok (.iload_n 1, 1) := by decide +kernel
theorem dX2_add_20 : decode cX2_add 20 = .ok (.iastore, 1) := by decide +kernel
theorem dX2_add_21 : decode cX2_add 21 = .ok (.aload_n 0, 1) := by decide +kernel
theorem dX2_add_22 : decode cX2_add 22 = .ok (.getfield 15, 3) := by decide +kernel
theorem dX2_add_25 : decode cX2_add 25 = .ok (.aload_n 0, 1) := by decide +kernel
theorem dX2_add_26 : decode cX2_add 26 = .ok (.getfield 42, 3) := by decide +kernel
theorem dX2_add_29 : decode cX2_add 29 = .ok (.iload_n 2, 1) := by decide +kernel
theorem dX2_add_30 : decode cX2_add 30 = .ok (.iastore, 1) := by decide +kernel
theorem dX2_add_31 : decode cX2_add 31 = .ok (.aload_n 0, 1) := by decide +kernel
theorem dX2_add_32 : decode cX2_add 32 = .ok (.getfield 18, 3) := by decide +kernel
theorem dX2_add_35 : decode cX2_add 35 = .ok (.aload_n 0, 1) := by decide +kernel
theorem dX2_add_36 : decode cX2_add 36 = .ok (.getfield 42, 3) := by decide +kernel
theorem dX2_add_39 : decode cX2_add 39 = .ok (.iload_n 3, 1) := by decide +kernel
theorem dX2_add_40 : decode cX2_add 40 = .ok (.iastore, 1) := by decide +kernel
theorem dX2_add_41 : decode cX2_add 41 = .ok (.aload_n 0, 1) := by decide +kernel
theorem dX2_add_42 : decode cX2_add 42 = .ok (.getfield 21, 3) := by decide +kernel
theorem dX2_add_45 : decode cX2_add 45 = .ok (.aload_n 0, 1) := by decide +kernel
theorem dX2_add_46 : decode cX2_add 46 = .ok (.getfield 42, 3) := by decide +kernel
theorem dX2_add_49 : decode cX2_add 49 = .ok (.iconst 0, 1) := by decide +kernel
theorem dX2_add_50 : decode cX2_add 50 = .ok (.iastore, 1) := by decide +kernel
theorem dX2_add_51 : decode cX2_add 51 = .ok (.aload_n 0, 1) := by decide +kernel
theorem dX2_add_52 : decode cX2_add 52 = .ok (.getfield 24, 3) := by decide +kernel
theorem dX2_add_55 : decode cX2_add 55 = .ok (.aload_n 0, 1) := by decide +kernel
theorem dX2_add_56 : decode cX2_add 56 = .ok (.getfield 42, 3) := by decide +kernel
theorem dX2_add_59 : decode cX2_add 59 = .ok (.iload 4, 2) := by decide +kernel
theorem dX2_add_61 : decode cX2_add 61 = .ok (.iastore, 1) := by decide +kernel
theorem dX2_add_62 : decode cX2_add 62 = .ok (.aload_n 0, 1) := by decide +kernel
theorem dX2_add_63 : decode cX2_add 63 = .ok (.getfield 27, 3) := by decide +kernel
theorem dX2_add_66 : decode cX2_add 66 = .ok (.aload_n 0, 1) := by decide +kernel
theorem dX2_add_67 : decode cX2_add 67 = .ok (.getfield 42, 3) := by decide +kernel
theorem dX2_add_70 : decode cX2_add 70 = .ok (.iload 5, 2) := by decide +kernel
theorem dX2_add_72 : decode cX2_add 72 = .ok (.iastore, 1) := by decide +kernel
theorem dX2_add_73 : decode cX2_add 73 = .ok (.aload_n 0, 1) := by decide +kernel
theorem dX2_add_74 : decode cX2_add 74 = .ok (.getfield 30, 3) := by decide +kernel
theorem dX2_add_77 : decode cX2_add 77 = .ok (.aload_n 0, 1) := by decide +kernel
theorem dX2_add_78 : decode cX2_add 78 = .ok (.getfield 42, 3) := by decide +kernel
theorem dX2_add_81 : decode cX2_add 81 = .ok (.iload 6, 2) := by decide +kernel
theorem dX2_add_83 : decode cX2_add 83 = .ok (.iastore, 1) := by decide +kernel
theorem dX2_add_84 : decode cX2_add 84 = .ok (.aload_n 0, 1) := by decide +kernel
theorem dX2_add_85 : decode cX2_add 85 = .ok (.getfield 33, 3) := by decide +kernel
theorem dX2_add_88 : decode cX2_add 88 = .ok (.aload_n 0, 1) := by decide +kernel
theorem dX2_add_89 : decode cX2_add 89 = .ok (.getfield 42, 3) := by decide +kernel
theorem dX2_add_92 : decode cX2_add 92 = .ok (.iconst 0, 1) := by decide +kernel
theorem dX2_add_93 : decode cX2_add 93 = .ok (.iastore, 1) := by decide +kernel
theorem dX2_add_94 : decode cX2_add 94 = .ok (.aload_n 0, 1) := by decide +kernel
theorem dX2_add_95 : decode cX2_add 95 = .ok (.getfield 36, 3) := by decide +kernel
theorem dX2_add_98 : decode cX2_add 98 = .ok (.aload_n 0, 1) := by decide +kernel
theorem dX2_add_99 : decode cX2_add 99 = .ok (.getfield 42, 3) := by decide +kernel
theorem dX2_add_102 : decode cX2_add 102 = .ok (.iconst (-1), 1) := by decide +kernel
theorem dX2_add_103 : decode cX2_add 103 = .ok (.iastore, 1) := by decide +kernel
theorem dX2_add_104 : decode cX2_add 104 = .ok (.aload_n 0, 1) := by decide +kernel
theorem dX2_add_105 : decode cX2_add 105 = .ok (.dup, 1) := by decide +kernel
theorem dX2_add_106 : decode cX2_add 106 = .ok (.getfield 42, 3) := by decide +kernel
theorem dX2_add_109 : decode cX2_add 109 = .ok (.iconst 1, 1) := by decide +kernel
theorem dX2_add_110 : decode cX2_add 110 = .ok (.iadd, 1) := by decide +kernel
theorem dX2_add_111 : decode cX2_add 111 = .ok (.putfield 42, 3) := by decide +kernel
theorem dX2_add_114 : decode cX2_add 114 = .ok (.aload_n 0, 1) := by decide +kernel
theorem dX2_add_115 : decode cX2_add 115 = .ok (.getfield 42, 3) := by decide +kernel
theorem dX2_add_118 : decode cX2_add 118 = .ok (.iconst 1, 1) := by decide +kernel
theorem dX2_add_119 : decode cX2_add 119 = .ok (.isub, 1) := by decide +kernel
theorem dX2_add_120 : decode cX2_add 120 = .ok (.ireturn, 1) := by decide +kernel
theorem dX4_dropFilledFrom_0 : decode cX4_dropFilledFrom 0 = .ok (.iconst 0, 1) := by decide +kernel
theorem dX4_dropFilledFrom_1 : decode cX4_dropFilledFrom 1 = .ok (.istore_n 3, 1) := by decide +kernel
theorem dX4_dropFilledFrom_2 : decode cX4_dropFilledFrom 2 = .ok (.iload_n 3, 1) := by decide +kernel
theorem dX4_dropFilledFrom_3 : decode cX4_dropFilledFrom 3 = .ok (.bipush 6, 2) := by decide +kernel
theorem dX4_dropFilledFrom_5 : decode cX4_dropFilledFrom 5 = .ok (.if_icmp .ge 34, 3) := by decide +kernel
theorem dX4_dropFilledFrom_8 : decode cX4_dropFilledFrom 8 = .ok (.aload_n 0, 1) := by decide +kernel
theorem dX4_dropFilledFrom_9 : decode cX4_dropFilledFrom 9 = .ok (.getfield 22, 3) := by decide +kernel
theorem dX4_dropFilledFrom_12 : decode cX4_dropFilledFrom 12 = .ok (.iload_n 3, 1) := by decide +kernel
theorem dX4_dropFilledFrom_13 : decode cX4_dropFilledFrom 13 = .ok (.iload_n 2, 1) := by decide +kernel
theorem dX4_dropFilledFrom_14 : decode cX4_dropFilledFrom 14 = .ok (.invokestatic 28, 3) := by decide +kernel
theorem dX4_dropFilledFrom_17 : decode cX4_dropFilledFrom 17 = .ok (.iaload, 1) := by decide +kernel
theorem dX4_dropFilledFrom_18 : decode cX4_dropFilledFrom 18 = .ok (.iload_n 1, 1) := by decide +kernel
theorem dX4_dropFilledFrom_19 : decode cX4_dropFilledFrom 19 = .ok (.if_icmp .ne 14, 3) := by decide +kernel
theorem dX4_dropFilledFrom_22 : decode cX4_dropFilledFrom 22 = .ok (.aload_n 0, 1) := by decide +kernel
theorem dX4_dropFilledFrom_23 : decode cX4_dropFilledFrom 23 = .ok (.getfield 11, 3) := by decide +kernel
theorem dX4_dropFilledFrom_26 : decode cX4_dropFilledFrom 26 = .ok (.iload_n 3, 1) := by decide +kernel
theorem dX4_dropFilledFrom_27 : decode cX4_dropFilledFrom 27 = .ok (.iload_n 2, 1) := by decide +kernel
theorem dX4_dropFilledFrom_28 : decode cX4_dropFilledFrom 28 = .ok (.invokestatic 28, 3) := by decide +kernel
theorem dX4_dropFilledFrom_31 : decode cX4_dropFilledFrom 31 = .ok (.iconst 0, 1) := by decide +kernel
theorem dX4_dropFilledFrom_32 : decode cX4_dropFilledFrom 32 = .ok (.bastore, 1) := by decide +kernel
theorem dX4_dropFilledFrom_33 : decode cX4_dropFilledFrom 33 = .ok (.iinc 3 1, 3) := by decide +kernel
theorem dX4_dropFilledFrom_36 : decode cX4_dropFilledFrom 36 = .ok (.goto (-34), 3) := by decide +kernel
theorem dX4_dropFilledFrom_39 : decode cX4_dropFilledFrom 39 = .ok (.return_, 1) := by decide +kernel
theorem dX5_add_0 : decode cX5_add 0 = .ok (.aload_n 0, 1) := by decide +kernel
theorem dX5_add_1 : decode cX5_add 1 = .ok (.getfield 18, 3) := by decide +kernel
theorem dX5_add_4 : decode cX5_add 4 = .ok (.iconst 5, 1) := by decide +kernel
theorem dX5_add_5 : decode cX5_add 5 = .ok (.if_icmp .lt 5, 3) := by decide +kernel
theorem dX5_add_8 : decode cX5_add 8 = .ok (.iconst (-1), 1) := by decide +kernel
theorem dX5_add_9 : decode cX5_add 9 = .ok (.ireturn, 1) := by decide +kernel
theorem dX5_add_10 : decode cX5_add 10 = .ok (.aload_n 0, 1) := by decide +kernel
theorem dX5_add_11 : decode cX5_add 11 = .ok (.getfield 9, 3) := by decide +kernel
theorem dX5_add_14 : decode cX5_add 14 = .ok (.aload_n 0, 1) := by decide +kernel
theorem dX5_add_15 : decode cX5_add 15 = .ok (.getfield 18, 3) := by decide +kernel
theorem dX5_add_18 : decode cX5_add 18 = .ok (.iload_n 1, 1) := by decide +kernel
theorem dX5_add_19 : decode cX5_add 19 = .ok (.iastore, 1) := by decide +kernel
theorem dX5_add_20 : decode cX5_add 20 = .ok (.aload_n 0, 1) := by decide +kernel
theorem dX5_add_21 : decode cX5_add 21 = .ok (.dup, 1) := by decide +kernel
theorem dX5_add_22 : decode cX5_add 22 = .ok (.getfield 18, 3) := by decide +kernel
theorem dX5_add_25 : decode cX5_add 25 = .ok (.iconst 1, 1) := by decide +kernel
theorem dX5_add_26 : decode cX5_add 26 = .ok (.iadd, 1) := by decide +kernel
theorem dX5_add_27 : decode cX5_add 27 = .ok (.putfield 18, 3) := by decide +kernel
theorem dX5_add_30 : decode cX5_add 30 = .ok (.aload_n 0, 1) := by decide +kernel
theorem dX5_add_31 : decode cX5_add 31 = .ok (.getfield 18, 3) := by decide +kernel
theorem dX5_add_34 : decode cX5_add 34 = .ok (.iconst 1, 1) := by decide +kernel
theorem dX5_add_35 : decode cX5_add 35 = .ok (.isub, 1) := by decide +kernel
theorem dX5_add_36 : decode cX5_add 36 = .ok (.ireturn, 1) := by decide +kernel
theorem dX8_addItem_0 : decode cX8_addItem 0 = .ok (.iload_n 1, 1) := by decide +kernel
theorem dX8_addItem_1 : decode cX8_addItem 1 = .ok (.iconst 1, 1) := by decide +kernel
theorem dX8_addItem_2 : decode cX8_addItem 2 = .ok (.bipush 99, 2) := by decide +kernel
theorem dX8_addItem_4 : decode cX8_addItem 4 = .ok (.invokestatic 26, 3) := by decide +kernel
theorem dX8_addItem_7 : decode cX8_addItem 7 = .ok (.iload_n 2, 1) := by decide +kernel
theorem dX8_addItem_8 : decode cX8_addItem 8 = .ok (.iconst 1, 1) := by decide +kernel
theorem dX8_addItem_9 : decode cX8_addItem 9 = .ok (.bipush 99, 2) := by decide +kernel
theorem dX8_addItem_11 : decode cX8_addItem 11 = .ok (.invokestatic 26, 3) := by decide +kernel
theorem dX8_addItem_14 : decode cX8_addItem 14 = .ok (.iload_n 3, 1) := by decide +kernel
theorem dX8_addItem_15 : decode cX8_addItem 15 = .ok (.iconst 1, 1) := by decide +kernel
theorem dX8_addItem_16 : decode cX8_addItem 16 = .ok (.bipush 20, 2) := by decide +kernel
theorem dX8_addItem_18 : decode cX8_addItem 18 = .ok (.invokestatic 26, 3) := by decide +kernel
theorem dX8_addItem_21 : decode cX8_addItem 21 = .ok (.aload_n 0, 1) := by decide +kernel
theorem dX8_addItem_22 : decode cX8_addItem 22 = .ok (.getfield 10, 3) := by decide +kernel
theorem dX8_addItem_25 : decode cX8_addItem 25 = .ok (.getfield 30, 3) := by decide +kernel
theorem dX8_addItem_28 : decode cX8_addItem 28 = .ok (.getfield 34, 3) := by decide +kernel
theorem dX8_addItem_31 : decode cX8_addItem 31 = .ok (.bipush 6, 2) := by decide +kernel
theorem dX8_addItem_33 : decode cX8_addItem 33 = .ok (.if_icmp .ge 7, 3) := by decide +kernel
theorem dX8_addItem_36 : decode cX8_addItem 36 = .ok (.iconst 1, 1) := by decide +kernel
theorem dX8_addItem_37 : decode cX8_addItem 37 = .ok (.goto 4, 3) := by decide +kernel
theorem dX8_addItem_41 : decode cX8_addItem 41 = .ok (.invokestatic 40, 3) := by decide +kernel
theorem dX8_addItem_44 : decode cX8_addItem 44 = .ok (.aload_n 0, 1) := by decide +kernel
theorem dX8_addItem_45 : decode cX8_addItem 45 = .ok (.getfield 10, 3) := by decide +kernel
theorem dX8_addItem_48 : decode cX8_addItem 48 = .ok (.getfield 30, 3) := by decide +kernel
theorem dX8_addItem_51 : decode cX8_addItem 51 = .ok (.iload_n 1, 1) := by decide +kernel
theorem dX8_addItem_52 : decode cX8_addItem 52 = .ok (.iload_n 2, 1) := by decide +kernel
theorem dX8_addItem_53 : decode cX8_addItem 53 = .ok (.iload_n 3, 1) := by decide +kernel
theorem dX8_addItem_54 : decode cX8_addItem 54 = .ok (.invokevirtual 44, 3) := by decide +kernel
theorem dX8_addItem_57 : decode cX8_addItem 57 = .ok (.ireturn, 1) := by decide +kernel
theorem dX8_addSite_0 : decode cX8_addSite 0 = .ok (.iload_n 1, 1) := by decide +kernel
theorem dX8_addSite_1 : decode cX8_addSite 1 = .ok (.iconst 1, 1) := by decide +kernel
theorem dX8_addSite_2 : decode cX8_addSite 2 = .ok (.sipush 9999, 3) := by decide +kernel
theorem dX8_addSite_5 : decode cX8_addSite 5 = .ok (.invokestatic 26, 3) := by decide +kernel
theorem dX8_addSite_8 : decode cX8_addSite 8 = .ok (.aload_n 0, 1) := by decide +kernel
theorem dX8_addSite_9 : decode cX8_addSite 9 = .ok (.getfield 10, 3) := by decide +kernel
theorem dX8_addSite_12 : decode cX8_addSite 12 = .ok (.getfield 48, 3) := by decide +kernel
theorem dX8_addSite_15 : decode cX8_addSite 15 = .ok (.getfield 52, 3) := by decide +kernel
theorem dX8_addSite_18 : decode cX8_addSite 18 = .ok (.iconst 5, 1) := by decide +kernel
theorem dX8_addSite_19 : decode cX8_addSite 19 = .ok (.if_icmp .ge 7, 3) := by decide +kernel
theorem dX8_addSite_22 : decode cX8_addSite 22 = .ok (.iconst 1, 1) := by decide +kernel
theorem dX8_addSite_23 : decode cX8_addSite 23 = .ok (.goto 4, 3) := by decide +kernel
theorem dX8_addSite_27 : decode cX8_addSite 27 = .ok (.invokestatic 40, 3) := by decide +kernel
theorem dX8_addSite_30 : decode cX8_addSite 30 = .ok (.aload_n 0, 1) := by decide +kernel
theorem dX8_addSite_31 : decode cX8_addSite 31 = .ok (.getfield 10, 3) := by decide +kernel
theorem dX8_addSite_34 : decode cX8_addSite 34 = .ok (.getfield 48, 3) := by decide +kernel
theorem dX8_addSite_37 : decode cX8_addSite 37 = .ok (.iload_n 1, 1) := by decide +kernel
theorem dX8_addSite_38 : decode cX8_addSite 38 = .ok (.invokevirtual 55, 3) := by decide +kernel
theorem dX8_addSite_41 : decode cX8_addSite 41 = .ok (.ireturn, 1) := by decide +kernel
theorem dX8_setRoute_0 : decode cX8_setRoute 0 = .ok (.aload_n 0, 1) := by decide +kernel
theorem dX8_setRoute_1 : decode cX8_setRoute 1 = .ok (.iload_n 1, 1) := by decide +kernel
theorem dX8_setRoute_2 : decode cX8_setRoute 2 = .ok (.invokevirtual 58, 3) := by decide +kernel
theorem dX8_setRoute_5 : decode cX8_setRoute 5 = .ok (.aload_n 0, 1) := by decide +kernel
theorem dX8_setRoute_6 : decode cX8_setRoute 6 = .ok (.iload_n 2, 1) := by decide +kernel
theorem dX8_setRoute_7 : decode cX8_setRoute 7 = .ok (.invokevirtual 58, 3) := by decide +kernel
theorem dX8_setRoute_10 : decode cX8_setRoute 10 = .ok (.iload_n 1, 1) := by decide +kernel
theorem dX8_setRoute_11 : decode cX8_setRoute 11 = .ok (.iload_n 2, 1) := by decide +kernel
theorem dX8_setRoute_12 : decode cX8_setRoute 12 = .ok (.if_icmp .eq 7, 3) := by decide +kernel
theorem dX8_setRoute_15 : decode cX8_setRoute 15 = .ok (.iconst 1, 1) := by decide +kernel
theorem dX8_setRoute_16 : decode cX8_setRoute 16 = .ok (.goto 4, 3) := by decide +kernel
theorem dX8_setRoute_20 : decode cX8_setRoute 20 = .ok (.invokestatic 62, 3) := by decide +kernel
theorem dX8_setRoute_23 : decode cX8_setRoute 23 = .ok (.iload_n 3, 1) := by decide +kernel
theorem dX8_setRoute_24 : decode cX8_setRoute 24 = .ok (.iconst 0, 1) := by decide +kernel
theorem dX8_setRoute_25 : decode cX8_setRoute 25 = .ok (.bipush 9, 2) := by decide +kernel
theorem dX8_setRoute_27 : decode cX8_setRoute 27 = .ok (.invokestatic 26, 3) := by decide +kernel
theorem dX8_setRoute_30 : decode cX8_setRoute 30 = .ok (.aload_n 0, 1) := by decide +kernel
theorem dX8_setRoute_31 : decode cX8_setRoute 31 = .ok (.getfield 10, 3) := by decide +kernel
theorem dX8_setRoute_34 : decode cX8_setRoute 34 = .ok (.getfield 48, 3) := by decide +kernel
theorem dX8_setRoute_37 : decode cX8_setRoute 37 = .ok (.iload_n 1, 1) := by decide +kernel
theorem dX8_setRoute_38 : decode cX8_setRoute 38 = .ok (.iload_n 2, 1) := by decide +kernel
theorem dX8_setRoute_39 : decode cX8_setRoute 39 = .ok (.invokevirtual 65, 3) := by decide +kernel
theorem dX8_setRoute_42 : decode cX8_setRoute 42 = .ok (.istore 4, 2) := by decide +kernel
theorem dX8_setRoute_44 : decode cX8_setRoute 44 = .ok (.aload_n 0, 1) := by decide +kernel
theorem dX8_setRoute_45 : decode cX8_setRoute 45 = .ok (.getfield 10, 3) := by decide +kernel
theorem dX8_setRoute_48 : decode cX8_setRoute 48 = .ok (.getfield 48, 3) := by decide +kernel
theorem dX8_setRoute_51 : decode cX8_setRoute 51 = .ok (.getfield 69, 3) := by decide +kernel
theorem dX8_setRoute_54 : decode cX8_setRoute 54 = .ok (.iload_n 1, 1) := by decide +kernel
theorem dX8_setRoute_55 : decode cX8_setRoute 55 = .ok (.iload_n 2, 1) := by decide +kernel
theorem dX8_setRoute_56 : decode cX8_setRoute 56 = .ok (.invokestatic 73, 3) := by decide +kernel
theorem dX8_setRoute_59 : decode cX8_setRoute 59 = .ok (.iload_n 3, 1) := by decide +kernel
theorem dX8_setRoute_60 : decode cX8_setRoute 60 = .ok (.iastore, 1) := by decide +kernel
theorem dX8_setRoute_61 : decode cX8_setRoute 61 = .ok (.iload_n 3, 1) := by decide +kernel
theorem dX8_setRoute_62 : decode cX8_setRoute 62 = .ok (.ifCond .ne 15, 3) := by decide +kernel
theorem dX8_setRoute_65 : decode cX8_setRoute 65 = .ok (.aload_n 0, 1) := by decide +kernel
theorem dX8_setRoute_66 : decode cX8_setRoute 66 = .ok (.getfield 10, 3) := by decide +kernel
theorem dX8_setRoute_69 : decode cX8_setRoute 69 = .ok (.getfield 76, 3) := by decide +kernel
theorem dX8_setRoute_72 : decode cX8_setRoute 72 = .ok (.iload_n 1, 1) := by decide +kernel
theorem dX8_setRoute_73 : decode cX8_setRoute 73 = .ok (.iload_n 2, 1) := by decide +kernel
theorem dX8_setRoute_74 : decode cX8_setRoute 74 = .ok (.invokevirtual 80, 3) := by decide +kernel
theorem dX8_setRoute_77 : decode cX8_setRoute 77 = .ok (.iload 4, 2) := by decide +kernel
theorem dX8_setRoute_79 : decode cX8_setRoute 79 = .ok (.ireturn, 1) := by decide +kernel
theorem dX8_setPolicy_0 : decode cX8_setPolicy 0 = .ok (.aload_n 0, 1) := by decide +kernel
theorem dX8_setPolicy_1 : decode cX8_setPolicy 1 = .ok (.iload_n 1, 1) := by decide +kernel
theorem dX8_setPolicy_2 : decode cX8_setPolicy 2 = .ok (.invokevirtual 86, 3) := by decide +kernel
theorem dX8_setPolicy_5 : decode cX8_setPolicy 5 = .ok (.aload_n 0, 1) := by decide +kernel
theorem dX8_setPolicy_6 : decode cX8_setPolicy 6 = .ok (.iload_n 2, 1) := by decide +kernel
theorem dX8_setPolicy_7 : decode cX8_setPolicy 7 = .ok (.invokevirtual 58, 3) := by decide +kernel
theorem dX8_setPolicy_10 : decode cX8_setPolicy 10 = .ok (.iload_n 3, 1) := by decide +kernel
theorem dX8_setPolicy_11 : decode cX8_setPolicy 11 = .ok (.iconst 0, 1) := by decide +kernel
theorem dX8_setPolicy_12 : decode cX8_setPolicy 12 = .ok (.sipush 999, 3) := by decide +kernel
theorem dX8_setPolicy_15 : decode cX8_setPolicy 15 = .ok (.invokestatic 26, 3) := by decide +kernel
theorem dX8_setPolicy_18 : decode cX8_setPolicy 18 = .ok (.iload 4, 2) := by decide +kernel
theorem dX8_setPolicy_20 : decode cX8_setPolicy 20 = .ok (.iload_n 3, 1) := by decide +kernel
theorem dX8_setPolicy_21 : decode cX8_setPolicy 21 = .ok (.sipush 999, 3) := by decide +kernel
theorem dX8_setPolicy_24 : decode cX8_setPolicy 24 = .ok (.invokestatic 26, 3) := by decide +kernel
theorem dX8_setPolicy_27 : decode cX8_setPolicy 27 = .ok (.iload 5, 2) := by decide +kernel
theorem dX8_setPolicy_29 : decode cX8_setPolicy 29 = .ok (.iconst (-1), 1) := by decide +kernel
theorem dX8_setPolicy_30 : decode cX8_setPolicy 30 = .ok (.if_icmp .ne 14, 3) := by decide +kernel
theorem dX8_setPolicy_33 : decode cX8_setPolicy 33 = .ok (.iload 6, 2) := by decide +kernel
theorem dX8_setPolicy_35 : decode cX8_setPolicy 35 = .ok (.iconst 1, 1) := by decide +kernel
theorem dX8_setPolicy_36 : decode cX8_setPolicy 36 = .ok (.bipush 20, 2) := by decide +kernel
theorem dX8_setPolicy_38 : decode cX8_setPolicy 38 = .ok (.invokestatic 26, 3) := by decide +kernel
theorem dX8_setPolicy_41 : decode cX8_setPolicy 41 = .ok (.goto 27, 3) := by decide +kernel
theorem dX8_setPolicy_44 : decode cX8_setPolicy 44 = .ok (.aload_n 0, 1) := by decide +kernel
theorem dX8_setPolicy_45 : decode cX8_setPolicy 45 = .ok (.getfield 10, 3) := by decide +kernel
theorem dX8_setPolicy_48 : decode cX8_setPolicy 48 = .ok (.getfield 48, 3) := by decide +kernel
theorem dX8_setPolicy_51 : decode cX8_setPolicy 51 = .ok (.iload 5, 2) := by decide +kernel
theorem dX8_setPolicy_53 : decode cX8_setPolicy 53 = .ok (.iload_n 2, 1) := by decide +kernel
theorem dX8_setPolicy_54 : decode cX8_setPolicy 54 = .ok (.invokevirtual 65, 3) := by decide +kernel
theorem dX8_setPolicy_57 : decode cX8_setPolicy 57 = .ok (.ifCond .le 7, 3) := by decide +kernel
theorem dX8_setPolicy_60 : decode cX8_setPolicy 60 = .ok (.iconst 1, 1) := by decide +kernel
theorem dX8_setPolicy_61 : decode cX8_setPolicy 61 = .ok (.goto 4, 3) := by decide +kernel
theorem dX8_setPolicy_65 : decode cX8_setPolicy 65 = .ok (.invokestatic 62, 3) := by decide +kernel
theorem dX8_setPolicy_68 : decode cX8_setPolicy 68 = .ok (.aload_n 0, 1) := by decide +kernel
theorem dX8_setPolicy_69 : decode cX8_setPolicy 69 = .ok (.getfield 10, 3) := by decide +kernel
theorem dX8_setPolicy_72 : decode cX8_setPolicy 72 = .ok (.getfield 76, 3) := by decide +kernel
theorem dX8_setPolicy_75 : decode cX8_setPolicy 75 = .ok (.iload_n 1, 1) := by decide +kernel
theorem dX8_setPolicy_76 : decode cX8_setPolicy 76 = .ok (.iload_n 2, 1) := by decide +kernel
theorem dX8_setPolicy_77 : decode cX8_setPolicy 77 = .ok (.invokevirtual 89, 3) := by decide +kernel
theorem dX8_setPolicy_80 : decode cX8_setPolicy 80 = .ok (.istore 7, 2) := by decide +kernel
theorem dX8_setPolicy_82 : decode cX8_setPolicy 82 = .ok (.iload_n 1, 1) := by decide +kernel
theorem dX8_setPolicy_83 : decode cX8_setPolicy 83 = .ok (.iload_n 2, 1) := by decide +kernel
theorem dX8_setPolicy_84 : decode cX8_setPolicy 84 = .ok (.invokestatic 73, 3) := by decide +kernel
theorem dX8_setPolicy_87 : decode cX8_setPolicy 87 = .ok (.istore 8, 2) := by decide +kernel
theorem dX8_setPolicy_89 : decode cX8_setPolicy 89 = .ok (.aload_n 0, 1) := by decide +kernel
theorem dX8_setPolicy_90 : decode cX8_setPolicy 90 = .ok (.getfield 10, 3) := by decide +kernel
theorem dX8_setPolicy_93 : decode cX8_setPolicy 93 = .ok (.getfield 76, 3) := by decide +kernel
theorem dX8_setPolicy_96 : decode cX8_setPolicy 96 = .ok (.getfield 93, 3) := by decide +kernel
theorem dX8_setPolicy_99 : decode cX8_setPolicy 99 = .ok (.iload 8, 2) := by decide +kernel
theorem dX8_setPolicy_101 : decode cX8_setPolicy 101 = .ok (.iconst 1, 1) := by decide +kernel
theorem dX8_setPolicy_102 : decode cX8_setPolicy 102 = .ok (.bastore, 1) := by decide +kernel
theorem dX8_setPolicy_103 : decode cX8_setPolicy 103 = .ok (.aload_n 0, 1) := by decide +kernel
theorem dX8_setPolicy_104 : decode cX8_setPolicy 104 = .ok (.getfield 10, 3) := by decide +kernel
theorem dX8_setPolicy_107 : decode cX8_setPolicy 107 = .ok (.getfield 76, 3) := by decide +kernel
theorem dX8_setPolicy_110 : decode cX8_setPolicy 110 = .ok (.getfield 97, 3) := by decide +kernel
theorem dX8_setPolicy_113 : decode cX8_setPolicy 113 = .ok (.iload 8, 2) := by decide +kernel
theorem dX8_setPolicy_115 : decode cX8_setPolicy 115 = .ok (.iload_n 3, 1) := by decide +kernel
theorem dX8_setPolicy_116 : decode cX8_setPolicy 116 = .ok (.iastore, 1) := by decide +kernel
theorem dX8_setPolicy_117 : decode cX8_setPolicy 117 = .ok (.aload_n 0, 1) := by decide +kernel
theorem dX8_setPolicy_118 : decode cX8_setPolicy 118 = .ok (.getfield 10, 3) := by decide +kernel
theorem dX8_setPolicy_121 : decode cX8_setPolicy 121 = .ok (.getfield 76, 3) := by decide +kernel
theorem dX8_setPolicy_124 : decode cX8_setPolicy 124 = .ok (.getfield 100, 3) := by decide +kernel
theorem dX8_setPolicy_127 : decode cX8_setPolicy 127 = .ok (.iload 8, 2) := by decide +kernel
theorem dX8_setPolicy_129 : decode cX8_setPolicy 129 = .ok (.iload 4, 2) := by decide +kernel
theorem dX8_setPolicy_131 : decode cX8_setPolicy 131 = .ok (.iastore, 1) := by decide +kernel
theorem dX8_setPolicy_132 : decode cX8_setPolicy 132 = .ok (.aload_n 0, 1) := by decide +kernel
theorem dX8_setPolicy_133 : decode cX8_setPolicy 133 = .ok (.getfield 10, 3) := by decide +kernel
theorem dX8_setPolicy_136 : decode cX8_setPolicy 136 = .ok (.getfield 76, 3) := by decide +kernel
theorem dX8_setPolicy_139 : decode cX8_setPolicy 139 = .ok (.getfield 103, 3) := by decide +kernel
theorem dX8_setPolicy_142 : decode cX8_setPolicy 142 = .ok (.iload 8, 2) := by decide +kernel
theorem dX8_setPolicy_144 : decode cX8_setPolicy 144 = .ok (.iload 5, 2) := by decide +kernel
theorem dX8_setPolicy_146 : decode cX8_setPolicy 146 = .ok (.iastore, 1) := by decide +kernel
theorem dX8_setPolicy_147 : decode cX8_setPolicy 147 = .ok (.aload_n 0, 1) := by decide +kernel
theorem dX8_setPolicy_148 : decode cX8_setPolicy 148 = .ok (.getfield 10, 3) := by decide +kernel
theorem dX8_setPolicy_151 : decode cX8_setPolicy 151 = .ok (.getfield 76, 3) := by decide +kernel
theorem dX8_setPolicy_154 : decode cX8_setPolicy 154 = .ok (.getfield 106, 3) := by decide +kernel
theorem dX8_setPolicy_157 : decode cX8_setPolicy 157 = .ok (.iload 8, 2) := by decide +kernel
theorem dX8_setPolicy_159 : decode cX8_setPolicy 159 = .ok (.iload 6, 2) := by decide +kernel
theorem dX8_setPolicy_161 : decode cX8_setPolicy 161 = .ok (.iastore, 1) := by decide +kernel
theorem dX8_setPolicy_162 : decode cX8_setPolicy 162 = .ok (.iload 7, 2) := by decide +kernel
theorem dX8_setPolicy_164 : decode cX8_setPolicy 164 = .ok (.ireturn, 1) := by decide +kernel
theorem dX8_receive_0 : decode cX8_receive 0 = .ok (.aload_n 0, 1) := by decide +kernel
theorem dX8_receive_1 : decode cX8_receive 1 = .ok (.iload_n 1, 1) := by decide +kernel
theorem dX8_receive_2 : decode cX8_receive 2 = .ok (.invokevirtual 86, 3) := by decide +kernel
theorem dX8_receive_5 : decode cX8_receive 5 = .ok (.aload_n 0, 1) := by decide +kernel
theorem dX8_receive_6 : decode cX8_receive 6 = .ok (.iload_n 2, 1) := by decide +kernel
theorem dX8_receive_7 : decode cX8_receive 7 = .ok (.invokevirtual 58, 3) := by decide +kernel
theorem dX8_receive_10 : decode cX8_receive 10 = .ok (.iload_n 3, 1) := by decide +kernel
theorem dX8_receive_11 : decode cX8_receive 11 = .ok (.iconst 1, 1) := by decide +kernel
theorem dX8_receive_12 : decode cX8_receive 12 = .ok (.sipush 999, 3) := by decide +kernel
theorem dX8_receive_15 : decode cX8_receive 15 = .ok (.invokestatic 26, 3) := by decide +kernel
theorem dX8_receive_18 : decode cX8_receive 18 = .ok (.iload 4, 2) := by decide +kernel
theorem dX8_receive_20 : decode cX8_receive 20 = .ok (.iconst 0, 1) := by decide +kernel
theorem dX8_receive_21 : decode cX8_receive 21 = .ok (.bipush 99, 2) := by decide +kernel
theorem dX8_receive_23 : decode cX8_receive 23 = .ok (.invokestatic 26, 3) := by decide +kernel
theorem dX8_receive_26 : decode cX8_receive 26 = .ok (.aload_n 0, 1) := by decide +kernel
theorem dX8_receive_27 : decode cX8_receive 27 = .ok (.getfield 10, 3) := by decide +kernel
theorem dX8_receive_30 : decode cX8_receive 30 = .ok (.getfield 109, 3) := by decide +kernel
theorem dX8_receive_33 : decode cX8_receive 33 = .ok (.getfield 113, 3) := by decide +kernel
theorem dX8_receive_36 : decode cX8_receive 36 = .ok (.sipush 200, 3) := by decide +kernel
theorem dX8_receive_39 : decode cX8_receive 39 = .ok (.if_icmp .ge 7, 3) := by decide +kernel
theorem dX8_receive_42 : decode cX8_receive 42 = .ok (.iconst 1, 1) := by decide +kernel
theorem dX8_receive_43 : decode cX8_receive 43 = .ok (.goto 4, 3) := by decide +kernel
theorem dX8_receive_47 : decode cX8_receive 47 = .ok (.invokestatic 40, 3) := by decide +kernel
theorem dX8_receive_50 : decode cX8_receive 50 = .ok (.iload_n 3, 1) := by decide +kernel
theorem dX8_receive_51 : decode cX8_receive 51 = .ok (.aload_n 0, 1) := by decide +kernel
theorem dX8_receive_52 : decode cX8_receive 52 = .ok (.getfield 10, 3) := by decide +kernel
theorem dX8_receive_55 : decode cX8_receive 55 = .ok (.iload_n 2, 1) := by decide +kernel
theorem dX8_receive_56 : decode cX8_receive 56 = .ok (.invokevirtual 116, 3) := by decide +kernel
theorem dX8_receive_59 : decode cX8_receive 59 = .ok (.if_icmp .gt 7, 3) := by decide +kernel
theorem dX8_receive_62 : decode cX8_receive 62 = .ok (.iconst 1, 1) := by decide +kernel
theorem dX8_receive_63 : decode cX8_receive 63 = .ok (.goto 4, 3) := by decide +kernel
theorem dX8_receive_67 : decode cX8_receive 67 = .ok (.invokestatic 40, 3) := by decide +kernel
theorem dX8_receive_70 : decode cX8_receive 70 = .ok (.aload_n 0, 1) := by decide +kernel
theorem dX8_receive_71 : decode cX8_receive 71 = .ok (.getfield 10, 3) := by decide +kernel
theorem dX8_receive_74 : decode cX8_receive 74 = .ok (.getfield 119, 3) := by decide +kernel
theorem dX8_receive_77 : decode cX8_receive 77 = .ok (.iconst 3, 1) := by decide +kernel
theorem dX8_receive_78 : decode cX8_receive 78 = .ok (.dup2, 1) := by decide +kernel
theorem dX8_receive_79 : decode cX8_receive 79 = .ok (.iaload, 1) := by decide +kernel
theorem dX8_receive_80 : decode cX8_receive 80 = .ok (.iload_n 3, 1) := by decide +kernel
theorem dX8_receive_81 : decode cX8_receive 81 = .ok (.aload_n 0, 1) := by decide +kernel
theorem dX8_receive_82 : decode cX8_receive 82 = .ok (.getfield 10, 3) := by decide +kernel
theorem dX8_receive_85 : decode cX8_receive 85 = .ok (.getfield 30, 3) := by decide +kernel
theorem dX8_receive_88 : decode cX8_receive 88 = .ok (.iload_n 1, 1) := by decide +kernel
theorem dX8_receive_89 : decode cX8_receive 89 = .ok (.invokevirtual 122, 3) := by decide +kernel
theorem dX8_receive_92 : decode cX8_receive 92 = .ok (.imul, 1) := by decide +kernel
theorem dX8_receive_93 : decode cX8_receive 93 = .ok (.iadd, 1) := by decide +kernel
theorem dX8_receive_94 : decode cX8_receive 94 = .ok (.iastore, 1) := by decide +kernel
theorem dX8_receive_95 : decode cX8_receive 95 = .ok (.aload_n 0, 1) := by decide +kernel
theorem dX8_receive_96 : decode cX8_receive 96 = .ok (.getfield 10, 3) := by decide +kernel
theorem dX8_receive_99 : decode cX8_receive 99 = .ok (.getfield 109, 3) := by decide +kernel
theorem dX8_receive_102 : decode cX8_receive 102 = .ok (.iload_n 1, 1) := by decide +kernel
theorem dX8_receive_103 : decode cX8_receive 103 = .ok (.iload_n 2, 1) := by decide +kernel
theorem dX8_receive_104 : decode cX8_receive 104 = .ok (.iload_n 3, 1) := by decide +kernel
theorem dX8_receive_105 : decode cX8_receive 105 = .ok (.aload_n 0, 1) := by decide +kernel
theorem dX8_receive_106 : decode cX8_receive 106 = .ok (.getfield 10, 3) := by decide +kernel
theorem dX8_receive_109 : decode cX8_receive 109 = .ok (.getfield 125, 3) := by decide +kernel
theorem dX8_receive_112 : decode cX8_receive 112 = .ok (.iload 4, 2) := by decide +kernel
theorem dX8_receive_114 : decode cX8_receive 114 = .ok (.iadd, 1) := by decide +kernel
theorem dX8_receive_115 : decode cX8_receive 115 = .ok (.invokevirtual 128, 3) := by decide +kernel
theorem dX8_receive_118 : decode cX8_receive 118 = .ok (.ireturn, 1) := by decide +kernel
theorem dX8_order_0 : decode cX8_order 0 = .ok (.aload_n 0, 1) := by decide +kernel
theorem dX8_order_1 : decode cX8_order 1 = .ok (.iload_n 1, 1) := by decide +kernel
theorem dX8_order_2 : decode cX8_order 2 = .ok (.invokevirtual 86, 3) := by decide +kernel
theorem dX8_order_5 : decode cX8_order 5 = .ok (.aload_n 0, 1) := by decide +kernel
theorem dX8_order_6 : decode cX8_order 6 = .ok (.iload_n 2, 1) := by decide +kernel
theorem dX8_order_7 : decode cX8_order 7 = .ok (.invokevirtual 58, 3) := by decide +kernel
theorem dX8_order_10 : decode cX8_order 10 = .ok (.iload_n 3, 1) := by decide +kernel
theorem dX8_order_11 : decode cX8_order 11 = .ok (.iconst 1, 1) := by decide +kernel
theorem dX8_order_12 : decode cX8_order 12 = .ok (.bipush 99, 2) := by decide +kernel
theorem dX8_order_14 : decode cX8_order 14 = .ok (.invokestatic 26, 3) := by decide +kernel
theorem dX8_order_17 : decode cX8_order 17 = .ok (.iload 4, 2) := by decide +kernel
theorem dX8_order_19 : decode cX8_order 19 = .ok (.iconst 0, 1) := by decide +kernel
theorem dX8_order_20 : decode cX8_order 20 = .ok (.bipush 60, 2) := by decide +kernel
theorem dX8_order_22 : decode cX8_order 22 = .ok (.invokestatic 26, 3) := by decide +kernel
theorem dX8_order_25 : decode cX8_order 25 = .ok (.iload 5, 2) := by decide +kernel
theorem dX8_order_27 : decode cX8_order 27 = .ok (.iconst 0, 1) := by decide +kernel
theorem dX8_order_28 : decode cX8_order 28 = .ok (.bipush 9, 2) := by decide +kernel
theorem dX8_order_30 : decode cX8_order 30 = .ok (.invokestatic 26, 3) := by decide +kernel
theorem dX8_order_33 : decode cX8_order 33 = .ok (.iload 6, 2) := by decide +kernel
theorem dX8_order_35 : decode cX8_order 35 = .ok (.iconst 0, 1) := by decide +kernel
theorem dX8_order_36 : decode cX8_order 36 = .ok (.bipush 20, 2) := by decide +kernel
theorem dX8_order_38 : decode cX8_order 38 = .ok (.invokestatic 26, 3) := by decide +kernel
theorem dX8_order_41 : decode cX8_order 41 = .ok (.aload_n 0, 1) := by decide +kernel
theorem dX8_order_42 : decode cX8_order 42 = .ok (.getfield 10, 3) := by decide +kernel
theorem dX8_order_45 : decode cX8_order 45 = .ok (.getfield 131, 3) := by decide +kernel
theorem dX8_order_48 : decode cX8_order 48 = .ok (.getfield 135, 3) := by decide +kernel
theorem dX8_order_51 : decode cX8_order 51 = .ok (.bipush 60, 2) := by decide +kernel
theorem dX8_order_53 : decode cX8_order 53 = .ok (.if_icmp .ge 7, 3) := by decide +kernel
theorem dX8_order_56 : decode cX8_order 56 = .ok (.iconst 1, 1) := by decide +kernel
theorem dX8_order_57 : decode cX8_order 57 = .ok (.goto 4, 3) := by decide +kernel
theorem dX8_order_61 : decode cX8_order 61 = .ok (.invokestatic 40, 3) := by decide +kernel
theorem dX8_order_64 : decode cX8_order 64 = .ok (.aload_n 0, 1) := by decide +kernel
theorem dX8_order_65 : decode cX8_order 65 = .ok (.getfield 10, 3) := by decide +kernel
theorem dX8_order_68 : decode cX8_order 68 = .ok (.getfield 131, 3) := by decide +kernel
theorem dX8_order_71 : decode cX8_order 71 = .ok (.iload_n 1, 1) := by decide +kernel
theorem dX8_order_72 : decode cX8_order 72 = .ok (.iload_n 2, 1) := by decide +kernel
theorem dX8_order_73 : decode cX8_order 73 = .ok (.iload_n 3, 1) := by decide +kernel
theorem dX8_order_74 : decode cX8_order 74 = .ok (.aload_n 0, 1) := by decide +kernel
theorem dX8_order_75 : decode cX8_order 75 = .ok (.getfield 10, 3) := by decide +kernel
theorem dX8_order_78 : decode cX8_order 78 = .ok (.getfield 125, 3) := by decide +kernel
theorem dX8_order_81 : decode cX8_order 81 = .ok (.iload 4, 2) := by decide +kernel
theorem dX8_order_83 : decode cX8_order 83 = .ok (.iadd, 1) := by decide +kernel
theorem dX8_order_84 : decode cX8_order 84 = .ok (.iload 5, 2) := by decide +kernel
theorem dX8_order_86 : decode cX8_order 86 = .ok (.iload 6, 2) := by decide +kernel
theorem dX8_order_88 : decode cX8_order 88 = .ok (.invokevirtual 138, 3) := by decide +kernel
theorem dX8_order_91 : decode cX8_order 91 = .ok (.istore 7, 2) := by decide +kernel
theorem dX8_order_93 : decode cX8_order 93 = .ok (.aload_n 0, 1) := by decide +kernel
theorem dX8_order_94 : decode cX8_order 94 = .ok (.getfield 10, 3) := by decide +kernel
theorem dX8_order_97 : decode cX8_order 97 = .ok (.iload 7, 2) := by decide +kernel
theorem dX8_order_99 : decode cX8_order 99 = .ok (.invokevirtual 141, 3) := by decide +kernel
theorem dX8_order_102 : decode cX8_order 102 = .ok (.iload 7, 2) := by decide +kernel
theorem dX8_order_104 : decode cX8_order 104 = .ok (.ireturn, 1) := by decide +kernel
theorem dX8_reserveAnew_0 : decode cX8_reserveAnew 0 = .ok (.iconst 0, 1) := by decide +kernel
theorem dX8_reserveAnew_1 : decode cX8_reserveAnew 1 = .ok (.istore_n 1, 1) := by decide +kernel
theorem dX8_reserveAnew_2 : decode cX8_reserveAnew 2 = .ok (.iload_n 1, 1) := by decide +kernel
theorem dX8_reserveAnew_3 : decode cX8_reserveAnew 3 = .ok (.aload_n 0, 1) := by decide +kernel
theorem dX8_reserveAnew_4 : decode cX8_reserveAnew 4 = .ok (.getfield 10, 3) := by decide +kernel
theorem dX8_reserveAnew_7 : decode cX8_reserveAnew 7 = .ok (.getfield 131, 3) := by decide +kernel
theorem dX8_reserveAnew_10 : decode cX8_reserveAnew 10 = .ok (.getfield 135, 3) := by decide +kernel
theorem dX8_reserveAnew_13 : decode cX8_reserveAnew 13 = .ok (.if_icmp .ge 17, 3) := by decide +kernel
theorem dX8_reserveAnew_16 : decode cX8_reserveAnew 16 = .ok (.aload_n 0, 1) := by decide +kernel
theorem dX8_reserveAnew_17 : decode cX8_reserveAnew 17 = .ok (.getfield 10, 3) := by decide +kernel
theorem dX8_reserveAnew_20 : decode cX8_reserveAnew 20 = .ok (.iload_n 1, 1) := by decide +kernel
theorem dX8_reserveAnew_21 : decode cX8_reserveAnew 21 = .ok (.invokevirtual 153, 3) := by decide +kernel
theorem dX8_reserveAnew_24 : decode cX8_reserveAnew 24 = .ok (.iinc 1 1, 3) := by decide +kernel
theorem dX8_reserveAnew_27 : decode cX8_reserveAnew 27 = .ok (.goto (-25), 3) := by decide +kernel
theorem dX8_reserveAnew_30 : decode cX8_reserveAnew 30 = .ok (.aload_n 0, 1) := by decide +kernel
theorem dX8_reserveAnew_31 : decode cX8_reserveAnew 31 = .ok (.getfield 10, 3) := by decide +kernel
theorem dX8_reserveAnew_34 : decode cX8_reserveAnew 34 = .ok (.invokevirtual 156, 3) := by decide +kernel
theorem dX8_reserveAnew_37 : decode cX8_reserveAnew 37 = .ok (.aload_n 0, 1) := by decide +kernel
theorem dX8_reserveAnew_38 : decode cX8_reserveAnew 38 = .ok (.getfield 10, 3) := by decide +kernel
theorem dX8_reserveAnew_41 : decode cX8_reserveAnew 41 = .ok (.getfield 131, 3) := by decide +kernel
theorem dX8_reserveAnew_44 : decode cX8_reserveAnew 44 = .ok (.invokevirtual 159, 3) := by decide +kernel
theorem dX8_reserveAnew_47 : decode cX8_reserveAnew 47 = .ok (.ireturn, 1) := by decide +kernel
theorem dX8_pass_0 : decode cX8_pass 0 = .ok (.iload_n 1, 1) := by decide +kernel
theorem dX8_pass_1 : decode cX8_pass 1 = .ok (.iconst 1, 1) := by decide +kernel
theorem dX8_pass_2 : decode cX8_pass 2 = .ok (.bipush 30, 2) := by decide +kernel
theorem dX8_pass_4 : decode cX8_pass 4 = .ok (.invokestatic 26, 3) := by decide +kernel
theorem dX8_pass_7 : decode cX8_pass 7 = .ok (.aload_n 0, 1) := by decide +kernel
theorem dX8_pass_8 : decode cX8_pass 8 = .ok (.getfield 10, 3) := by decide +kernel
theorem dX8_pass_11 : decode cX8_pass 11 = .ok (.iload_n 1, 1) := by decide +kernel
theorem dX8_pass_12 : decode cX8_pass 12 = .ok (.invokevirtual 172, 3) := by decide +kernel
theorem dX8_pass_15 : decode cX8_pass 15 = .ok (.aload_n 0, 1) := by decide +kernel
theorem dX8_pass_16 : decode cX8_pass 16 = .ok (.getfield 10, 3) := by decide +kernel
theorem dX8_pass_19 : decode cX8_pass 19 = .ok (.getfield 125, 3) := by decide +kernel
theorem dX8_pass_22 : decode cX8_pass 22 = .ok (.ireturn, 1) := by decide +kernel
theorem dX8_send_0 : decode cX8_send 0 = .ok (.aload_n 0, 1) := by decide +kernel
theorem dX8_send_1 : decode cX8_send 1 = .ok (.iload_n 1, 1) := by decide +kernel
theorem dX8_send_2 : decode cX8_send 2 = .ok (.invokevirtual 86, 3) := by decide +kernel
theorem dX8_send_5 : decode cX8_send 5 = .ok (.aload_n 0, 1) := by decide +kernel
theorem dX8_send_6 : decode cX8_send 6 = .ok (.iload_n 2, 1) := by decide +kernel
theorem dX8_send_7 : decode cX8_send 7 = .ok (.invokevirtual 58, 3) := by decide +kernel
theorem dX8_send_10 : decode cX8_send 10 = .ok (.aload_n 0, 1) := by decide +kernel
theorem dX8_send_11 : decode cX8_send 11 = .ok (.iload_n 3, 1) := by decide +kernel
theorem dX8_send_12 : decode cX8_send 12 = .ok (.invokevirtual 58, 3) := by decide +kernel
theorem dX8_send_15 : decode cX8_send 15 = .ok (.aload_n 0, 1) := by decide +kernel
theorem dX8_send_16 : decode cX8_send 16 = .ok (.getfield 10, 3) := by decide +kernel
theorem dX8_send_19 : decode cX8_send 19 = .ok (.getfield 48, 3) := by decide +kernel
theorem dX8_send_22 : decode cX8_send 22 = .ok (.iload_n 2, 1) := by decide +kernel
theorem dX8_send_23 : decode cX8_send 23 = .ok (.iload_n 3, 1) := by decide +kernel
theorem dX8_send_24 : decode cX8_send 24 = .ok (.invokevirtual 65, 3) := by decide +kernel
theorem dX8_send_27 : decode cX8_send 27 = .ok (.ifCond .le 7, 3) := by decide +kernel
theorem dX8_send_30 : decode cX8_send 30 = .ok (.iconst 1, 1) := by decide +kernel
theorem dX8_send_31 : decode cX8_send 31 = .ok (.goto 4, 3) := by decide +kernel
theorem dX8_send_35 : decode cX8_send 35 = .ok (.invokestatic 62, 3) := by decide +kernel
theorem dX8_send_38 : decode cX8_send 38 = .ok (.iload 4, 2) := by decide +kernel
theorem dX8_send_40 : decode cX8_send 40 = .ok (.iconst 1, 1) := by decide +kernel
theorem dX8_send_41 : decode cX8_send 41 = .ok (.sipush 999, 3) := by decide +kernel
theorem dX8_send_44 : decode cX8_send 44 = .ok (.invokestatic 26, 3) := by decide +kernel
theorem dX8_send_47 : decode cX8_send 47 = .ok (.aload_n 0, 1) := by decide +kernel
theorem dX8_send_48 : decode cX8_send 48 = .ok (.getfield 10, 3) := by decide +kernel
theorem dX8_send_51 : decode cX8_send 51 = .ok (.iload_n 1, 1) := by decide +kernel
theorem dX8_send_52 : decode cX8_send 52 = .ok (.iload_n 2, 1) := by decide +kernel
theorem dX8_send_53 : decode cX8_send 53 = .ok (.iload_n 3, 1) := by decide +kernel
theorem dX8_send_54 : decode cX8_send 54 = .ok (.iload 4, 2) := by decide +kernel
theorem dX8_send_56 : decode cX8_send 56 = .ok (.invokevirtual 175, 3) := by decide +kernel
theorem dX8_send_59 : decode cX8_send 59 = .ok (.ireturn, 1) := by decide +kernel
