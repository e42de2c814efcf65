theorem dX3_costOf_0 : decode cX3_costOf 0 = .ok (.iload_n 1, 1) := by decide +kernel
theorem dX3_costOf_1 : decode cX3_costOf 1 = .ok (.ifCond .ne 7, 3) := by decide +kernel
theorem dX3_costOf_4 : decode cX3_costOf 4 = .ok (.lconst 0, 1) := by decide +kernel
theorem dX3_costOf_5 : decode cX3_costOf 5 = .ok (.goto 15, 3) := by decide +kernel
theorem dX3_costOf_8 : decode cX3_costOf 8 = .ok (.iload_n 1, 1) := by decide +kernel
theorem dX3_costOf_9 : decode cX3_costOf 9 = .ok (.i2l, 1) := by decide +kernel
theorem dX3_costOf_10 : decode cX3_costOf 10 = .ok (.bipush 25, 2) := by decide +kernel
theorem dX3_costOf_12 : decode cX3_costOf 12 = .ok (.lshl, 1) := by decide +kernel
theorem dX3_costOf_13 : decode cX3_costOf 13 = .ok (.lconst 1, 1) := by decide +kernel
theorem dX3_costOf_14 : decode cX3_costOf 14 = .ok (.bipush 24, 2) := by decide +kernel
theorem dX3_costOf_16 : decode cX3_costOf 16 = .ok (.iload_n 0, 1) := by decide +kernel
theorem dX3_costOf_17 : decode cX3_costOf 17 = .ok (.isub, 1) := by decide +kernel
theorem dX3_costOf_18 : decode cX3_costOf 18 = .ok (.lshl, 1) := by decide +kernel
theorem dX3_costOf_19 : decode cX3_costOf 19 = .ok (.lsub, 1) := by decide +kernel
theorem dX3_costOf_20 : decode cX3_costOf 20 = .ok (.lreturn, 1) := by decide +kernel
theorem dX3_findWays_0 : decode cX3_findWays 0 = .ok (.iconst 0, 1) := by decide +kernel
theorem dX3_findWays_1 : decode cX3_findWays 1 = .ok (.istore_n 1, 1) := by decide +kernel
theorem dX3_findWays_2 : decode cX3_findWays 2 = .ok (.iload_n 1, 1) := by decide +kernel
theorem dX3_findWays_3 : decode cX3_findWays 3 = .ok (.aload_n 0, 1) := by decide +kernel
theorem dX3_findWays_4 : decode cX3_findWays 4 = .ok (.getfield 43, 3) := by decide +kernel
theorem dX3_findWays_7 : decode cX3_findWays 7 = .ok (.if_icmp .ge 38, 3) := by decide +kernel
theorem dX3_findWays_10 : decode cX3_findWays 10 = .ok (.aload_n 0, 1) := by decide +kernel
theorem dX3_findWays_11 : decode cX3_findWays 11 = .ok (.getfield 22, 3) := by decide +kernel
theorem dX3_findWays_14 : decode cX3_findWays 14 = .ok (.iload_n 1, 1) := by decide +kernel
theorem dX3_findWays_15 : decode cX3_findWays 15 = .ok (.aload_n 0, 1) := by decide +kernel
theorem dX3_findWays_16 : decode cX3_findWays 16 = .ok (.getfield 9, 3) := by decide +kernel
theorem dX3_findWays_19 : decode cX3_findWays 19 = .ok (.iload_n 1, 1) := by decide +kernel
theorem dX3_findWays_20 : decode cX3_findWays 20 = .ok (.iaload, 1) := by decide +kernel
theorem dX3_findWays_21 : decode cX3_findWays 21 = .ok (.ifCond .le 7, 3) := by decide +kernel
theorem dX3_findWays_24 : decode cX3_findWays 24 = .ok (.lconst 0, 1) := by decide +kernel
theorem dX3_findWays_25 : decode cX3_findWays 25 = .ok (.goto 6, 3) := by decide +kernel
theorem dX3_findWays_28 : decode cX3_findWays 28 = .ok (.ldc2_w 74, 3) := by decide +kernel
theorem dX3_findWays_31 : decode cX3_findWays 31 = .ok (.lastore, 1) := by decide +kernel
theorem dX3_findWays_32 : decode cX3_findWays 32 = .ok (.aload_n 0, 1) := by decide +kernel
theorem dX3_findWays_33 : decode cX3_findWays 33 = .ok (.getfield 25, 3) := by decide +kernel
theorem dX3_findWays_36 : decode cX3_findWays 36 = .ok (.iload_n 1, 1) := by decide +kernel
theorem dX3_findWays_37 : decode cX3_findWays 37 = .ok (.iconst (-1), 1) := by decide +kernel
theorem dX3_findWays_38 : decode cX3_findWays 38 = .ok (.iastore, 1) := by decide +kernel
theorem dX3_findWays_39 : decode cX3_findWays 39 = .ok (.iinc 1 1, 3) := by decide +kernel
theorem dX3_findWays_42 : decode cX3_findWays 42 = .ok (.goto (-40), 3) := by decide +kernel
theorem dX3_findWays_45 : decode cX3_findWays 45 = .ok (.iconst 0, 1) := by decide +kernel
theorem dX3_findWays_46 : decode cX3_findWays 46 = .ok (.istore_n 1, 1) := by decide +kernel
theorem dX3_findWays_47 : decode cX3_findWays 47 = .ok (.iload_n 1, 1) := by decide +kernel
theorem dX3_findWays_48 : decode cX3_findWays 48 = .ok (.aload_n 0, 1) := by decide +kernel
theorem dX3_findWays_49 : decode cX3_findWays 49 = .ok (.getfield 43, 3) := by decide +kernel
theorem dX3_findWays_52 : decode cX3_findWays 52 = .ok (.if_icmp .ge 47, 3) := by decide +kernel
theorem dX3_findWays_55 : decode cX3_findWays 55 = .ok (.iconst 0, 1) := by decide +kernel
theorem dX3_findWays_56 : decode cX3_findWays 56 = .ok (.istore_n 2, 1) := by decide +kernel
theorem dX3_findWays_57 : decode cX3_findWays 57 = .ok (.iload_n 2, 1) := by decide +kernel
theorem dX3_findWays_58 : decode cX3_findWays 58 = .ok (.aload_n 0, 1) := by decide +kernel
theorem dX3_findWays_59 : decode cX3_findWays 59 = .ok (.getfield 43, 3) := by decide +kernel
theorem dX3_findWays_62 : decode cX3_findWays 62 = .ok (.if_icmp .ge 31, 3) := by decide +kernel
theorem dX3_findWays_65 : decode cX3_findWays 65 = .ok (.iconst 0, 1) := by decide +kernel
theorem dX3_findWays_66 : decode cX3_findWays 66 = .ok (.istore_n 3, 1) := by decide +kernel
theorem dX3_findWays_67 : decode cX3_findWays 67 = .ok (.iload_n 3, 1) := by decide +kernel
theorem dX3_findWays_68 : decode cX3_findWays 68 = .ok (.aload_n 0, 1) := by decide +kernel
theorem dX3_findWays_69 : decode cX3_findWays 69 = .ok (.getfield 43, 3) := by decide +kernel
theorem dX3_findWays_72 : decode cX3_findWays 72 = .ok (.if_icmp .ge 15, 3) := by decide +kernel
theorem dX3_findWays_75 : decode cX3_findWays 75 = .ok (.aload_n 0, 1) := by decide +kernel
theorem dX3_findWays_76 : decode cX3_findWays 76 = .ok (.iload_n 2, 1) := by decide +kernel
theorem dX3_findWays_77 : decode cX3_findWays 77 = .ok (.iload_n 3, 1) := by decide +kernel
theorem dX3_findWays_78 : decode cX3_findWays 78 = .ok (.invokevirtual 76, 3) := by decide +kernel
theorem dX3_findWays_81 : decode cX3_findWays 81 = .ok (.iinc 3 1, 3) := by decide +kernel
theorem dX3_findWays_84 : decode cX3_findWays 84 = .ok (.goto (-17), 3) := by decide +kernel
theorem dX3_findWays_87 : decode cX3_findWays 87 = .ok (.iinc 2 1, 3) := by decide +kernel
theorem dX3_findWays_90 : decode cX3_findWays 90 = .ok (.goto (-33), 3) := by decide +kernel
theorem dX3_findWays_93 : decode cX3_findWays 93 = .ok (.iinc 1 1, 3) := by decide +kernel
theorem dX3_findWays_96 : decode cX3_findWays 96 = .ok (.goto (-49), 3) := by decide +kernel
theorem dX3_findWays_99 : decode cX3_findWays 99 = .ok (.return_, 1) := by decide +kernel
theorem dX3_step_0 : decode cX3_step 0 = .ok (.aload_n 0, 1) := by decide +kernel
theorem dX3_step_1 : decode cX3_step 1 = .ok (.getfield 22, 3) := by decide +kernel
theorem dX3_step_4 : decode cX3_step 4 = .ok (.iload_n 1, 1) := by decide +kernel
theorem dX3_step_5 : decode cX3_step 5 = .ok (.laload, 1) := by decide +kernel
theorem dX3_step_6 : decode cX3_step 6 = .ok (.ldc2_w 74, 3) := by decide +kernel
theorem dX3_step_9 : decode cX3_step 9 = .ok (.lcmp, 1) := by decide +kernel
theorem dX3_step_10 : decode cX3_step 10 = .ok (.ifCond .ne 4, 3) := by decide +kernel
theorem dX3_step_13 : decode cX3_step 13 = .ok (.return_, 1) := by decide +kernel
theorem dX3_step_14 : decode cX3_step 14 = .ok (.iload_n 2, 1) := by decide +kernel
theorem dX3_step_15 : decode cX3_step 15 = .ok (.iload_n 1, 1) := by decide +kernel
theorem dX3_step_16 : decode cX3_step 16 = .ok (.invokestatic 52, 3) := by decide +kernel
theorem dX3_step_19 : decode cX3_step 19 = .ok (.istore_n 3, 1) := by decide +kernel
theorem dX3_step_20 : decode cX3_step 20 = .ok (.aload_n 0, 1) := by decide +kernel
theorem dX3_step_21 : decode cX3_step 21 = .ok (.getfield 18, 3) := by decide +kernel
theorem dX3_step_24 : decode cX3_step 24 = .ok (.iload_n 1, 1) := by decide +kernel
theorem dX3_step_25 : decode cX3_step 25 = .ok (.iload_n 2, 1) := by decide +kernel
theorem dX3_step_26 : decode cX3_step 26 = .ok (.invokestatic 52, 3) := by decide +kernel
theorem dX3_step_29 : decode cX3_step 29 = .ok (.laload, 1) := by decide +kernel
theorem dX3_step_30 : decode cX3_step 30 = .ok (.lstore 4, 2) := by decide +kernel
theorem dX3_step_32 : decode cX3_step 32 = .ok (.lload 4, 2) := by decide +kernel
theorem dX3_step_34 : decode cX3_step 34 = .ok (.lconst 0, 1) := by decide +kernel
theorem dX3_step_35 : decode cX3_step 35 = .ok (.lcmp, 1) := by decide +kernel
theorem dX3_step_36 : decode cX3_step 36 = .ok (.ifCond .ne 21, 3) := by decide +kernel
theorem dX3_step_39 : decode cX3_step 39 = .ok (.aload_n 0, 1) := by decide +kernel
theorem dX3_step_40 : decode cX3_step 40 = .ok (.getfield 28, 3) := by decide +kernel
theorem dX3_step_43 : decode cX3_step 43 = .ok (.iload_n 3, 1) := by decide +kernel
theorem dX3_step_44 : decode cX3_step 44 = .ok (.iaload, 1) := by decide +kernel
theorem dX3_step_45 : decode cX3_step 45 = .ok (.ifCond .le 12, 3) := by decide +kernel
theorem dX3_step_48 : decode cX3_step 48 = .ok (.aload_n 0, 1) := by decide +kernel
theorem dX3_step_49 : decode cX3_step 49 = .ok (.getfield 18, 3) := by decide +kernel
theorem dX3_step_52 : decode cX3_step 52 = .ok (.iload_n 3, 1) := by decide +kernel
theorem dX3_step_53 : decode cX3_step 53 = .ok (.laload, 1) := by decide +kernel
theorem dX3_step_54 : decode cX3_step 54 = .ok (.lneg, 1) := by decide +kernel
theorem dX3_step_55 : decode cX3_step 55 = .ok (.lstore 4, 2) := by decide +kernel
theorem dX3_step_57 : decode cX3_step 57 = .ok (.lload 4, 2) := by decide +kernel
theorem dX3_step_59 : decode cX3_step 59 = .ok (.lconst 0, 1) := by decide +kernel
theorem dX3_step_60 : decode cX3_step 60 = .ok (.lcmp, 1) := by decide +kernel
theorem dX3_step_61 : decode cX3_step 61 = .ok (.ifCond .eq 57, 3) := by decide +kernel
theorem dX3_step_64 : decode cX3_step 64 = .ok (.aload_n 0, 1) := by decide +kernel
theorem dX3_step_65 : decode cX3_step 65 = .ok (.getfield 22, 3) := by decide +kernel
theorem dX3_step_68 : decode cX3_step 68 = .ok (.iload_n 2, 1) := by decide +kernel
theorem dX3_step_69 : decode cX3_step 69 = .ok (.laload, 1) := by decide +kernel
theorem dX3_step_70 : decode cX3_step 70 = .ok (.ldc2_w 74, 3) := by decide +kernel
theorem dX3_step_73 : decode cX3_step 73 = .ok (.lcmp, 1) := by decide +kernel
theorem dX3_step_74 : decode cX3_step 74 = .ok (.ifCond .eq 22, 3) := by decide +kernel
theorem dX3_step_77 : decode cX3_step 77 = .ok (.aload_n 0, 1) := by decide +kernel
theorem dX3_step_78 : decode cX3_step 78 = .ok (.getfield 22, 3) := by decide +kernel
theorem dX3_step_81 : decode cX3_step 81 = .ok (.iload_n 1, 1) := by decide +kernel
theorem dX3_step_82 : decode cX3_step 82 = .ok (.laload, 1) := by decide +kernel
theorem dX3_step_83 : decode cX3_step 83 = .ok (.lload 4, 2) := by decide +kernel
theorem dX3_step_85 : decode cX3_step 85 = .ok (.ladd, 1) := by decide +kernel
theorem dX3_step_86 : decode cX3_step 86 = .ok (.aload_n 0, 1) := by decide +kernel
theorem dX3_step_87 : decode cX3_step 87 = .ok (.getfield 22, 3) := by decide +kernel
theorem dX3_step_90 : decode cX3_step 90 = .ok (.iload_n 2, 1) := by decide +kernel
theorem dX3_step_91 : decode cX3_step 91 = .ok (.laload, 1) := by decide +kernel
theorem dX3_step_92 : decode cX3_step 92 = .ok (.lcmp, 1) := by decide +kernel
theorem dX3_step_93 : decode cX3_step 93 = .ok (.ifCond .ge 25, 3) := by decide +kernel
theorem dX3_step_96 : decode cX3_step 96 = .ok (.aload_n 0, 1) := by decide +kernel
theorem dX3_step_97 : decode cX3_step 97 = .ok (.getfield 22, 3) := by decide +kernel
theorem dX3_step_100 : decode cX3_step 100 = .ok (.iload_n 2, 1) := by decide +kernel
theorem dX3_step_101 : decode cX3_step 101 = .ok (.aload_n 0, 1) := by decide +kernel
theorem dX3_step_102 : decode cX3_step 102 = .ok (.getfield 22, 3) := by decide +kernel
theorem dX3_step_105 : decode cX3_step 105 = .ok (.iload_n 1, 1) := by decide +kernel
theorem dX3_step_106 : decode cX3_step 106 = .ok (.laload, 1) := by decide +kernel
theorem dX3_step_107 : decode cX3_step 107 = .ok (.lload 4, 2) := by decide +kernel
theorem dX3_step_109 : decode cX3_step 109 = .ok (.ladd, 1) := by decide +kernel
theorem dX3_step_110 : decode cX3_step 110 = .ok (.lastore, 1) := by decide +kernel
theorem dX3_step_111 : decode cX3_step 111 = .ok (.aload_n 0, 1) := by decide +kernel
theorem dX3_step_112 : decode cX3_step 112 = .ok (.getfield 25, 3) := by decide +kernel
theorem dX3_step_115 : decode cX3_step 115 = .ok (.iload_n 2, 1) := by decide +kernel
theorem dX3_step_116 : decode cX3_step 116 = .ok (.iload_n 1, 1) := by decide +kernel
theorem dX3_step_117 : decode cX3_step 117 = .ok (.iastore, 1) := by decide +kernel
theorem dX3_step_118 : decode cX3_step 118 = .ok (.return_, 1) := by decide +kernel
theorem dX3_cheapestEnd_0 : decode cX3_cheapestEnd 0 = .ok (.iconst (-1), 1) := by decide +kernel
theorem dX3_cheapestEnd_1 : decode cX3_cheapestEnd 1 = .ok (.istore_n 1, 1) := by decide +kernel
theorem dX3_cheapestEnd_2 : decode cX3_cheapestEnd 2 = .ok (.iconst 0, 1) := by decide +kernel
theorem dX3_cheapestEnd_3 : decode cX3_cheapestEnd 3 = .ok (.istore_n 2, 1) := by decide +kernel
theorem dX3_cheapestEnd_4 : decode cX3_cheapestEnd 4 = .ok (.iload_n 2, 1) := by decide +kernel
theorem dX3_cheapestEnd_5 : decode cX3_cheapestEnd 5 = .ok (.aload_n 0, 1) := by decide +kernel
theorem dX3_cheapestEnd_6 : decode cX3_cheapestEnd 6 = .ok (.getfield 43, 3) := by decide +kernel
theorem dX3_cheapestEnd_9 : decode cX3_cheapestEnd 9 = .ok (.if_icmp .ge 54, 3) := by decide +kernel
theorem dX3_cheapestEnd_12 : decode cX3_cheapestEnd 12 = .ok (.aload_n 0, 1) := by decide +kernel
theorem dX3_cheapestEnd_13 : decode cX3_cheapestEnd 13 = .ok (.getfield 15, 3) := by decide +kernel
theorem dX3_cheapestEnd_16 : decode cX3_cheapestEnd 16 = .ok (.iload_n 2, 1) := by decide +kernel
theorem dX3_cheapestEnd_17 : decode cX3_cheapestEnd 17 = .ok (.iaload, 1) := by decide +kernel
theorem dX3_cheapestEnd_18 : decode cX3_cheapestEnd 18 = .ok (.ifCond .le 39, 3) := by decide +kernel
theorem dX3_cheapestEnd_21 : decode cX3_cheapestEnd 21 = .ok (.aload_n 0, 1) := by decide +kernel
theorem dX3_cheapestEnd_22 : decode cX3_cheapestEnd 22 = .ok (.getfield 22, 3) := by decide +kernel
theorem dX3_cheapestEnd_25 : decode cX3_cheapestEnd 25 = .ok (.iload_n 2, 1) := by decide +kernel
theorem dX3_cheapestEnd_26 : decode cX3_cheapestEnd 26 = .ok (.laload, 1) := by decide +kernel
theorem dX3_cheapestEnd_27 : decode cX3_cheapestEnd 27 = .ok (.ldc2_w 74, 3) := by decide +kernel
theorem dX3_cheapestEnd_30 : decode cX3_cheapestEnd 30 = .ok (.lcmp, 1) := by decide +kernel
theorem dX3_cheapestEnd_31 : decode cX3_cheapestEnd 31 = .ok (.ifCond .eq 26, 3) := by decide +kernel
theorem dX3_cheapestEnd_34 : decode cX3_cheapestEnd 34 = .ok (.iload_n 1, 1) := by decide +kernel
theorem dX3_cheapestEnd_35 : decode cX3_cheapestEnd 35 = .ok (.iconst (-1), 1) := by decide +kernel
theorem dX3_cheapestEnd_36 : decode cX3_cheapestEnd 36 = .ok (.if_icmp .eq 19, 3) := by decide +kernel
theorem dX3_cheapestEnd_39 : decode cX3_cheapestEnd 39 = .ok (.aload_n 0, 1) := by decide +kernel
theorem dX3_cheapestEnd_40 : decode cX3_cheapestEnd 40 = .ok (.getfield 22, 3) := by decide +kernel
theorem dX3_cheapestEnd_43 : decode cX3_cheapestEnd 43 = .ok (.iload_n 2, 1) := by decide +kernel
theorem dX3_cheapestEnd_44 : decode cX3_cheapestEnd 44 = .ok (.laload, 1) := by decide +kernel
theorem dX3_cheapestEnd_45 : decode cX3_cheapestEnd 45 = .ok (.aload_n 0, 1) := by decide +kernel
theorem dX3_cheapestEnd_46 : decode cX3_cheapestEnd 46 = .ok (.getfield 22, 3) := by decide +kernel
theorem dX3_cheapestEnd_49 : decode cX3_cheapestEnd 49 = .ok (.iload_n 1, 1) := by decide +kernel
theorem dX3_cheapestEnd_50 : decode cX3_cheapestEnd 50 = .ok (.laload, 1) := by decide +kernel
theorem dX3_cheapestEnd_51 : decode cX3_cheapestEnd 51 = .ok (.lcmp, 1) := by decide +kernel
theorem dX3_cheapestEnd_52 : decode cX3_cheapestEnd 52 = .ok (.ifCond .ge 5, 3) := by decide +kernel
theorem dX3_cheapestEnd_55 : decode cX3_cheapestEnd 55 = .ok (.iload_n 2, 1) := by decide +kernel
theorem dX3_cheapestEnd_56 : decode cX3_cheapestEnd 56 = .ok (.istore_n 1, 1) := by decide +kernel
theorem dX3_cheapestEnd_57 : decode cX3_cheapestEnd 57 = .ok (.iinc 2 1, 3) := by decide +kernel
theorem dX3_cheapestEnd_60 : decode cX3_cheapestEnd 60 = .ok (.goto (-56), 3) := by decide +kernel
theorem dX3_cheapestEnd_63 : decode cX3_cheapestEnd 63 = .ok (.iload_n 1, 1) := by decide +kernel
theorem dX3_cheapestEnd_64 : decode cX3_cheapestEnd 64 = .ok (.ireturn, 1) := by decide +kernel
