theorem dX1_add_0 : decode cX1_add 0 = .ok (.aload_n 0, 1) := by decide +kernel
theorem dX1_add_1 : decode cX1_add 1 = .ok (.getfield 27, 3) := by decide +kernel
theorem dX1_add_4 : decode cX1_add 4 = .ok (.sipush 200, 3) := by decide +kernel
theorem dX1_add_7 : decode cX1_add 7 = .ok (.if_icmp .lt 5, 3) := by decide +kernel
theorem dX1_add_10 : decode cX1_add 10 = .ok (.iconst (-1), 1) := by decide +kernel
theorem dX1_add_11 : decode cX1_add 11 = .ok (.ireturn, 1) := by decide +kernel
theorem dX1_add_12 : decode cX1_add 12 = .ok (.aload_n 0, 1) := by decide +kernel
theorem dX1_add_13 : decode cX1_add 13 = .ok (.getfield 9, 3) := by decide +kernel
theorem dX1_add_16 : decode cX1_add 16 = .ok (.aload_n 0, 1) := by decide +kernel
theorem dX1_add_17 : decode cX1_add 17 = .ok (.getfield 27, 3) := by decide +kernel
theorem dX1_add_20 : decode cX1_add 20 = .ok (.iload_n 1, 1) := by decide +kernel
theorem dX1_add_21 : decode cX1_add 21 = .ok (.iastore, 1) := by decide +kernel
theorem dX1_add_22 : decode cX1_add 22 = .ok (.aload_n 0, 1) := by decide +kernel
theorem dX1_add_23 : decode cX1_add 23 = .ok (.getfield 15, 3) := by decide +kernel
theorem dX1_add_26 : decode cX1_add 26 = .ok (.aload_n 0, 1) := by decide +kernel
theorem dX1_add_27 : decode cX1_add 27 = .ok (.getfield 27, 3) := by decide +kernel
theorem dX1_add_30 : decode cX1_add 30 = .ok (.iload_n 2, 1) := by decide +kernel
theorem dX1_add_31 : decode cX1_add 31 = .ok (.iastore, 1) := by decide +kernel
theorem dX1_add_32 : decode cX1_add 32 = .ok (.aload_n 0, 1) := by decide +kernel
theorem dX1_add_33 : decode cX1_add 33 = .ok (.getfield 18, 3) := by decide +kernel
theorem dX1_add_36 : decode cX1_add 36 = .ok (.aload_n 0, 1) := by decide +kernel
theorem dX1_add_37 : decode cX1_add 37 = .ok (.getfield 27, 3) := by decide +kernel
theorem dX1_add_40 : decode cX1_add 40 = .ok (.iload_n 3, 1) := by decide +kernel
theorem dX1_add_41 : decode cX1_add 41 = .ok (.iastore, 1) := by decide +kernel
theorem dX1_add_42 : decode cX1_add 42 = .ok (.aload_n 0, 1) := by decide +kernel
theorem dX1_add_43 : decode cX1_add 43 = .ok (.getfield 21, 3) := by decide +kernel
theorem dX1_add_46 : decode cX1_add 46 = .ok (.aload_n 0, 1) := by decide +kernel
theorem dX1_add_47 : decode cX1_add 47 = .ok (.getfield 27, 3) := by decide +kernel
theorem dX1_add_50 : decode cX1_add 50 = .ok (.iconst 0, 1) := by decide +kernel
theorem dX1_add_51 : decode cX1_add 51 = .ok (.iastore, 1) := by decide +kernel
theorem dX1_add_52 : decode cX1_add 52 = .ok (.aload_n 0, 1) := by decide +kernel
theorem dX1_add_53 : decode cX1_add 53 = .ok (.getfield 24, 3) := by decide +kernel
theorem dX1_add_56 : decode cX1_add 56 = .ok (.aload_n 0, 1) := by decide +kernel
theorem dX1_add_57 : decode cX1_add 57 = .ok (.getfield 27, 3) := by decide +kernel
theorem dX1_add_60 : decode cX1_add 60 = .ok (.iload 4, 2) := by decide +kernel
theorem dX1_add_62 : decode cX1_add 62 = .ok (.iastore, 1) := by decide +kernel
theorem dX1_add_63 : decode cX1_add 63 = .ok (.aload_n 0, 1) := by decide +kernel
theorem dX1_add_64 : decode cX1_add 64 = .ok (.dup, 1) := by decide +kernel
theorem dX1_add_65 : decode cX1_add 65 = .ok (.getfield 27, 3) := by decide +kernel
theorem dX1_add_68 : decode cX1_add 68 = .ok (.iconst 1, 1) := by decide +kernel
theorem dX1_add_69 : decode cX1_add 69 = .ok (.iadd, 1) := by decide +kernel
theorem dX1_add_70 : decode cX1_add 70 = .ok (.putfield 27, 3) := by decide +kernel
theorem dX1_add_73 : decode cX1_add 73 = .ok (.aload_n 0, 1) := by decide +kernel
theorem dX1_add_74 : decode cX1_add 74 = .ok (.getfield 27, 3) := by decide +kernel
theorem dX1_add_77 : decode cX1_add 77 = .ok (.iconst 1, 1) := by decide +kernel
theorem dX1_add_78 : decode cX1_add 78 = .ok (.isub, 1) := by decide +kernel
theorem dX1_add_79 : decode cX1_add 79 = .ok (.ireturn, 1) := by decide +kernel
theorem dX6_hold_0 : decode cX6_hold 0 = .ok (.aload_n 0, 1) := by decide +kernel
theorem dX6_hold_1 : decode cX6_hold 1 = .ok (.getfield 42, 3) := by decide +kernel
theorem dX6_hold_4 : decode cX6_hold 4 = .ok (.getfield 141, 3) := by decide +kernel
theorem dX6_hold_7 : decode cX6_hold 7 = .ok (.iload_n 1, 1) := by decide +kernel
theorem dX6_hold_8 : decode cX6_hold 8 = .ok (.sipush 200, 3) := by decide +kernel
theorem dX6_hold_11 : decode cX6_hold 11 = .ok (.imul, 1) := by decide +kernel
theorem dX6_hold_12 : decode cX6_hold 12 = .ok (.iload_n 2, 1) := by decide +kernel
theorem dX6_hold_13 : decode cX6_hold 13 = .ok (.iadd, 1) := by decide +kernel
theorem dX6_hold_14 : decode cX6_hold 14 = .ok (.dup2, 1) := by decide +kernel
theorem dX6_hold_15 : decode cX6_hold 15 = .ok (.iaload, 1) := by decide +kernel
theorem dX6_hold_16 : decode cX6_hold 16 = .ok (.iload_n 3, 1) := by decide +kernel
theorem dX6_hold_17 : decode cX6_hold 17 = .ok (.iadd, 1) := by decide +kernel
theorem dX6_hold_18 : decode cX6_hold 18 = .ok (.iastore, 1) := by decide +kernel
theorem dX6_hold_19 : decode cX6_hold 19 = .ok (.aload_n 0, 1) := by decide +kernel
theorem dX6_hold_20 : decode cX6_hold 20 = .ok (.getfield 42, 3) := by decide +kernel
theorem dX6_hold_23 : decode cX6_hold 23 = .ok (.getfield 144, 3) := by decide +kernel
theorem dX6_hold_26 : decode cX6_hold 26 = .ok (.iload_n 1, 1) := by decide +kernel
theorem dX6_hold_27 : decode cX6_hold 27 = .ok (.dup2, 1) := by decide +kernel
theorem dX6_hold_28 : decode cX6_hold 28 = .ok (.iaload, 1) := by decide +kernel
theorem dX6_hold_29 : decode cX6_hold 29 = .ok (.iload_n 3, 1) := by decide +kernel
theorem dX6_hold_30 : decode cX6_hold 30 = .ok (.iadd, 1) := by decide +kernel
theorem dX6_hold_31 : decode cX6_hold 31 = .ok (.iastore, 1) := by decide +kernel
theorem dX6_hold_32 : decode cX6_hold 32 = .ok (.aload_n 0, 1) := by decide +kernel
theorem dX6_hold_33 : decode cX6_hold 33 = .ok (.getfield 35, 3) := by decide +kernel
theorem dX6_hold_36 : decode cX6_hold 36 = .ok (.getfield 147, 3) := by decide +kernel
theorem dX6_hold_39 : decode cX6_hold 39 = .ok (.iload_n 2, 1) := by decide +kernel
theorem dX6_hold_40 : decode cX6_hold 40 = .ok (.dup2, 1) := by decide +kernel
theorem dX6_hold_41 : decode cX6_hold 41 = .ok (.iaload, 1) := by decide +kernel
theorem dX6_hold_42 : decode cX6_hold 42 = .ok (.iload_n 3, 1) := by decide +kernel
theorem dX6_hold_43 : decode cX6_hold 43 = .ok (.iadd, 1) := by decide +kernel
theorem dX6_hold_44 : decode cX6_hold 44 = .ok (.iastore, 1) := by decide +kernel
theorem dX6_hold_45 : decode cX6_hold 45 = .ok (.return_, 1) := by decide +kernel
theorem dX6_release_0 : decode cX6_release 0 = .ok (.iconst 0, 1) := by decide +kernel
theorem dX6_release_1 : decode cX6_release 1 = .ok (.istore_n 2, 1) := by decide +kernel
theorem dX6_release_2 : decode cX6_release 2 = .ok (.iload_n 2, 1) := by decide +kernel
theorem dX6_release_3 : decode cX6_release 3 = .ok (.aload_n 0, 1) := by decide +kernel
theorem dX6_release_4 : decode cX6_release 4 = .ok (.getfield 35, 3) := by decide +kernel
theorem dX6_release_7 : decode cX6_release 7 = .ok (.getfield 148, 3) := by decide +kernel
theorem dX6_release_10 : decode cX6_release 10 = .ok (.if_icmp .ge 25, 3) := by decide +kernel
theorem dX6_release_13 : decode cX6_release 13 = .ok (.aload_n 0, 1) := by decide +kernel
theorem dX6_release_14 : decode cX6_release 14 = .ok (.iload_n 1, 1) := by decide +kernel
theorem dX6_release_15 : decode cX6_release 15 = .ok (.iload_n 2, 1) := by decide +kernel
theorem dX6_release_16 : decode cX6_release 16 = .ok (.aload_n 0, 1) := by decide +kernel
theorem dX6_release_17 : decode cX6_release 17 = .ok (.getfield 42, 3) := by decide +kernel
theorem dX6_release_20 : decode cX6_release 20 = .ok (.iload_n 1, 1) := by decide +kernel
theorem dX6_release_21 : decode cX6_release 21 = .ok (.iload_n 2, 1) := by decide +kernel
theorem dX6_release_22 : decode cX6_release 22 = .ok (.invokevirtual 151, 3) := by decide +kernel
theorem dX6_release_25 : decode cX6_release 25 = .ok (.ineg, 1) := by decide +kernel
theorem dX6_release_26 : decode cX6_release 26 = .ok (.invokevirtual 154, 3) := by decide +kernel
theorem dX6_release_29 : decode cX6_release 29 = .ok (.iinc 2 1, 3) := by decide +kernel
theorem dX6_release_32 : decode cX6_release 32 = .ok (.goto (-30), 3) := by decide +kernel
theorem dX6_release_35 : decode cX6_release 35 = .ok (.return_, 1) := by decide +kernel
theorem dX6_reserveFor_0 : decode cX6_reserveFor 0 = .ok (.aload_n 0, 1) := by decide +kernel
theorem dX6_reserveFor_1 : decode cX6_reserveFor 1 = .ok (.getfield 42, 3) := by decide +kernel
theorem dX6_reserveFor_4 : decode cX6_reserveFor 4 = .ok (.getfield 158, 3) := by decide +kernel
theorem dX6_reserveFor_7 : decode cX6_reserveFor 7 = .ok (.iload_n 1, 1) := by decide +kernel
theorem dX6_reserveFor_8 : decode cX6_reserveFor 8 = .ok (.iaload, 1) := by decide +kernel
theorem dX6_reserveFor_9 : decode cX6_reserveFor 9 = .ok (.aload_n 0, 1) := by decide +kernel
theorem dX6_reserveFor_10 : decode cX6_reserveFor 10 = .ok (.getfield 60, 3) := by decide +kernel
theorem dX6_reserveFor_13 : decode cX6_reserveFor 13 = .ok (.invokestatic 123, 3) := by decide +kernel
theorem dX6_reserveFor_16 : decode cX6_reserveFor 16 = .ok (.aload_n 0, 1) := by decide +kernel
theorem dX6_reserveFor_17 : decode cX6_reserveFor 17 = .ok (.getfield 42, 3) := by decide +kernel
theorem dX6_reserveFor_20 : decode cX6_reserveFor 20 = .ok (.getfield 161, 3) := by decide +kernel
theorem dX6_reserveFor_23 : decode cX6_reserveFor 23 = .ok (.iload_n 1, 1) := by decide +kernel
theorem dX6_reserveFor_24 : decode cX6_reserveFor 24 = .ok (.iaload, 1) := by decide +kernel
theorem dX6_reserveFor_25 : decode cX6_reserveFor 25 = .ok (.iadd, 1) := by decide +kernel
theorem dX6_reserveFor_26 : decode cX6_reserveFor 26 = .ok (.istore_n 2, 1) := by decide +kernel
theorem dX6_reserveFor_27 : decode cX6_reserveFor 27 = .ok (.iconst 0, 1) := by decide +kernel
theorem dX6_reserveFor_28 : decode cX6_reserveFor 28 = .ok (.istore_n 3, 1) := by decide +kernel
theorem dX6_reserveFor_29 : decode cX6_reserveFor 29 = .ok (.iload_n 3, 1) := by decide +kernel
theorem dX6_reserveFor_30 : decode cX6_reserveFor 30 = .ok (.sipush 200, 3) := by decide +kernel
theorem dX6_reserveFor_33 : decode cX6_reserveFor 33 = .ok (.if_icmp .ge 82, 3) := by decide +kernel
theorem dX6_reserveFor_36 : decode cX6_reserveFor 36 = .ok (.aload_n 0, 1) := by decide +kernel
theorem dX6_reserveFor_37 : decode cX6_reserveFor 37 = .ok (.getfield 42, 3) := by decide +kernel
theorem dX6_reserveFor_40 : decode cX6_reserveFor 40 = .ok (.iload_n 1, 1) := by decide +kernel
theorem dX6_reserveFor_41 : decode cX6_reserveFor 41 = .ok (.invokevirtual 164, 3) := by decide +kernel
theorem dX6_reserveFor_44 : decode cX6_reserveFor 44 = .ok (.ifCond .le 71, 3) := by decide +kernel
theorem dX6_reserveFor_47 : decode cX6_reserveFor 47 = .ok (.aload_n 0, 1) := by decide +kernel
theorem dX6_reserveFor_48 : decode cX6_reserveFor 48 = .ok (.getfield 35, 3) := by decide +kernel
theorem dX6_reserveFor_51 : decode cX6_reserveFor 51 = .ok (.aload_n 0, 1) := by decide +kernel
theorem dX6_reserveFor_52 : decode cX6_reserveFor 52 = .ok (.getfield 42, 3) := by decide +kernel
theorem dX6_reserveFor_55 : decode cX6_reserveFor 55 = .ok (.getfield 167, 3) := by decide +kernel
theorem dX6_reserveFor_58 : decode cX6_reserveFor 58 = .ok (.iload_n 1, 1) := by decide +kernel
theorem dX6_reserveFor_59 : decode cX6_reserveFor 59 = .ok (.iaload, 1) := by decide +kernel
theorem dX6_reserveFor_60 : decode cX6_reserveFor 60 = .ok (.aload_n 0, 1) := by decide +kernel
theorem dX6_reserveFor_61 : decode cX6_reserveFor 61 = .ok (.getfield 42, 3) := by decide +kernel
theorem dX6_reserveFor_64 : decode cX6_reserveFor 64 = .ok (.getfield 170, 3) := by decide +kernel
theorem dX6_reserveFor_67 : decode cX6_reserveFor 67 = .ok (.iload_n 1, 1) := by decide +kernel
theorem dX6_reserveFor_68 : decode cX6_reserveFor 68 = .ok (.iaload, 1) := by decide +kernel
theorem dX6_reserveFor_69 : decode cX6_reserveFor 69 = .ok (.iload_n 2, 1) := by decide +kernel
theorem dX6_reserveFor_70 : decode cX6_reserveFor 70 = .ok (.invokevirtual 173, 3) := by decide +kernel
theorem dX6_reserveFor_73 : decode cX6_reserveFor 73 = .ok (.istore 4, 2) := by decide +kernel
theorem dX6_reserveFor_75 : decode cX6_reserveFor 75 = .ok (.iload 4, 2) := by decide +kernel
theorem dX6_reserveFor_77 : decode cX6_reserveFor 77 = .ok (.iconst (-1), 1) := by decide +kernel
theorem dX6_reserveFor_78 : decode cX6_reserveFor 78 = .ok (.if_icmp .ne 4, 3) := by decide +kernel
theorem dX6_reserveFor_81 : decode cX6_reserveFor 81 = .ok (.return_, 1) := by decide +kernel
theorem dX6_reserveFor_82 : decode cX6_reserveFor 82 = .ok (.aload_n 0, 1) := by decide +kernel
theorem dX6_reserveFor_83 : decode cX6_reserveFor 83 = .ok (.iload_n 1, 1) := by decide +kernel
theorem dX6_reserveFor_84 : decode cX6_reserveFor 84 = .ok (.iload 4, 2) := by decide +kernel
theorem dX6_reserveFor_86 : decode cX6_reserveFor 86 = .ok (.aload_n 0, 1) := by decide +kernel
theorem dX6_reserveFor_87 : decode cX6_reserveFor 87 = .ok (.getfield 42, 3) := by decide +kernel
theorem dX6_reserveFor_90 : decode cX6_reserveFor 90 = .ok (.iload_n 1, 1) := by decide +kernel
theorem dX6_reserveFor_91 : decode cX6_reserveFor 91 = .ok (.invokevirtual 164, 3) := by decide +kernel
theorem dX6_reserveFor_94 : decode cX6_reserveFor 94 = .ok (.aload_n 0, 1) := by decide +kernel
theorem dX6_reserveFor_95 : decode cX6_reserveFor 95 = .ok (.getfield 35, 3) := by decide +kernel
theorem dX6_reserveFor_98 : decode cX6_reserveFor 98 = .ok (.iload 4, 2) := by decide +kernel
theorem dX6_reserveFor_100 : decode cX6_reserveFor 100 = .ok (.invokevirtual 177, 3) := by decide +kernel
theorem dX6_reserveFor_103 : decode cX6_reserveFor 103 = .ok (.invokestatic 134, 3) := by decide +kernel
theorem dX6_reserveFor_106 : decode cX6_reserveFor 106 = .ok (.invokevirtual 154, 3) := by decide +kernel
theorem dX6_reserveFor_109 : decode cX6_reserveFor 109 = .ok (.iinc 3 1, 3) := by decide +kernel
theorem dX6_reserveFor_112 : decode cX6_reserveFor 112 = .ok (.goto (-83), 3) := by decide +kernel
theorem dX6_reserveFor_115 : decode cX6_reserveFor 115 = .ok (.return_, 1) := by decide +kernel
theorem dX6_shipOrder_0 : decode cX6_shipOrder 0 = .ok (.iconst 0, 1) := by decide +kernel
theorem dX6_shipOrder_1 : decode cX6_shipOrder 1 = .ok (.istore_n 2, 1) := by decide +kernel
theorem dX6_shipOrder_2 : decode cX6_shipOrder 2 = .ok (.iload_n 2, 1) := by decide +kernel
theorem dX6_shipOrder_3 : decode cX6_shipOrder 3 = .ok (.aload_n 0, 1) := by decide +kernel
theorem dX6_shipOrder_4 : decode cX6_shipOrder 4 = .ok (.getfield 35, 3) := by decide +kernel
theorem dX6_shipOrder_7 : decode cX6_shipOrder 7 = .ok (.getfield 148, 3) := by decide +kernel
theorem dX6_shipOrder_10 : decode cX6_shipOrder 10 = .ok (.if_icmp .ge 40, 3) := by decide +kernel
theorem dX6_shipOrder_13 : decode cX6_shipOrder 13 = .ok (.aload_n 0, 1) := by decide +kernel
theorem dX6_shipOrder_14 : decode cX6_shipOrder 14 = .ok (.getfield 42, 3) := by decide +kernel
theorem dX6_shipOrder_17 : decode cX6_shipOrder 17 = .ok (.iload_n 1, 1) := by decide +kernel
theorem dX6_shipOrder_18 : decode cX6_shipOrder 18 = .ok (.iload_n 2, 1) := by decide +kernel
theorem dX6_shipOrder_19 : decode cX6_shipOrder 19 = .ok (.invokevirtual 151, 3) := by decide +kernel
theorem dX6_shipOrder_22 : decode cX6_shipOrder 22 = .ok (.istore_n 3, 1) := by decide +kernel
theorem dX6_shipOrder_23 : decode cX6_shipOrder 23 = .ok (.aload_n 0, 1) := by decide +kernel
theorem dX6_shipOrder_24 : decode cX6_shipOrder 24 = .ok (.iload_n 1, 1) := by decide +kernel
theorem dX6_shipOrder_25 : decode cX6_shipOrder 25 = .ok (.iload_n 2, 1) := by decide +kernel
theorem dX6_shipOrder_26 : decode cX6_shipOrder 26 = .ok (.iload_n 3, 1) := by decide +kernel
theorem dX6_shipOrder_27 : decode cX6_shipOrder 27 = .ok (.ineg, 1) := by decide +kernel
theorem dX6_shipOrder_28 : decode cX6_shipOrder 28 = .ok (.invokevirtual 154, 3) := by decide +kernel
theorem dX6_shipOrder_31 : decode cX6_shipOrder 31 = .ok (.aload_n 0, 1) := by decide +kernel
theorem dX6_shipOrder_32 : decode cX6_shipOrder 32 = .ok (.getfield 35, 3) := by decide +kernel
theorem dX6_shipOrder_35 : decode cX6_shipOrder 35 = .ok (.getfield 195, 3) := by decide +kernel
theorem dX6_shipOrder_38 : decode cX6_shipOrder 38 = .ok (.iload_n 2, 1) := by decide +kernel
theorem dX6_shipOrder_39 : decode cX6_shipOrder 39 = .ok (.dup2, 1) := by decide +kernel
theorem dX6_shipOrder_40 : decode cX6_shipOrder 40 = .ok (.iaload, 1) := by decide +kernel
theorem dX6_shipOrder_41 : decode cX6_shipOrder 41 = .ok (.iload_n 3, 1) := by decide +kernel
theorem dX6_shipOrder_42 : decode cX6_shipOrder 42 = .ok (.isub, 1) := by decide +kernel
theorem dX6_shipOrder_43 : decode cX6_shipOrder 43 = .ok (.iastore, 1) := by decide +kernel
theorem dX6_shipOrder_44 : decode cX6_shipOrder 44 = .ok (.iinc 2 1, 3) := by decide +kernel
theorem dX6_shipOrder_47 : decode cX6_shipOrder 47 = .ok (.goto (-45), 3) := by decide +kernel
theorem dX6_shipOrder_50 : decode cX6_shipOrder 50 = .ok (.aload_n 0, 1) := by decide +kernel
theorem dX6_shipOrder_51 : decode cX6_shipOrder 51 = .ok (.getfield 42, 3) := by decide +kernel
theorem dX6_shipOrder_54 : decode cX6_shipOrder 54 = .ok (.getfield 189, 3) := by decide +kernel
theorem dX6_shipOrder_57 : decode cX6_shipOrder 57 = .ok (.iload_n 1, 1) := by decide +kernel
theorem dX6_shipOrder_58 : decode cX6_shipOrder 58 = .ok (.iconst 1, 1) := by decide +kernel
theorem dX6_shipOrder_59 : decode cX6_shipOrder 59 = .ok (.iastore, 1) := by decide +kernel
theorem dX6_shipOrder_60 : decode cX6_shipOrder 60 = .ok (.aload_n 0, 1) := by decide +kernel
theorem dX6_shipOrder_61 : decode cX6_shipOrder 61 = .ok (.getfield 42, 3) := by decide +kernel
theorem dX6_shipOrder_64 : decode cX6_shipOrder 64 = .ok (.getfield 198, 3) := by decide +kernel
theorem dX6_shipOrder_67 : decode cX6_shipOrder 67 = .ok (.iload_n 1, 1) := by decide +kernel
theorem dX6_shipOrder_68 : decode cX6_shipOrder 68 = .ok (.aload_n 0, 1) := by decide +kernel
theorem dX6_shipOrder_69 : decode cX6_shipOrder 69 = .ok (.getfield 60, 3) := by decide +kernel
theorem dX6_shipOrder_72 : decode cX6_shipOrder 72 = .ok (.iastore, 1) := by decide +kernel
theorem dX6_shipOrder_73 : decode cX6_shipOrder 73 = .ok (.aload_n 0, 1) := by decide +kernel
theorem dX6_shipOrder_74 : decode cX6_shipOrder 74 = .ok (.getfield 42, 3) := by decide +kernel
theorem dX6_shipOrder_77 : decode cX6_shipOrder 77 = .ok (.getfield 167, 3) := by decide +kernel
theorem dX6_shipOrder_80 : decode cX6_shipOrder 80 = .ok (.iload_n 1, 1) := by decide +kernel
theorem dX6_shipOrder_81 : decode cX6_shipOrder 81 = .ok (.iaload, 1) := by decide +kernel
theorem dX6_shipOrder_82 : decode cX6_shipOrder 82 = .ok (.istore_n 2, 1) := by decide +kernel
theorem dX6_shipOrder_83 : decode cX6_shipOrder 83 = .ok (.aload_n 0, 1) := by decide +kernel
theorem dX6_shipOrder_84 : decode cX6_shipOrder 84 = .ok (.getfield 42, 3) := by decide +kernel
theorem dX6_shipOrder_87 : decode cX6_shipOrder 87 = .ok (.getfield 201, 3) := by decide +kernel
theorem dX6_shipOrder_90 : decode cX6_shipOrder 90 = .ok (.iload_n 1, 1) := by decide +kernel
theorem dX6_shipOrder_91 : decode cX6_shipOrder 91 = .ok (.iaload, 1) := by decide +kernel
theorem dX6_shipOrder_92 : decode cX6_shipOrder 92 = .ok (.iconst 2, 1) := by decide +kernel
theorem dX6_shipOrder_93 : decode cX6_shipOrder 93 = .ok (.imul, 1) := by decide +kernel
theorem dX6_shipOrder_94 : decode cX6_shipOrder 94 = .ok (.aload_n 0, 1) := by decide +kernel
theorem dX6_shipOrder_95 : decode cX6_shipOrder 95 = .ok (.getfield 12, 3) := by decide +kernel
theorem dX6_shipOrder_98 : decode cX6_shipOrder 98 = .ok (.iload_n 2, 1) := by decide +kernel
theorem dX6_shipOrder_99 : decode cX6_shipOrder 99 = .ok (.invokevirtual 202, 3) := by decide +kernel
theorem dX6_shipOrder_102 : decode cX6_shipOrder 102 = .ok (.imul, 1) := by decide +kernel
theorem dX6_shipOrder_103 : decode cX6_shipOrder 103 = .ok (.istore_n 3, 1) := by decide +kernel
theorem dX6_shipOrder_104 : decode cX6_shipOrder 104 = .ok (.aload_n 0, 1) := by decide +kernel
theorem dX6_shipOrder_105 : decode cX6_shipOrder 105 = .ok (.getfield 53, 3) := by decide +kernel
theorem dX6_shipOrder_108 : decode cX6_shipOrder 108 = .ok (.iconst 4, 1) := by decide +kernel
theorem dX6_shipOrder_109 : decode cX6_shipOrder 109 = .ok (.dup2, 1) := by decide +kernel
theorem dX6_shipOrder_110 : decode cX6_shipOrder 110 = .ok (.iaload, 1) := by decide +kernel
theorem dX6_shipOrder_111 : decode cX6_shipOrder 111 = .ok (.iload_n 3, 1) := by decide +kernel
theorem dX6_shipOrder_112 : decode cX6_shipOrder 112 = .ok (.iadd, 1) := by decide +kernel
theorem dX6_shipOrder_113 : decode cX6_shipOrder 113 = .ok (.iastore, 1) := by decide +kernel
theorem dX6_shipOrder_114 : decode cX6_shipOrder 114 = .ok (.aload_n 0, 1) := by decide +kernel
theorem dX6_shipOrder_115 : decode cX6_shipOrder 115 = .ok (.getfield 12, 3) := by decide +kernel
theorem dX6_shipOrder_118 : decode cX6_shipOrder 118 = .ok (.iload_n 2, 1) := by decide +kernel
theorem dX6_shipOrder_119 : decode cX6_shipOrder 119 = .ok (.invokevirtual 205, 3) := by decide +kernel
theorem dX6_shipOrder_122 : decode cX6_shipOrder 122 = .ok (.ifCond .eq 16, 3) := by decide +kernel
theorem dX6_shipOrder_125 : decode cX6_shipOrder 125 = .ok (.aload_n 0, 1) := by decide +kernel
theorem dX6_shipOrder_126 : decode cX6_shipOrder 126 = .ok (.getfield 12, 3) := by decide +kernel
theorem dX6_shipOrder_129 : decode cX6_shipOrder 129 = .ok (.getfield 206, 3) := by decide +kernel
theorem dX6_shipOrder_132 : decode cX6_shipOrder 132 = .ok (.iload_n 2, 1) := by decide +kernel
theorem dX6_shipOrder_133 : decode cX6_shipOrder 133 = .ok (.dup2, 1) := by decide +kernel
theorem dX6_shipOrder_134 : decode cX6_shipOrder 134 = .ok (.iaload, 1) := by decide +kernel
theorem dX6_shipOrder_135 : decode cX6_shipOrder 135 = .ok (.iload_n 3, 1) := by decide +kernel
theorem dX6_shipOrder_136 : decode cX6_shipOrder 136 = .ok (.iadd, 1) := by decide +kernel
theorem dX6_shipOrder_137 : decode cX6_shipOrder 137 = .ok (.iastore, 1) := by decide +kernel
theorem dX6_shipOrder_138 : decode cX6_shipOrder 138 = .ok (.return_, 1) := by decide +kernel
theorem dX6_waste_0 : decode cX6_waste 0 = .ok (.aload_n 0, 1) := by decide +kernel
theorem dX6_waste_1 : decode cX6_waste 1 = .ok (.getfield 53, 3) := by decide +kernel
theorem dX6_waste_4 : decode cX6_waste 4 = .ok (.iconst 1, 1) := by decide +kernel
theorem dX6_waste_5 : decode cX6_waste 5 = .ok (.dup2, 1) := by decide +kernel
theorem dX6_waste_6 : decode cX6_waste 6 = .ok (.iaload, 1) := by decide +kernel
theorem dX6_waste_7 : decode cX6_waste 7 = .ok (.iload_n 2, 1) := by decide +kernel
theorem dX6_waste_8 : decode cX6_waste 8 = .ok (.aload_n 0, 1) := by decide +kernel
theorem dX6_waste_9 : decode cX6_waste 9 = .ok (.getfield 12, 3) := by decide +kernel
theorem dX6_waste_12 : decode cX6_waste 12 = .ok (.iload_n 1, 1) := by decide +kernel
theorem dX6_waste_13 : decode cX6_waste 13 = .ok (.invokevirtual 202, 3) := by decide +kernel
theorem dX6_waste_16 : decode cX6_waste 16 = .ok (.imul, 1) := by decide +kernel
theorem dX6_waste_17 : decode cX6_waste 17 = .ok (.iadd, 1) := by decide +kernel
theorem dX6_waste_18 : decode cX6_waste 18 = .ok (.iastore, 1) := by decide +kernel
theorem dX6_waste_19 : decode cX6_waste 19 = .ok (.return_, 1) := by decide +kernel
theorem dX7_add_0 : decode cX7_add 0 = .ok (.aload_n 0, 1) := by decide +kernel
theorem dX7_add_1 : decode cX7_add 1 = .ok (.invokevirtual 34, 3) := by decide +kernel
theorem dX7_add_4 : decode cX7_add 4 = .ok (.ifCond .eq 4, 3) := by decide +kernel
theorem dX7_add_7 : decode cX7_add 7 = .ok (.return_, 1) := by decide +kernel
theorem dX7_add_8 : decode cX7_add 8 = .ok (.aload_n 0, 1) := by decide +kernel
theorem dX7_add_9 : decode cX7_add 9 = .ok (.getfield 9, 3) := by decide +kernel
theorem dX7_add_12 : decode cX7_add 12 = .ok (.aload_n 0, 1) := by decide +kernel
theorem dX7_add_13 : decode cX7_add 13 = .ok (.getfield 30, 3) := by decide +kernel
theorem dX7_add_16 : decode cX7_add 16 = .ok (.iload_n 1, 1) := by decide +kernel
theorem dX7_add_17 : decode cX7_add 17 = .ok (.iastore, 1) := by decide +kernel
theorem dX7_add_18 : decode cX7_add 18 = .ok (.aload_n 0, 1) := by decide +kernel
theorem dX7_add_19 : decode cX7_add 19 = .ok (.getfield 15, 3) := by decide +kernel
theorem dX7_add_22 : decode cX7_add 22 = .ok (.aload_n 0, 1) := by decide +kernel
theorem dX7_add_23 : decode cX7_add 23 = .ok (.getfield 30, 3) := by decide +kernel
theorem dX7_add_26 : decode cX7_add 26 = .ok (.iload_n 2, 1) := by decide +kernel
theorem dX7_add_27 : decode cX7_add 27 = .ok (.iastore, 1) := by decide +kernel
theorem dX7_add_28 : decode cX7_add 28 = .ok (.aload_n 0, 1) := by decide +kernel
theorem dX7_add_29 : decode cX7_add 29 = .ok (.getfield 18, 3) := by decide +kernel
theorem dX7_add_32 : decode cX7_add 32 = .ok (.aload_n 0, 1) := by decide +kernel
theorem dX7_add_33 : decode cX7_add 33 = .ok (.getfield 30, 3) := by decide +kernel
theorem dX7_add_36 : decode cX7_add 36 = .ok (.iload_n 3, 1) := by decide +kernel
theorem dX7_add_37 : decode cX7_add 37 = .ok (.iastore, 1) := by decide +kernel
theorem dX7_add_38 : decode cX7_add 38 = .ok (.aload_n 0, 1) := by decide +kernel
theorem dX7_add_39 : decode cX7_add 39 = .ok (.getfield 21, 3) := by decide +kernel
theorem dX7_add_42 : decode cX7_add 42 = .ok (.aload_n 0, 1) := by decide +kernel
theorem dX7_add_43 : decode cX7_add 43 = .ok (.getfield 30, 3) := by decide +kernel
theorem dX7_add_46 : decode cX7_add 46 = .ok (.iload 4, 2) := by decide +kernel
theorem dX7_add_48 : decode cX7_add 48 = .ok (.iastore, 1) := by decide +kernel
theorem dX7_add_49 : decode cX7_add 49 = .ok (.aload_n 0, 1) := by decide +kernel
theorem dX7_add_50 : decode cX7_add 50 = .ok (.getfield 24, 3) := by decide +kernel
theorem dX7_add_53 : decode cX7_add 53 = .ok (.aload_n 0, 1) := by decide +kernel
theorem dX7_add_54 : decode cX7_add 54 = .ok (.getfield 30, 3) := by decide +kernel
theorem dX7_add_57 : decode cX7_add 57 = .ok (.iload 5, 2) := by decide +kernel
theorem dX7_add_59 : decode cX7_add 59 = .ok (.iastore, 1) := by decide +kernel
theorem dX7_add_60 : decode cX7_add 60 = .ok (.aload_n 0, 1) := by decide +kernel
theorem dX7_add_61 : decode cX7_add 61 = .ok (.getfield 27, 3) := by decide +kernel
theorem dX7_add_64 : decode cX7_add 64 = .ok (.aload_n 0, 1) := by decide +kernel
theorem dX7_add_65 : decode cX7_add 65 = .ok (.getfield 30, 3) := by decide +kernel
theorem dX7_add_68 : decode cX7_add 68 = .ok (.iconst 1, 1) := by decide +kernel
theorem dX7_add_69 : decode cX7_add 69 = .ok (.iastore, 1) := by decide +kernel
theorem dX7_add_70 : decode cX7_add 70 = .ok (.aload_n 0, 1) := by decide +kernel
theorem dX7_add_71 : decode cX7_add 71 = .ok (.dup, 1) := by decide +kernel
theorem dX7_add_72 : decode cX7_add 72 = .ok (.getfield 30, 3) := by decide +kernel
theorem dX7_add_75 : decode cX7_add 75 = .ok (.iconst 1, 1) := by decide +kernel
theorem dX7_add_76 : decode cX7_add 76 = .ok (.iadd, 1) := by decide +kernel
theorem dX7_add_77 : decode cX7_add 77 = .ok (.putfield 30, 3) := by decide +kernel
theorem dX7_add_80 : decode cX7_add 80 = .ok (.return_, 1) := by decide +kernel
