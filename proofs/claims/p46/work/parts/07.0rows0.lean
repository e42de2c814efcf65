theorem dX0_priceOf_0 : decode cX0_priceOf 0 = .ok (.aload_n 0, 1) := by decide +kernel
theorem dX0_priceOf_1 : decode cX0_priceOf 1 = .ok (.iload_n 1, 1) := by decide +kernel
theorem dX0_priceOf_2 : decode cX0_priceOf 2 = .ok (.invokevirtual 28, 3) := by decide +kernel
theorem dX0_priceOf_5 : decode cX0_priceOf 5 = .ok (.ifCond .eq 12, 3) := by decide +kernel
theorem dX0_priceOf_8 : decode cX0_priceOf 8 = .ok (.aload_n 0, 1) := by decide +kernel
theorem dX0_priceOf_9 : decode cX0_priceOf 9 = .ok (.getfield 15, 3) := by decide +kernel
theorem dX0_priceOf_12 : decode cX0_priceOf 12 = .ok (.iload_n 1, 1) := by decide +kernel
theorem dX0_priceOf_13 : decode cX0_priceOf 13 = .ok (.iaload, 1) := by decide +kernel
theorem dX0_priceOf_14 : decode cX0_priceOf 14 = .ok (.goto 4, 3) := by decide +kernel
theorem dX0_priceOf_17 : decode cX0_priceOf 17 = .ok (.iconst 0, 1) := by decide +kernel
theorem dX0_priceOf_18 : decode cX0_priceOf 18 = .ok (.ireturn, 1) := by decide +kernel
theorem dX0_inPacks_0 : decode cX0_inPacks 0 = .ok (.aload_n 0, 1) := by decide +kernel
theorem dX0_inPacks_1 : decode cX0_inPacks 1 = .ok (.iload_n 1, 1) := by decide +kernel
theorem dX0_inPacks_2 : decode cX0_inPacks 2 = .ok (.invokevirtual 28, 3) := by decide +kernel
theorem dX0_inPacks_5 : decode cX0_inPacks 5 = .ok (.ifCond .eq 12, 3) := by decide +kernel
theorem dX0_inPacks_8 : decode cX0_inPacks 8 = .ok (.aload_n 0, 1) := by decide +kernel
theorem dX0_inPacks_9 : decode cX0_inPacks 9 = .ok (.getfield 18, 3) := by decide +kernel
theorem dX0_inPacks_12 : decode cX0_inPacks 12 = .ok (.iload_n 1, 1) := by decide +kernel
theorem dX0_inPacks_13 : decode cX0_inPacks 13 = .ok (.iaload, 1) := by decide +kernel
theorem dX0_inPacks_14 : decode cX0_inPacks 14 = .ok (.ifCond .gt 5, 3) := by decide +kernel
theorem dX0_inPacks_17 : decode cX0_inPacks 17 = .ok (.iload_n 2, 1) := by decide +kernel
theorem dX0_inPacks_18 : decode cX0_inPacks 18 = .ok (.ireturn, 1) := by decide +kernel
theorem dX0_inPacks_19 : decode cX0_inPacks 19 = .ok (.iload_n 2, 1) := by decide +kernel
theorem dX0_inPacks_20 : decode cX0_inPacks 20 = .ok (.aload_n 0, 1) := by decide +kernel
theorem dX0_inPacks_21 : decode cX0_inPacks 21 = .ok (.getfield 18, 3) := by decide +kernel
theorem dX0_inPacks_24 : decode cX0_inPacks 24 = .ok (.iload_n 1, 1) := by decide +kernel
theorem dX0_inPacks_25 : decode cX0_inPacks 25 = .ok (.iaload, 1) := by decide +kernel
theorem dX0_inPacks_26 : decode cX0_inPacks 26 = .ok (.irem, 1) := by decide +kernel
theorem dX0_inPacks_27 : decode cX0_inPacks 27 = .ok (.istore_n 3, 1) := by decide +kernel
theorem dX0_inPacks_28 : decode cX0_inPacks 28 = .ok (.iload_n 3, 1) := by decide +kernel
theorem dX0_inPacks_29 : decode cX0_inPacks 29 = .ok (.ifCond .ne 7, 3) := by decide +kernel
theorem dX0_inPacks_32 : decode cX0_inPacks 32 = .ok (.iload_n 2, 1) := by decide +kernel
theorem dX0_inPacks_33 : decode cX0_inPacks 33 = .ok (.goto 13, 3) := by decide +kernel
theorem dX0_inPacks_36 : decode cX0_inPacks 36 = .ok (.iload_n 2, 1) := by decide +kernel
theorem dX0_inPacks_37 : decode cX0_inPacks 37 = .ok (.aload_n 0, 1) := by decide +kernel
theorem dX0_inPacks_38 : decode cX0_inPacks 38 = .ok (.getfield 18, 3) := by decide +kernel
theorem dX0_inPacks_41 : decode cX0_inPacks 41 = .ok (.iload_n 1, 1) := by decide +kernel
theorem dX0_inPacks_42 : decode cX0_inPacks 42 = .ok (.iaload, 1) := by decide +kernel
theorem dX0_inPacks_43 : decode cX0_inPacks 43 = .ok (.iadd, 1) := by decide +kernel
theorem dX0_inPacks_44 : decode cX0_inPacks 44 = .ok (.iload_n 3, 1) := by decide +kernel
theorem dX0_inPacks_45 : decode cX0_inPacks 45 = .ok (.isub, 1) := by decide +kernel
theorem dX0_inPacks_46 : decode cX0_inPacks 46 = .ok (.ireturn, 1) := by decide +kernel
theorem dX0_classFor_0 : decode cX0_classFor 0 = .ok (.iconst 0, 1) := by decide +kernel
theorem dX0_classFor_1 : decode cX0_classFor 1 = .ok (.istore_n 2, 1) := by decide +kernel
theorem dX0_classFor_2 : decode cX0_classFor 2 = .ok (.iconst 0, 1) := by decide +kernel
theorem dX0_classFor_3 : decode cX0_classFor 3 = .ok (.istore_n 3, 1) := by decide +kernel
theorem dX0_classFor_4 : decode cX0_classFor 4 = .ok (.iconst 0, 1) := by decide +kernel
theorem dX0_classFor_5 : decode cX0_classFor 5 = .ok (.istore 4, 2) := by decide +kernel
theorem dX0_classFor_7 : decode cX0_classFor 7 = .ok (.iload 4, 2) := by decide +kernel
theorem dX0_classFor_9 : decode cX0_classFor 9 = .ok (.aload_n 0, 1) := by decide +kernel
theorem dX0_classFor_10 : decode cX0_classFor 10 = .ok (.getfield 24, 3) := by decide +kernel
theorem dX0_classFor_13 : decode cX0_classFor 13 = .ok (.if_icmp .ge 67, 3) := by decide +kernel
theorem dX0_classFor_16 : decode cX0_classFor 16 = .ok (.iload_n 2, 1) := by decide +kernel
theorem dX0_classFor_17 : decode cX0_classFor 17 = .ok (.aload_n 0, 1) := by decide +kernel
theorem dX0_classFor_18 : decode cX0_classFor 18 = .ok (.getfield 21, 3) := by decide +kernel
theorem dX0_classFor_21 : decode cX0_classFor 21 = .ok (.iload 4, 2) := by decide +kernel
theorem dX0_classFor_23 : decode cX0_classFor 23 = .ok (.iaload, 1) := by decide +kernel
theorem dX0_classFor_24 : decode cX0_classFor 24 = .ok (.iadd, 1) := by decide +kernel
theorem dX0_classFor_25 : decode cX0_classFor 25 = .ok (.istore_n 2, 1) := by decide +kernel
theorem dX0_classFor_26 : decode cX0_classFor 26 = .ok (.aload_n 0, 1) := by decide +kernel
theorem dX0_classFor_27 : decode cX0_classFor 27 = .ok (.getfield 21, 3) := by decide +kernel
theorem dX0_classFor_30 : decode cX0_classFor 30 = .ok (.iload 4, 2) := by decide +kernel
theorem dX0_classFor_32 : decode cX0_classFor 32 = .ok (.iaload, 1) := by decide +kernel
theorem dX0_classFor_33 : decode cX0_classFor 33 = .ok (.aload_n 0, 1) := by decide +kernel
theorem dX0_classFor_34 : decode cX0_classFor 34 = .ok (.getfield 21, 3) := by decide +kernel
theorem dX0_classFor_37 : decode cX0_classFor 37 = .ok (.iload_n 1, 1) := by decide +kernel
theorem dX0_classFor_38 : decode cX0_classFor 38 = .ok (.iaload, 1) := by decide +kernel
theorem dX0_classFor_39 : decode cX0_classFor 39 = .ok (.if_icmp .gt 25, 3) := by decide +kernel
theorem dX0_classFor_42 : decode cX0_classFor 42 = .ok (.aload_n 0, 1) := by decide +kernel
theorem dX0_classFor_43 : decode cX0_classFor 43 = .ok (.getfield 21, 3) := by decide +kernel
theorem dX0_classFor_46 : decode cX0_classFor 46 = .ok (.iload 4, 2) := by decide +kernel
theorem dX0_classFor_48 : decode cX0_classFor 48 = .ok (.iaload, 1) := by decide +kernel
theorem dX0_classFor_49 : decode cX0_classFor 49 = .ok (.aload_n 0, 1) := by decide +kernel
theorem dX0_classFor_50 : decode cX0_classFor 50 = .ok (.getfield 21, 3) := by decide +kernel
theorem dX0_classFor_53 : decode cX0_classFor 53 = .ok (.iload_n 1, 1) := by decide +kernel
theorem dX0_classFor_54 : decode cX0_classFor 54 = .ok (.iaload, 1) := by decide +kernel
theorem dX0_classFor_55 : decode cX0_classFor 55 = .ok (.if_icmp .ne 19, 3) := by decide +kernel
theorem dX0_classFor_58 : decode cX0_classFor 58 = .ok (.iload 4, 2) := by decide +kernel
theorem dX0_classFor_60 : decode cX0_classFor 60 = .ok (.iload_n 1, 1) := by decide +kernel
theorem dX0_classFor_61 : decode cX0_classFor 61 = .ok (.if_icmp .ge 13, 3) := by decide +kernel
theorem dX0_classFor_64 : decode cX0_classFor 64 = .ok (.iload_n 3, 1) := by decide +kernel
theorem dX0_classFor_65 : decode cX0_classFor 65 = .ok (.aload_n 0, 1) := by decide +kernel
theorem dX0_classFor_66 : decode cX0_classFor 66 = .ok (.getfield 21, 3) := by decide +kernel
theorem dX0_classFor_69 : decode cX0_classFor 69 = .ok (.iload 4, 2) := by decide +kernel
theorem dX0_classFor_71 : decode cX0_classFor 71 = .ok (.iaload, 1) := by decide +kernel
theorem dX0_classFor_72 : decode cX0_classFor 72 = .ok (.iadd, 1) := by decide +kernel
theorem dX0_classFor_73 : decode cX0_classFor 73 = .ok (.istore_n 3, 1) := by decide +kernel
theorem dX0_classFor_74 : decode cX0_classFor 74 = .ok (.iinc 4 1, 3) := by decide +kernel
theorem dX0_classFor_77 : decode cX0_classFor 77 = .ok (.goto (-70), 3) := by decide +kernel
theorem dX0_classFor_80 : decode cX0_classFor 80 = .ok (.iload_n 3, 1) := by decide +kernel
theorem dX0_classFor_81 : decode cX0_classFor 81 = .ok (.bipush 100, 2) := by decide +kernel
theorem dX0_classFor_83 : decode cX0_classFor 83 = .ok (.imul, 1) := by decide +kernel
theorem dX0_classFor_84 : decode cX0_classFor 84 = .ok (.iload_n 2, 1) := by decide +kernel
theorem dX0_classFor_85 : decode cX0_classFor 85 = .ok (.bipush 80, 2) := by decide +kernel
theorem dX0_classFor_87 : decode cX0_classFor 87 = .ok (.imul, 1) := by decide +kernel
theorem dX0_classFor_88 : decode cX0_classFor 88 = .ok (.if_icmp .ge 5, 3) := by decide +kernel
theorem dX0_classFor_91 : decode cX0_classFor 91 = .ok (.iconst 0, 1) := by decide +kernel
theorem dX0_classFor_92 : decode cX0_classFor 92 = .ok (.ireturn, 1) := by decide +kernel
theorem dX0_classFor_93 : decode cX0_classFor 93 = .ok (.iload_n 3, 1) := by decide +kernel
theorem dX0_classFor_94 : decode cX0_classFor 94 = .ok (.bipush 100, 2) := by decide +kernel
theorem dX0_classFor_96 : decode cX0_classFor 96 = .ok (.imul, 1) := by decide +kernel
theorem dX0_classFor_97 : decode cX0_classFor 97 = .ok (.iload_n 2, 1) := by decide +kernel
theorem dX0_classFor_98 : decode cX0_classFor 98 = .ok (.bipush 95, 2) := by decide +kernel
theorem dX0_classFor_100 : decode cX0_classFor 100 = .ok (.imul, 1) := by decide +kernel
theorem dX0_classFor_101 : decode cX0_classFor 101 = .ok (.if_icmp .ge 7, 3) := by decide +kernel
theorem dX0_classFor_104 : decode cX0_classFor 104 = .ok (.iconst 1, 1) := by decide +kernel
theorem dX0_classFor_105 : decode cX0_classFor 105 = .ok (.goto 4, 3) := by decide +kernel
theorem dX0_classFor_108 : decode cX0_classFor 108 = .ok (.iconst 2, 1) := by decide +kernel
theorem dX0_classFor_109 : decode cX0_classFor 109 = .ok (.ireturn, 1) := by decide +kernel
theorem dX1_tell_0 : decode cX1_tell 0 = .ok (.iload_n 2, 1) := by decide +kernel
theorem dX1_tell_1 : decode cX1_tell 1 = .ok (.tableswitch 59 0 3 #[31, 38, 45, 52], 31) := by decide +kernel
theorem dX1_tell_32 : decode cX1_tell 32 = .ok (.aload_n 0, 1) := by decide +kernel
theorem dX1_tell_33 : decode cX1_tell 33 = .ok (.getfield 9, 3) := by decide +kernel
theorem dX1_tell_36 : decode cX1_tell 36 = .ok (.iload_n 1, 1) := by decide +kernel
theorem dX1_tell_37 : decode cX1_tell 37 = .ok (.iaload, 1) := by decide +kernel
theorem dX1_tell_38 : decode cX1_tell 38 = .ok (.ireturn, 1) := by decide +kernel
theorem dX1_tell_39 : decode cX1_tell 39 = .ok (.aload_n 0, 1) := by decide +kernel
theorem dX1_tell_40 : decode cX1_tell 40 = .ok (.getfield 15, 3) := by decide +kernel
theorem dX1_tell_43 : decode cX1_tell 43 = .ok (.iload_n 1, 1) := by decide +kernel
theorem dX1_tell_44 : decode cX1_tell 44 = .ok (.iaload, 1) := by decide +kernel
theorem dX1_tell_45 : decode cX1_tell 45 = .ok (.ireturn, 1) := by decide +kernel
theorem dX1_tell_46 : decode cX1_tell 46 = .ok (.aload_n 0, 1) := by decide +kernel
theorem dX1_tell_47 : decode cX1_tell 47 = .ok (.getfield 18, 3) := by decide +kernel
theorem dX1_tell_50 : decode cX1_tell 50 = .ok (.iload_n 1, 1) := by decide +kernel
theorem dX1_tell_51 : decode cX1_tell 51 = .ok (.iaload, 1) := by decide +kernel
theorem dX1_tell_52 : decode cX1_tell 52 = .ok (.ireturn, 1) := by decide +kernel
theorem dX1_tell_53 : decode cX1_tell 53 = .ok (.aload_n 0, 1) := by decide +kernel
theorem dX1_tell_54 : decode cX1_tell 54 = .ok (.getfield 21, 3) := by decide +kernel
theorem dX1_tell_57 : decode cX1_tell 57 = .ok (.iload_n 1, 1) := by decide +kernel
theorem dX1_tell_58 : decode cX1_tell 58 = .ok (.iaload, 1) := by decide +kernel
theorem dX1_tell_59 : decode cX1_tell 59 = .ok (.ireturn, 1) := by decide +kernel
theorem dX1_tell_60 : decode cX1_tell 60 = .ok (.aload_n 0, 1) := by decide +kernel
theorem dX1_tell_61 : decode cX1_tell 61 = .ok (.getfield 24, 3) := by decide +kernel
theorem dX1_tell_64 : decode cX1_tell 64 = .ok (.iload_n 1, 1) := by decide +kernel
theorem dX1_tell_65 : decode cX1_tell 65 = .ok (.iaload, 1) := by decide +kernel
theorem dX1_tell_66 : decode cX1_tell 66 = .ok (.ireturn, 1) := by decide +kernel
theorem dX1_firstFree_0 : decode cX1_firstFree 0 = .ok (.iconst (-1), 1) := by decide +kernel
theorem dX1_firstFree_1 : decode cX1_firstFree 1 = .ok (.istore 4, 2) := by decide +kernel
theorem dX1_firstFree_3 : decode cX1_firstFree 3 = .ok (.iconst 0, 1) := by decide +kernel
theorem dX1_firstFree_4 : decode cX1_firstFree 4 = .ok (.istore 5, 2) := by decide +kernel
theorem dX1_firstFree_6 : decode cX1_firstFree 6 = .ok (.iload 5, 2) := by decide +kernel
theorem dX1_firstFree_8 : decode cX1_firstFree 8 = .ok (.aload_n 0, 1) := by decide +kernel
theorem dX1_firstFree_9 : decode cX1_firstFree 9 = .ok (.getfield 27, 3) := by decide +kernel
theorem dX1_firstFree_12 : decode cX1_firstFree 12 = .ok (.if_icmp .ge 78, 3) := by decide +kernel
theorem dX1_firstFree_15 : decode cX1_firstFree 15 = .ok (.aload_n 0, 1) := by decide +kernel
theorem dX1_firstFree_16 : decode cX1_firstFree 16 = .ok (.getfield 9, 3) := by decide +kernel
theorem dX1_firstFree_19 : decode cX1_firstFree 19 = .ok (.iload 5, 2) := by decide +kernel
theorem dX1_firstFree_21 : decode cX1_firstFree 21 = .ok (.iaload, 1) := by decide +kernel
theorem dX1_firstFree_22 : decode cX1_firstFree 22 = .ok (.iload_n 1, 1) := by decide +kernel
theorem dX1_firstFree_23 : decode cX1_firstFree 23 = .ok (.if_icmp .ne 61, 3) := by decide +kernel
theorem dX1_firstFree_26 : decode cX1_firstFree 26 = .ok (.aload_n 0, 1) := by decide +kernel
theorem dX1_firstFree_27 : decode cX1_firstFree 27 = .ok (.getfield 15, 3) := by decide +kernel
theorem dX1_firstFree_30 : decode cX1_firstFree 30 = .ok (.iload 5, 2) := by decide +kernel
theorem dX1_firstFree_32 : decode cX1_firstFree 32 = .ok (.iaload, 1) := by decide +kernel
theorem dX1_firstFree_33 : decode cX1_firstFree 33 = .ok (.iload_n 2, 1) := by decide +kernel
theorem dX1_firstFree_34 : decode cX1_firstFree 34 = .ok (.if_icmp .ne 50, 3) := by decide +kernel
theorem dX1_firstFree_37 : decode cX1_firstFree 37 = .ok (.aload_n 0, 1) := by decide +kernel
theorem dX1_firstFree_38 : decode cX1_firstFree 38 = .ok (.getfield 24, 3) := by decide +kernel
theorem dX1_firstFree_41 : decode cX1_firstFree 41 = .ok (.iload 5, 2) := by decide +kernel
theorem dX1_firstFree_43 : decode cX1_firstFree 43 = .ok (.iaload, 1) := by decide +kernel
theorem dX1_firstFree_44 : decode cX1_firstFree 44 = .ok (.iload_n 3, 1) := by decide +kernel
theorem dX1_firstFree_45 : decode cX1_firstFree 45 = .ok (.if_icmp .lt 39, 3) := by decide +kernel
theorem dX1_firstFree_48 : decode cX1_firstFree 48 = .ok (.aload_n 0, 1) := by decide +kernel
theorem dX1_firstFree_49 : decode cX1_firstFree 49 = .ok (.iload 5, 2) := by decide +kernel
theorem dX1_firstFree_51 : decode cX1_firstFree 51 = .ok (.invokevirtual 39, 3) := by decide +kernel
theorem dX1_firstFree_54 : decode cX1_firstFree 54 = .ok (.ifCond .le 30, 3) := by decide +kernel
theorem dX1_firstFree_57 : decode cX1_firstFree 57 = .ok (.iload 4, 2) := by decide +kernel
theorem dX1_firstFree_59 : decode cX1_firstFree 59 = .ok (.iconst (-1), 1) := by decide +kernel
theorem dX1_firstFree_60 : decode cX1_firstFree 60 = .ok (.if_icmp .eq 20, 3) := by decide +kernel
theorem dX1_firstFree_63 : decode cX1_firstFree 63 = .ok (.aload_n 0, 1) := by decide +kernel
theorem dX1_firstFree_64 : decode cX1_firstFree 64 = .ok (.getfield 24, 3) := by decide +kernel
theorem dX1_firstFree_67 : decode cX1_firstFree 67 = .ok (.iload 5, 2) := by decide +kernel
theorem dX1_firstFree_69 : decode cX1_firstFree 69 = .ok (.iaload, 1) := by decide +kernel
theorem dX1_firstFree_70 : decode cX1_firstFree 70 = .ok (.aload_n 0, 1) := by decide +kernel
theorem dX1_firstFree_71 : decode cX1_firstFree 71 = .ok (.getfield 24, 3) := by decide +kernel
theorem dX1_firstFree_74 : decode cX1_firstFree 74 = .ok (.iload 4, 2) := by decide +kernel
theorem dX1_firstFree_76 : decode cX1_firstFree 76 = .ok (.iaload, 1) := by decide +kernel
theorem dX1_firstFree_77 : decode cX1_firstFree 77 = .ok (.if_icmp .ge 7, 3) := by decide +kernel
theorem dX1_firstFree_80 : decode cX1_firstFree 80 = .ok (.iload 5, 2) := by decide +kernel
theorem dX1_firstFree_82 : decode cX1_firstFree 82 = .ok (.istore 4, 2) := by decide +kernel
theorem dX1_firstFree_84 : decode cX1_firstFree 84 = .ok (.iinc 5 1, 3) := by decide +kernel
theorem dX1_firstFree_87 : decode cX1_firstFree 87 = .ok (.goto (-81), 3) := by decide +kernel
theorem dX1_firstFree_90 : decode cX1_firstFree 90 = .ok (.iload 4, 2) := by decide +kernel
theorem dX1_firstFree_92 : decode cX1_firstFree 92 = .ok (.ireturn, 1) := by decide +kernel
theorem dX2_tell_0 : decode cX2_tell 0 = .ok (.iload_n 2, 1) := by decide +kernel
theorem dX2_tell_1 : decode cX2_tell 1 = .ok (.tableswitch 59 0 3 #[31, 38, 45, 52], 31) := by decide +kernel
theorem dX2_tell_32 : decode cX2_tell 32 = .ok (.aload_n 0, 1) := by decide +kernel
theorem dX2_tell_33 : decode cX2_tell 33 = .ok (.getfield 33, 3) := by decide +kernel
theorem dX2_tell_36 : decode cX2_tell 36 = .ok (.iload_n 1, 1) := by decide +kernel
theorem dX2_tell_37 : decode cX2_tell 37 = .ok (.iaload, 1) := by decide +kernel
theorem dX2_tell_38 : decode cX2_tell 38 = .ok (.ireturn, 1) := by decide +kernel
theorem dX2_tell_39 : decode cX2_tell 39 = .ok (.aload_n 0, 1) := by decide +kernel
theorem dX2_tell_40 : decode cX2_tell 40 = .ok (.getfield 18, 3) := by decide +kernel
theorem dX2_tell_43 : decode cX2_tell 43 = .ok (.iload_n 1, 1) := by decide +kernel
theorem dX2_tell_44 : decode cX2_tell 44 = .ok (.iaload, 1) := by decide +kernel
theorem dX2_tell_45 : decode cX2_tell 45 = .ok (.ireturn, 1) := by decide +kernel
theorem dX2_tell_46 : decode cX2_tell 46 = .ok (.aload_n 0, 1) := by decide +kernel
theorem dX2_tell_47 : decode cX2_tell 47 = .ok (.getfield 21, 3) := by decide +kernel
theorem dX2_tell_50 : decode cX2_tell 50 = .ok (.iload_n 1, 1) := by decide +kernel
theorem dX2_tell_51 : decode cX2_tell 51 = .ok (.iaload, 1) := by decide +kernel
theorem dX2_tell_52 : decode cX2_tell 52 = .ok (.ireturn, 1) := by decide +kernel
theorem dX2_tell_53 : decode cX2_tell 53 = .ok (.aload_n 0, 1) := by decide +kernel
theorem dX2_tell_54 : decode cX2_tell 54 = .ok (.getfield 24, 3) := by decide +kernel
theorem dX2_tell_57 : decode cX2_tell 57 = .ok (.iload_n 1, 1) := by decide +kernel
theorem dX2_tell_58 : decode cX2_tell 58 = .ok (.iaload, 1) := by decide +kernel
theorem dX2_tell_59 : decode cX2_tell 59 = .ok (.ireturn, 1) := by decide +kernel
theorem dX2_tell_60 : decode cX2_tell 60 = .ok (.aload_n 0, 1) := by decide +kernel
theorem dX2_tell_61 : decode cX2_tell 61 = .ok (.getfield 36, 3) := by decide +kernel
theorem dX2_tell_64 : decode cX2_tell 64 = .ok (.iload_n 1, 1) := by decide +kernel
theorem dX2_tell_65 : decode cX2_tell 65 = .ok (.iaload, 1) := by decide +kernel
theorem dX2_tell_66 : decode cX2_tell 66 = .ok (.ireturn, 1) := by decide +kernel
theorem dX4_stands_0 : decode cX4_stands 0 = .ok (.aload_n 0, 1) := by decide +kernel
theorem dX4_stands_1 : decode cX4_stands 1 = .ok (.getfield 11, 3) := by decide +kernel
theorem dX4_stands_4 : decode cX4_stands 4 = .ok (.iload_n 1, 1) := by decide +kernel
theorem dX4_stands_5 : decode cX4_stands 5 = .ok (.iload_n 2, 1) := by decide +kernel
theorem dX4_stands_6 : decode cX4_stands 6 = .ok (.invokestatic 28, 3) := by decide +kernel
theorem dX4_stands_9 : decode cX4_stands 9 = .ok (.baload, 1) := by decide +kernel
theorem dX4_stands_10 : decode cX4_stands 10 = .ok (.ireturn, 1) := by decide +kernel
theorem dX5_daysBetween_0 : decode cX5_daysBetween 0 = .ok (.aload_n 0, 1) := by decide +kernel
theorem dX5_daysBetween_1 : decode cX5_daysBetween 1 = .ok (.iload_n 1, 1) := by decide +kernel
theorem dX5_daysBetween_2 : decode cX5_daysBetween 2 = .ok (.invokevirtual 22, 3) := by decide +kernel
theorem dX5_daysBetween_5 : decode cX5_daysBetween 5 = .ok (.ifCond .eq 24, 3) := by decide +kernel
theorem dX5_daysBetween_8 : decode cX5_daysBetween 8 = .ok (.aload_n 0, 1) := by decide +kernel
theorem dX5_daysBetween_9 : decode cX5_daysBetween 9 = .ok (.iload_n 2, 1) := by decide +kernel
theorem dX5_daysBetween_10 : decode cX5_daysBetween 10 = .ok (.invokevirtual 22, 3) := by decide +kernel
theorem dX5_daysBetween_13 : decode cX5_daysBetween 13 = .ok (.ifCond .eq 16, 3) := by decide +kernel
theorem dX5_daysBetween_16 : decode cX5_daysBetween 16 = .ok (.aload_n 0, 1) := by decide +kernel
theorem dX5_daysBetween_17 : decode cX5_daysBetween 17 = .ok (.getfield 15, 3) := by decide +kernel
theorem dX5_daysBetween_20 : decode cX5_daysBetween 20 = .ok (.iload_n 1, 1) := by decide +kernel
theorem dX5_daysBetween_21 : decode cX5_daysBetween 21 = .ok (.iload_n 2, 1) := by decide +kernel
theorem dX5_daysBetween_22 : decode cX5_daysBetween 22 = .ok (.invokestatic 26, 3) := by decide +kernel
theorem dX5_daysBetween_25 : decode cX5_daysBetween 25 = .ok (.iaload, 1) := by decide +kernel
theorem dX5_daysBetween_26 : decode cX5_daysBetween 26 = .ok (.goto 4, 3) := by decide +kernel
theorem dX5_daysBetween_29 : decode cX5_daysBetween 29 = .ok (.iconst 0, 1) := by decide +kernel
theorem dX5_daysBetween_30 : decode cX5_daysBetween 30 = .ok (.ireturn, 1) := by decide +kernel
theorem dX6_roomAt_0 : decode cX6_roomAt 0 = .ok (.aload_n 0, 1) := by decide +kernel
theorem dX6_roomAt_1 : decode cX6_roomAt 1 = .ok (.getfield 21, 3) := by decide +kernel
theorem dX6_roomAt_4 : decode cX6_roomAt 4 = .ok (.iload_n 1, 1) := by decide +kernel
theorem dX6_roomAt_5 : decode cX6_roomAt 5 = .ok (.invokevirtual 89, 3) := by decide +kernel
theorem dX6_roomAt_8 : decode cX6_roomAt 8 = .ok (.ifCond .eq 24, 3) := by decide +kernel
theorem dX6_roomAt_11 : decode cX6_roomAt 11 = .ok (.aload_n 0, 1) := by decide +kernel
theorem dX6_roomAt_12 : decode cX6_roomAt 12 = .ok (.getfield 21, 3) := by decide +kernel
theorem dX6_roomAt_15 : decode cX6_roomAt 15 = .ok (.getfield 93, 3) := by decide +kernel
theorem dX6_roomAt_18 : decode cX6_roomAt 18 = .ok (.iload_n 1, 1) := by decide +kernel
theorem dX6_roomAt_19 : decode cX6_roomAt 19 = .ok (.iaload, 1) := by decide +kernel
theorem dX6_roomAt_20 : decode cX6_roomAt 20 = .ok (.aload_n 0, 1) := by decide +kernel
theorem dX6_roomAt_21 : decode cX6_roomAt 21 = .ok (.getfield 35, 3) := by decide +kernel
theorem dX6_roomAt_24 : decode cX6_roomAt 24 = .ok (.iload_n 1, 1) := by decide +kernel
theorem dX6_roomAt_25 : decode cX6_roomAt 25 = .ok (.invokevirtual 96, 3) := by decide +kernel
theorem dX6_roomAt_28 : decode cX6_roomAt 28 = .ok (.isub, 1) := by decide +kernel
theorem dX6_roomAt_29 : decode cX6_roomAt 29 = .ok (.goto 4, 3) := by decide +kernel
theorem dX6_roomAt_32 : decode cX6_roomAt 32 = .ok (.iconst 0, 1) := by decide +kernel
theorem dX6_roomAt_33 : decode cX6_roomAt 33 = .ok (.ireturn, 1) := by decide +kernel
theorem dX6_positionAt_0 : decode cX6_positionAt 0 = .ok (.aload_n 0, 1) := by decide +kernel
theorem dX6_positionAt_1 : decode cX6_positionAt 1 = .ok (.getfield 35, 3) := by decide +kernel
theorem dX6_positionAt_4 : decode cX6_positionAt 4 = .ok (.iload_n 1, 1) := by decide +kernel
theorem dX6_positionAt_5 : decode cX6_positionAt 5 = .ok (.iload_n 2, 1) := by decide +kernel
theorem dX6_positionAt_6 : decode cX6_positionAt 6 = .ok (.invokevirtual 100, 3) := by decide +kernel
theorem dX6_positionAt_9 : decode cX6_positionAt 9 = .ok (.aload_n 0, 1) := by decide +kernel
theorem dX6_positionAt_10 : decode cX6_positionAt 10 = .ok (.getfield 49, 3) := by decide +kernel
theorem dX6_positionAt_13 : decode cX6_positionAt 13 = .ok (.iload_n 1, 1) := by decide +kernel
theorem dX6_positionAt_14 : decode cX6_positionAt 14 = .ok (.iload_n 2, 1) := by decide +kernel
theorem dX6_positionAt_15 : decode cX6_positionAt 15 = .ok (.invokevirtual 104, 3) := by decide +kernel
theorem dX6_positionAt_18 : decode cX6_positionAt 18 = .ok (.iadd, 1) := by decide +kernel
theorem dX6_positionAt_19 : decode cX6_positionAt 19 = .ok (.aload_n 0, 1) := by decide +kernel
theorem dX6_positionAt_20 : decode cX6_positionAt 20 = .ok (.getfield 42, 3) := by decide +kernel
theorem dX6_positionAt_23 : decode cX6_positionAt 23 = .ok (.iload_n 1, 1) := by decide +kernel
theorem dX6_positionAt_24 : decode cX6_positionAt 24 = .ok (.iload_n 2, 1) := by decide +kernel
theorem dX6_positionAt_25 : decode cX6_positionAt 25 = .ok (.invokevirtual 107, 3) := by decide +kernel
theorem dX6_positionAt_28 : decode cX6_positionAt 28 = .ok (.isub, 1) := by decide +kernel
theorem dX6_positionAt_29 : decode cX6_positionAt 29 = .ok (.ireturn, 1) := by decide +kernel
theorem dX6_lackAt_0 : decode cX6_lackAt 0 = .ok (.aload_n 0, 1) := by decide +kernel
theorem dX6_lackAt_1 : decode cX6_lackAt 1 = .ok (.getfield 28, 3) := by decide +kernel
theorem dX6_lackAt_4 : decode cX6_lackAt 4 = .ok (.iload_n 1, 1) := by decide +kernel
theorem dX6_lackAt_5 : decode cX6_lackAt 5 = .ok (.iload_n 2, 1) := by decide +kernel
theorem dX6_lackAt_6 : decode cX6_lackAt 6 = .ok (.invokevirtual 110, 3) := by decide +kernel
theorem dX6_lackAt_9 : decode cX6_lackAt 9 = .ok (.ifCond .ne 5, 3) := by decide +kernel
theorem dX6_lackAt_12 : decode cX6_lackAt 12 = .ok (.iconst 0, 1) := by decide +kernel
theorem dX6_lackAt_13 : decode cX6_lackAt 13 = .ok (.ireturn, 1) := by decide +kernel
theorem dX6_lackAt_14 : decode cX6_lackAt 14 = .ok (.iconst 0, 1) := by decide +kernel
theorem dX6_lackAt_15 : decode cX6_lackAt 15 = .ok (.aload_n 0, 1) := by decide +kernel
theorem dX6_lackAt_16 : decode cX6_lackAt 16 = .ok (.getfield 28, 3) := by decide +kernel
theorem dX6_lackAt_19 : decode cX6_lackAt 19 = .ok (.getfield 114, 3) := by decide +kernel
theorem dX6_lackAt_22 : decode cX6_lackAt 22 = .ok (.iload_n 1, 1) := by decide +kernel
theorem dX6_lackAt_23 : decode cX6_lackAt 23 = .ok (.iload_n 2, 1) := by decide +kernel
theorem dX6_lackAt_24 : decode cX6_lackAt 24 = .ok (.invokestatic 117, 3) := by decide +kernel
theorem dX6_lackAt_27 : decode cX6_lackAt 27 = .ok (.iaload, 1) := by decide +kernel
theorem dX6_lackAt_28 : decode cX6_lackAt 28 = .ok (.aload_n 0, 1) := by decide +kernel
theorem dX6_lackAt_29 : decode cX6_lackAt 29 = .ok (.iload_n 1, 1) := by decide +kernel
theorem dX6_lackAt_30 : decode cX6_lackAt 30 = .ok (.iload_n 2, 1) := by decide +kernel
theorem dX6_lackAt_31 : decode cX6_lackAt 31 = .ok (.invokevirtual 120, 3) := by decide +kernel
theorem dX6_lackAt_34 : decode cX6_lackAt 34 = .ok (.isub, 1) := by decide +kernel
theorem dX6_lackAt_35 : decode cX6_lackAt 35 = .ok (.invokestatic 123, 3) := by decide +kernel
theorem dX6_lackAt_38 : decode cX6_lackAt 38 = .ok (.ireturn, 1) := by decide +kernel
theorem dX6_spareAt_0 : decode cX6_spareAt 0 = .ok (.aload_n 0, 1) := by decide +kernel
theorem dX6_spareAt_1 : decode cX6_spareAt 1 = .ok (.getfield 28, 3) := by decide +kernel
theorem dX6_spareAt_4 : decode cX6_spareAt 4 = .ok (.iload_n 1, 1) := by decide +kernel
theorem dX6_spareAt_5 : decode cX6_spareAt 5 = .ok (.iload_n 2, 1) := by decide +kernel
theorem dX6_spareAt_6 : decode cX6_spareAt 6 = .ok (.invokevirtual 110, 3) := by decide +kernel
theorem dX6_spareAt_9 : decode cX6_spareAt 9 = .ok (.ifCond .ne 5, 3) := by decide +kernel
theorem dX6_spareAt_12 : decode cX6_spareAt 12 = .ok (.iconst 0, 1) := by decide +kernel
theorem dX6_spareAt_13 : decode cX6_spareAt 13 = .ok (.ireturn, 1) := by decide +kernel
theorem dX6_spareAt_14 : decode cX6_spareAt 14 = .ok (.aload_n 0, 1) := by decide +kernel
theorem dX6_spareAt_15 : decode cX6_spareAt 15 = .ok (.iload_n 1, 1) := by decide +kernel
theorem dX6_spareAt_16 : decode cX6_spareAt 16 = .ok (.iload_n 2, 1) := by decide +kernel
theorem dX6_spareAt_17 : decode cX6_spareAt 17 = .ok (.invokevirtual 120, 3) := by decide +kernel
theorem dX6_spareAt_20 : decode cX6_spareAt 20 = .ok (.aload_n 0, 1) := by decide +kernel
theorem dX6_spareAt_21 : decode cX6_spareAt 21 = .ok (.getfield 28, 3) := by decide +kernel
theorem dX6_spareAt_24 : decode cX6_spareAt 24 = .ok (.getfield 128, 3) := by decide +kernel
theorem dX6_spareAt_27 : decode cX6_spareAt 27 = .ok (.iload_n 1, 1) := by decide +kernel
theorem dX6_spareAt_28 : decode cX6_spareAt 28 = .ok (.iload_n 2, 1) := by decide +kernel
theorem dX6_spareAt_29 : decode cX6_spareAt 29 = .ok (.invokestatic 117, 3) := by decide +kernel
theorem dX6_spareAt_32 : decode cX6_spareAt 32 = .ok (.iaload, 1) := by decide +kernel
theorem dX6_spareAt_33 : decode cX6_spareAt 33 = .ok (.isub, 1) := by decide +kernel
theorem dX6_spareAt_34 : decode cX6_spareAt 34 = .ok (.istore_n 3, 1) := by decide +kernel
theorem dX6_spareAt_35 : decode cX6_spareAt 35 = .ok (.iconst 0, 1) := by decide +kernel
theorem dX6_spareAt_36 : decode cX6_spareAt 36 = .ok (.iload_n 3, 1) := by decide +kernel
theorem dX6_spareAt_37 : decode cX6_spareAt 37 = .ok (.aload_n 0, 1) := by decide +kernel
theorem dX6_spareAt_38 : decode cX6_spareAt 38 = .ok (.getfield 35, 3) := by decide +kernel
theorem dX6_spareAt_41 : decode cX6_spareAt 41 = .ok (.iload_n 1, 1) := by decide +kernel
theorem dX6_spareAt_42 : decode cX6_spareAt 42 = .ok (.iload_n 2, 1) := by decide +kernel
theorem dX6_spareAt_43 : decode cX6_spareAt 43 = .ok (.invokevirtual 131, 3) := by decide +kernel
theorem dX6_spareAt_46 : decode cX6_spareAt 46 = .ok (.invokestatic 134, 3) := by decide +kernel
theorem dX6_spareAt_49 : decode cX6_spareAt 49 = .ok (.invokestatic 123, 3) := by decide +kernel
theorem dX6_spareAt_52 : decode cX6_spareAt 52 = .ok (.ireturn, 1) := by decide +kernel
theorem dX6_rateOver_0 : decode cX6_rateOver 0 = .ok (.aload_n 0, 1) := by decide +kernel
theorem dX6_rateOver_1 : decode cX6_rateOver 1 = .ok (.getfield 42, 3) := by decide +kernel
theorem dX6_rateOver_4 : decode cX6_rateOver 4 = .ok (.iload_n 1, 1) := by decide +kernel
theorem dX6_rateOver_5 : decode cX6_rateOver 5 = .ok (.iload_n 2, 1) := by decide +kernel
theorem dX6_rateOver_6 : decode cX6_rateOver 6 = .ok (.aload_n 0, 1) := by decide +kernel
theorem dX6_rateOver_7 : decode cX6_rateOver 7 = .ok (.getfield 60, 3) := by decide +kernel
theorem dX6_rateOver_10 : decode cX6_rateOver 10 = .ok (.iload_n 3, 1) := by decide +kernel
theorem dX6_rateOver_11 : decode cX6_rateOver 11 = .ok (.isub, 1) := by decide +kernel
theorem dX6_rateOver_12 : decode cX6_rateOver 12 = .ok (.iconst 1, 1) := by decide +kernel
theorem dX6_rateOver_13 : decode cX6_rateOver 13 = .ok (.iadd, 1) := by decide +kernel
theorem dX6_rateOver_14 : decode cX6_rateOver 14 = .ok (.aload_n 0, 1) := by decide +kernel
theorem dX6_rateOver_15 : decode cX6_rateOver 15 = .ok (.getfield 60, 3) := by decide +kernel
theorem dX6_rateOver_18 : decode cX6_rateOver 18 = .ok (.invokevirtual 137, 3) := by decide +kernel
theorem dX6_rateOver_21 : decode cX6_rateOver 21 = .ok (.ireturn, 1) := by decide +kernel
theorem dX7_tell_0 : decode cX7_tell 0 = .ok (.iload_n 2, 1) := by decide +kernel
theorem dX7_tell_1 : decode cX7_tell 1 = .ok (.tableswitch 70 0 4 #[35, 42, 49, 56, 63], 35) := by decide +kernel
theorem dX7_tell_36 : decode cX7_tell 36 = .ok (.aload_n 0, 1) := by decide +kernel
theorem dX7_tell_37 : decode cX7_tell 37 = .ok (.getfield 9, 3) := by decide +kernel
theorem dX7_tell_40 : decode cX7_tell 40 = .ok (.iload_n 1, 1) := by decide +kernel
theorem dX7_tell_41 : decode cX7_tell 41 = .ok (.iaload, 1) := by decide +kernel
theorem dX7_tell_42 : decode cX7_tell 42 = .ok (.ireturn, 1) := by decide +kernel
theorem dX7_tell_43 : decode cX7_tell 43 = .ok (.aload_n 0, 1) := by decide +kernel
theorem dX7_tell_44 : decode cX7_tell 44 = .ok (.getfield 15, 3) := by decide +kernel
theorem dX7_tell_47 : decode cX7_tell 47 = .ok (.iload_n 1, 1) := by decide +kernel
theorem dX7_tell_48 : decode cX7_tell 48 = .ok (.iaload, 1) := by decide +kernel
theorem dX7_tell_49 : decode cX7_tell 49 = .ok (.ireturn, 1) := by decide +kernel
theorem dX7_tell_50 : decode cX7_tell 50 = .ok (.aload_n 0, 1) := by decide +kernel
theorem dX7_tell_51 : decode cX7_tell 51 = .ok (.getfield 18, 3) := by decide +kernel
theorem dX7_tell_54 : decode cX7_tell 54 = .ok (.iload_n 1, 1) := by decide +kernel
theorem dX7_tell_55 : decode cX7_tell 55 = .ok (.iaload, 1) := by decide +kernel
theorem dX7_tell_56 : decode cX7_tell 56 = .ok (.ireturn, 1) := by decide +kernel
theorem dX7_tell_57 : decode cX7_tell 57 = .ok (.aload_n 0, 1) := by decide +kernel
theorem dX7_tell_58 : decode cX7_tell 58 = .ok (.getfield 21, 3) := by decide +kernel
theorem dX7_tell_61 : decode cX7_tell 61 = .ok (.iload_n 1, 1) := by decide +kernel
theorem dX7_tell_62 : decode cX7_tell 62 = .ok (.iaload, 1) := by decide +kernel
theorem dX7_tell_63 : decode cX7_tell 63 = .ok (.ireturn, 1) := by decide +kernel
theorem dX7_tell_64 : decode cX7_tell 64 = .ok (.aload_n 0, 1) := by decide +kernel
theorem dX7_tell_65 : decode cX7_tell 65 = .ok (.getfield 24, 3) := by decide +kernel
theorem dX7_tell_68 : decode cX7_tell 68 = .ok (.iload_n 1, 1) := by decide +kernel
theorem dX7_tell_69 : decode cX7_tell 69 = .ok (.iaload, 1) := by decide +kernel
theorem dX7_tell_70 : decode cX7_tell 70 = .ok (.ireturn, 1) := by decide +kernel
theorem dX7_tell_71 : decode cX7_tell 71 = .ok (.aload_n 0, 1) := by decide +kernel
theorem dX7_tell_72 : decode cX7_tell 72 = .ok (.getfield 27, 3) := by decide +kernel
theorem dX7_tell_75 : decode cX7_tell 75 = .ok (.iload_n 1, 1) := by decide +kernel
theorem dX7_tell_76 : decode cX7_tell 76 = .ok (.iaload, 1) := by decide +kernel
theorem dX7_tell_77 : decode cX7_tell 77 = .ok (.ireturn, 1) := by decide +kernel
