theorem dX0_has_0 : decode cX0_has 0 = .ok (.iload_n 1, 1) := by decide +kernel
theorem dX0_has_1 : decode cX0_has 1 = .ok (.ifCond .lt 15, 3) := by decide +kernel
theorem dX0_has_4 : decode cX0_has 4 = .ok (.iload_n 1, 1) := by decide +kernel
theorem dX0_has_5 : decode cX0_has 5 = .ok (.aload_n 0, 1) := by decide +kernel
theorem dX0_has_6 : decode cX0_has 6 = .ok (.getfield 24, 3) := by decide +kernel
theorem dX0_has_9 : decode cX0_has 9 = .ok (.if_icmp .ge 7, 3) := by decide +kernel
theorem dX0_has_12 : decode cX0_has 12 = .ok (.iconst 1, 1) := by decide +kernel
theorem dX0_has_13 : decode cX0_has 13 = .ok (.goto 4, 3) := by decide +kernel
theorem dX0_has_16 : decode cX0_has 16 = .ok (.iconst 0, 1) := by decide +kernel
theorem dX0_has_17 : decode cX0_has 17 = .ok (.ireturn, 1) := by decide +kernel
theorem dX1_has_0 : decode cX1_has 0 = .ok (.iload_n 1, 1) := by decide +kernel
theorem dX1_has_1 : decode cX1_has 1 = .ok (.ifCond .lt 15, 3) := by decide +kernel
theorem dX1_has_4 : decode cX1_has 4 = .ok (.iload_n 1, 1) := by decide +kernel
theorem dX1_has_5 : decode cX1_has 5 = .ok (.aload_n 0, 1) := by decide +kernel
theorem dX1_has_6 : decode cX1_has 6 = .ok (.getfield 27, 3) := by decide +kernel
theorem dX1_has_9 : decode cX1_has 9 = .ok (.if_icmp .ge 7, 3) := by decide +kernel
theorem dX1_has_12 : decode cX1_has 12 = .ok (.iconst 1, 1) := by decide +kernel
theorem dX1_has_13 : decode cX1_has 13 = .ok (.goto 4, 3) := by decide +kernel
theorem dX1_has_16 : decode cX1_has 16 = .ok (.iconst 0, 1) := by decide +kernel
theorem dX1_has_17 : decode cX1_has 17 = .ok (.ireturn, 1) := by decide +kernel
theorem dX1_freeOf_0 : decode cX1_freeOf 0 = .ok (.aload_n 0, 1) := by decide +kernel
theorem dX1_freeOf_1 : decode cX1_freeOf 1 = .ok (.getfield 18, 3) := by decide +kernel
theorem dX1_freeOf_4 : decode cX1_freeOf 4 = .ok (.iload_n 1, 1) := by decide +kernel
theorem dX1_freeOf_5 : decode cX1_freeOf 5 = .ok (.iaload, 1) := by decide +kernel
theorem dX1_freeOf_6 : decode cX1_freeOf 6 = .ok (.aload_n 0, 1) := by decide +kernel
theorem dX1_freeOf_7 : decode cX1_freeOf 7 = .ok (.getfield 21, 3) := by decide +kernel
theorem dX1_freeOf_10 : decode cX1_freeOf 10 = .ok (.iload_n 1, 1) := by decide +kernel
theorem dX1_freeOf_11 : decode cX1_freeOf 11 = .ok (.iaload, 1) := by decide +kernel
theorem dX1_freeOf_12 : decode cX1_freeOf 12 = .ok (.isub, 1) := by decide +kernel
theorem dX1_freeOf_13 : decode cX1_freeOf 13 = .ok (.ireturn, 1) := by decide +kernel
theorem dX1_unitsAt_0 : decode cX1_unitsAt 0 = .ok (.aload_n 0, 1) := by decide +kernel
theorem dX1_unitsAt_1 : decode cX1_unitsAt 1 = .ok (.iload_n 1, 1) := by decide +kernel
theorem dX1_unitsAt_2 : decode cX1_unitsAt 2 = .ok (.iload_n 2, 1) := by decide +kernel
theorem dX1_unitsAt_3 : decode cX1_unitsAt 3 = .ok (.ldc 31, 2) := by decide +kernel
theorem dX1_unitsAt_5 : decode cX1_unitsAt 5 = .ok (.invokevirtual 32, 3) := by decide +kernel
theorem dX1_unitsAt_8 : decode cX1_unitsAt 8 = .ok (.ireturn, 1) := by decide +kernel
theorem dX1_unitsUpTo_0 : decode cX1_unitsUpTo 0 = .ok (.iconst 0, 1) := by decide +kernel
theorem dX1_unitsUpTo_1 : decode cX1_unitsUpTo 1 = .ok (.istore 4, 2) := by decide +kernel
theorem dX1_unitsUpTo_3 : decode cX1_unitsUpTo 3 = .ok (.iconst 0, 1) := by decide +kernel
theorem dX1_unitsUpTo_4 : decode cX1_unitsUpTo 4 = .ok (.istore 5, 2) := by decide +kernel
theorem dX1_unitsUpTo_6 : decode cX1_unitsUpTo 6 = .ok (.iload 5, 2) := by decide +kernel
theorem dX1_unitsUpTo_8 : decode cX1_unitsUpTo 8 = .ok (.aload_n 0, 1) := by decide +kernel
theorem dX1_unitsUpTo_9 : decode cX1_unitsUpTo 9 = .ok (.getfield 27, 3) := by decide +kernel
theorem dX1_unitsUpTo_12 : decode cX1_unitsUpTo 12 = .ok (.if_icmp .ge 54, 3) := by decide +kernel
theorem dX1_unitsUpTo_15 : decode cX1_unitsUpTo 15 = .ok (.aload_n 0, 1) := by decide +kernel
theorem dX1_unitsUpTo_16 : decode cX1_unitsUpTo 16 = .ok (.getfield 9, 3) := by decide +kernel
theorem dX1_unitsUpTo_19 : decode cX1_unitsUpTo 19 = .ok (.iload 5, 2) := by decide +kernel
theorem dX1_unitsUpTo_21 : decode cX1_unitsUpTo 21 = .ok (.iaload, 1) := by decide +kernel
theorem dX1_unitsUpTo_22 : decode cX1_unitsUpTo 22 = .ok (.iload_n 1, 1) := by decide +kernel
theorem dX1_unitsUpTo_23 : decode cX1_unitsUpTo 23 = .ok (.if_icmp .ne 37, 3) := by decide +kernel
theorem dX1_unitsUpTo_26 : decode cX1_unitsUpTo 26 = .ok (.aload_n 0, 1) := by decide +kernel
theorem dX1_unitsUpTo_27 : decode cX1_unitsUpTo 27 = .ok (.getfield 15, 3) := by decide +kernel
theorem dX1_unitsUpTo_30 : decode cX1_unitsUpTo 30 = .ok (.iload 5, 2) := by decide +kernel
theorem dX1_unitsUpTo_32 : decode cX1_unitsUpTo 32 = .ok (.iaload, 1) := by decide +kernel
theorem dX1_unitsUpTo_33 : decode cX1_unitsUpTo 33 = .ok (.iload_n 2, 1) := by decide +kernel
theorem dX1_unitsUpTo_34 : decode cX1_unitsUpTo 34 = .ok (.if_icmp .ne 26, 3) := by decide +kernel
theorem dX1_unitsUpTo_37 : decode cX1_unitsUpTo 37 = .ok (.aload_n 0, 1) := by decide +kernel
theorem dX1_unitsUpTo_38 : decode cX1_unitsUpTo 38 = .ok (.getfield 24, 3) := by decide +kernel
theorem dX1_unitsUpTo_41 : decode cX1_unitsUpTo 41 = .ok (.iload 5, 2) := by decide +kernel
theorem dX1_unitsUpTo_43 : decode cX1_unitsUpTo 43 = .ok (.iaload, 1) := by decide +kernel
theorem dX1_unitsUpTo_44 : decode cX1_unitsUpTo 44 = .ok (.iload_n 3, 1) := by decide +kernel
theorem dX1_unitsUpTo_45 : decode cX1_unitsUpTo 45 = .ok (.if_icmp .gt 15, 3) := by decide +kernel
theorem dX1_unitsUpTo_48 : decode cX1_unitsUpTo 48 = .ok (.iload 4, 2) := by decide +kernel
theorem dX1_unitsUpTo_50 : decode cX1_unitsUpTo 50 = .ok (.aload_n 0, 1) := by decide +kernel
theorem dX1_unitsUpTo_51 : decode cX1_unitsUpTo 51 = .ok (.getfield 18, 3) := by decide +kernel
theorem dX1_unitsUpTo_54 : decode cX1_unitsUpTo 54 = .ok (.iload 5, 2) := by decide +kernel
theorem dX1_unitsUpTo_56 : decode cX1_unitsUpTo 56 = .ok (.iaload, 1) := by decide +kernel
theorem dX1_unitsUpTo_57 : decode cX1_unitsUpTo 57 = .ok (.iadd, 1) := by decide +kernel
theorem dX1_unitsUpTo_58 : decode cX1_unitsUpTo 58 = .ok (.istore 4, 2) := by decide +kernel
theorem dX1_unitsUpTo_60 : decode cX1_unitsUpTo 60 = .ok (.iinc 5 1, 3) := by decide +kernel
theorem dX1_unitsUpTo_63 : decode cX1_unitsUpTo 63 = .ok (.goto (-57), 3) := by decide +kernel
theorem dX1_unitsUpTo_66 : decode cX1_unitsUpTo 66 = .ok (.iload 4, 2) := by decide +kernel
theorem dX1_unitsUpTo_68 : decode cX1_unitsUpTo 68 = .ok (.ireturn, 1) := by decide +kernel
theorem dX1_freeAt_0 : decode cX1_freeAt 0 = .ok (.aload_n 0, 1) := by decide +kernel
theorem dX1_freeAt_1 : decode cX1_freeAt 1 = .ok (.iload_n 1, 1) := by decide +kernel
theorem dX1_freeAt_2 : decode cX1_freeAt 2 = .ok (.iload_n 2, 1) := by decide +kernel
theorem dX1_freeAt_3 : decode cX1_freeAt 3 = .ok (.iconst 0, 1) := by decide +kernel
theorem dX1_freeAt_4 : decode cX1_freeAt 4 = .ok (.invokevirtual 36, 3) := by decide +kernel
theorem dX1_freeAt_7 : decode cX1_freeAt 7 = .ok (.ireturn, 1) := by decide +kernel
theorem dX1_freeFrom_0 : decode cX1_freeFrom 0 = .ok (.iconst 0, 1) := by decide +kernel
theorem dX1_freeFrom_1 : decode cX1_freeFrom 1 = .ok (.istore 4, 2) := by decide +kernel
theorem dX1_freeFrom_3 : decode cX1_freeFrom 3 = .ok (.iconst 0, 1) := by decide +kernel
theorem dX1_freeFrom_4 : decode cX1_freeFrom 4 = .ok (.istore 5, 2) := by decide +kernel
theorem dX1_freeFrom_6 : decode cX1_freeFrom 6 = .ok (.iload 5, 2) := by decide +kernel
theorem dX1_freeFrom_8 : decode cX1_freeFrom 8 = .ok (.aload_n 0, 1) := by decide +kernel
theorem dX1_freeFrom_9 : decode cX1_freeFrom 9 = .ok (.getfield 27, 3) := by decide +kernel
theorem dX1_freeFrom_12 : decode cX1_freeFrom 12 = .ok (.if_icmp .ge 53, 3) := by decide +kernel
theorem dX1_freeFrom_15 : decode cX1_freeFrom 15 = .ok (.aload_n 0, 1) := by decide +kernel
theorem dX1_freeFrom_16 : decode cX1_freeFrom 16 = .ok (.getfield 9, 3) := by decide +kernel
theorem dX1_freeFrom_19 : decode cX1_freeFrom 19 = .ok (.iload 5, 2) := by decide +kernel
theorem dX1_freeFrom_21 : decode cX1_freeFrom 21 = .ok (.iaload, 1) := by decide +kernel
theorem dX1_freeFrom_22 : decode cX1_freeFrom 22 = .ok (.iload_n 1, 1) := by decide +kernel
theorem dX1_freeFrom_23 : decode cX1_freeFrom 23 = .ok (.if_icmp .ne 36, 3) := by decide +kernel
theorem dX1_freeFrom_26 : decode cX1_freeFrom 26 = .ok (.aload_n 0, 1) := by decide +kernel
theorem dX1_freeFrom_27 : decode cX1_freeFrom 27 = .ok (.getfield 15, 3) := by decide +kernel
theorem dX1_freeFrom_30 : decode cX1_freeFrom 30 = .ok (.iload 5, 2) := by decide +kernel
theorem dX1_freeFrom_32 : decode cX1_freeFrom 32 = .ok (.iaload, 1) := by decide +kernel
theorem dX1_freeFrom_33 : decode cX1_freeFrom 33 = .ok (.iload_n 2, 1) := by decide +kernel
theorem dX1_freeFrom_34 : decode cX1_freeFrom 34 = .ok (.if_icmp .ne 25, 3) := by decide +kernel
theorem dX1_freeFrom_37 : decode cX1_freeFrom 37 = .ok (.aload_n 0, 1) := by decide +kernel
theorem dX1_freeFrom_38 : decode cX1_freeFrom 38 = .ok (.getfield 24, 3) := by decide +kernel
theorem dX1_freeFrom_41 : decode cX1_freeFrom 41 = .ok (.iload 5, 2) := by decide +kernel
theorem dX1_freeFrom_43 : decode cX1_freeFrom 43 = .ok (.iaload, 1) := by decide +kernel
theorem dX1_freeFrom_44 : decode cX1_freeFrom 44 = .ok (.iload_n 3, 1) := by decide +kernel
theorem dX1_freeFrom_45 : decode cX1_freeFrom 45 = .ok (.if_icmp .lt 14, 3) := by decide +kernel
theorem dX1_freeFrom_48 : decode cX1_freeFrom 48 = .ok (.iload 4, 2) := by decide +kernel
theorem dX1_freeFrom_50 : decode cX1_freeFrom 50 = .ok (.aload_n 0, 1) := by decide +kernel
theorem dX1_freeFrom_51 : decode cX1_freeFrom 51 = .ok (.iload 5, 2) := by decide +kernel
theorem dX1_freeFrom_53 : decode cX1_freeFrom 53 = .ok (.invokevirtual 39, 3) := by decide +kernel
theorem dX1_freeFrom_56 : decode cX1_freeFrom 56 = .ok (.iadd, 1) := by decide +kernel
theorem dX1_freeFrom_57 : decode cX1_freeFrom 57 = .ok (.istore 4, 2) := by decide +kernel
theorem dX1_freeFrom_59 : decode cX1_freeFrom 59 = .ok (.iinc 5 1, 3) := by decide +kernel
theorem dX1_freeFrom_62 : decode cX1_freeFrom 62 = .ok (.goto (-56), 3) := by decide +kernel
theorem dX1_freeFrom_65 : decode cX1_freeFrom 65 = .ok (.iload 4, 2) := by decide +kernel
theorem dX1_freeFrom_67 : decode cX1_freeFrom 67 = .ok (.ireturn, 1) := by decide +kernel
theorem dX1_allUnitsAt_0 : decode cX1_allUnitsAt 0 = .ok (.iconst 0, 1) := by decide +kernel
theorem dX1_allUnitsAt_1 : decode cX1_allUnitsAt 1 = .ok (.istore_n 2, 1) := by decide +kernel
theorem dX1_allUnitsAt_2 : decode cX1_allUnitsAt 2 = .ok (.iconst 0, 1) := by decide +kernel
theorem dX1_allUnitsAt_3 : decode cX1_allUnitsAt 3 = .ok (.istore_n 3, 1) := by decide +kernel
theorem dX1_allUnitsAt_4 : decode cX1_allUnitsAt 4 = .ok (.iload_n 3, 1) := by decide +kernel
theorem dX1_allUnitsAt_5 : decode cX1_allUnitsAt 5 = .ok (.aload_n 0, 1) := by decide +kernel
theorem dX1_allUnitsAt_6 : decode cX1_allUnitsAt 6 = .ok (.getfield 27, 3) := by decide +kernel
theorem dX1_allUnitsAt_9 : decode cX1_allUnitsAt 9 = .ok (.if_icmp .ge 28, 3) := by decide +kernel
theorem dX1_allUnitsAt_12 : decode cX1_allUnitsAt 12 = .ok (.aload_n 0, 1) := by decide +kernel
theorem dX1_allUnitsAt_13 : decode cX1_allUnitsAt 13 = .ok (.getfield 15, 3) := by decide +kernel
theorem dX1_allUnitsAt_16 : decode cX1_allUnitsAt 16 = .ok (.iload_n 3, 1) := by decide +kernel
theorem dX1_allUnitsAt_17 : decode cX1_allUnitsAt 17 = .ok (.iaload, 1) := by decide +kernel
theorem dX1_allUnitsAt_18 : decode cX1_allUnitsAt 18 = .ok (.iload_n 1, 1) := by decide +kernel
theorem dX1_allUnitsAt_19 : decode cX1_allUnitsAt 19 = .ok (.if_icmp .ne 12, 3) := by decide +kernel
theorem dX1_allUnitsAt_22 : decode cX1_allUnitsAt 22 = .ok (.iload_n 2, 1) := by decide +kernel
theorem dX1_allUnitsAt_23 : decode cX1_allUnitsAt 23 = .ok (.aload_n 0, 1) := by decide +kernel
theorem dX1_allUnitsAt_24 : decode cX1_allUnitsAt 24 = .ok (.getfield 18, 3) := by decide +kernel
theorem dX1_allUnitsAt_27 : decode cX1_allUnitsAt 27 = .ok (.iload_n 3, 1) := by decide +kernel
theorem dX1_allUnitsAt_28 : decode cX1_allUnitsAt 28 = .ok (.iaload, 1) := by decide +kernel
theorem dX1_allUnitsAt_29 : decode cX1_allUnitsAt 29 = .ok (.iadd, 1) := by decide +kernel
theorem dX1_allUnitsAt_30 : decode cX1_allUnitsAt 30 = .ok (.istore_n 2, 1) := by decide +kernel
theorem dX1_allUnitsAt_31 : decode cX1_allUnitsAt 31 = .ok (.iinc 3 1, 3) := by decide +kernel
theorem dX1_allUnitsAt_34 : decode cX1_allUnitsAt 34 = .ok (.goto (-30), 3) := by decide +kernel
theorem dX1_allUnitsAt_37 : decode cX1_allUnitsAt 37 = .ok (.iload_n 2, 1) := by decide +kernel
theorem dX1_allUnitsAt_38 : decode cX1_allUnitsAt 38 = .ok (.ireturn, 1) := by decide +kernel
theorem dX2_has_0 : decode cX2_has 0 = .ok (.iload_n 1, 1) := by decide +kernel
theorem dX2_has_1 : decode cX2_has 1 = .ok (.ifCond .lt 15, 3) := by decide +kernel
theorem dX2_has_4 : decode cX2_has 4 = .ok (.iload_n 1, 1) := by decide +kernel
theorem dX2_has_5 : decode cX2_has 5 = .ok (.aload_n 0, 1) := by decide +kernel
theorem dX2_has_6 : decode cX2_has 6 = .ok (.getfield 42, 3) := by decide +kernel
theorem dX2_has_9 : decode cX2_has 9 = .ok (.if_icmp .ge 7, 3) := by decide +kernel
theorem dX2_has_12 : decode cX2_has 12 = .ok (.iconst 1, 1) := by decide +kernel
theorem dX2_has_13 : decode cX2_has 13 = .ok (.goto 4, 3) := by decide +kernel
theorem dX2_has_16 : decode cX2_has 16 = .ok (.iconst 0, 1) := by decide +kernel
theorem dX2_has_17 : decode cX2_has 17 = .ok (.ireturn, 1) := by decide +kernel
theorem dX2_heldOf_0 : decode cX2_heldOf 0 = .ok (.aload_n 0, 1) := by decide +kernel
theorem dX2_heldOf_1 : decode cX2_heldOf 1 = .ok (.getfield 39, 3) := by decide +kernel
theorem dX2_heldOf_4 : decode cX2_heldOf 4 = .ok (.iload_n 1, 1) := by decide +kernel
theorem dX2_heldOf_5 : decode cX2_heldOf 5 = .ok (.sipush 200, 3) := by decide +kernel
theorem dX2_heldOf_8 : decode cX2_heldOf 8 = .ok (.imul, 1) := by decide +kernel
theorem dX2_heldOf_9 : decode cX2_heldOf 9 = .ok (.iload_n 2, 1) := by decide +kernel
theorem dX2_heldOf_10 : decode cX2_heldOf 10 = .ok (.iadd, 1) := by decide +kernel
theorem dX2_heldOf_11 : decode cX2_heldOf 11 = .ok (.iaload, 1) := by decide +kernel
theorem dX2_heldOf_12 : decode cX2_heldOf 12 = .ok (.ireturn, 1) := by decide +kernel
theorem dX2_missing_0 : decode cX2_missing 0 = .ok (.aload_n 0, 1) := by decide +kernel
theorem dX2_missing_1 : decode cX2_missing 1 = .ok (.getfield 18, 3) := by decide +kernel
theorem dX2_missing_4 : decode cX2_missing 4 = .ok (.iload_n 1, 1) := by decide +kernel
theorem dX2_missing_5 : decode cX2_missing 5 = .ok (.iaload, 1) := by decide +kernel
theorem dX2_missing_6 : decode cX2_missing 6 = .ok (.aload_n 0, 1) := by decide +kernel
theorem dX2_missing_7 : decode cX2_missing 7 = .ok (.getfield 21, 3) := by decide +kernel
theorem dX2_missing_10 : decode cX2_missing 10 = .ok (.iload_n 1, 1) := by decide +kernel
theorem dX2_missing_11 : decode cX2_missing 11 = .ok (.iaload, 1) := by decide +kernel
theorem dX2_missing_12 : decode cX2_missing 12 = .ok (.isub, 1) := by decide +kernel
theorem dX2_missing_13 : decode cX2_missing 13 = .ok (.ireturn, 1) := by decide +kernel
theorem dX2_isFrom_0 : decode cX2_isFrom 0 = .ok (.aload_n 0, 1) := by decide +kernel
theorem dX2_isFrom_1 : decode cX2_isFrom 1 = .ok (.getfield 9, 3) := by decide +kernel
theorem dX2_isFrom_4 : decode cX2_isFrom 4 = .ok (.iload_n 1, 1) := by decide +kernel
theorem dX2_isFrom_5 : decode cX2_isFrom 5 = .ok (.iaload, 1) := by decide +kernel
theorem dX2_isFrom_6 : decode cX2_isFrom 6 = .ok (.iload_n 2, 1) := by decide +kernel
theorem dX2_isFrom_7 : decode cX2_isFrom 7 = .ok (.if_icmp .ne 17, 3) := by decide +kernel
theorem dX2_isFrom_10 : decode cX2_isFrom 10 = .ok (.aload_n 0, 1) := by decide +kernel
theorem dX2_isFrom_11 : decode cX2_isFrom 11 = .ok (.getfield 15, 3) := by decide +kernel
theorem dX2_isFrom_14 : decode cX2_isFrom 14 = .ok (.iload_n 1, 1) := by decide +kernel
theorem dX2_isFrom_15 : decode cX2_isFrom 15 = .ok (.iaload, 1) := by decide +kernel
theorem dX2_isFrom_16 : decode cX2_isFrom 16 = .ok (.iload_n 3, 1) := by decide +kernel
theorem dX2_isFrom_17 : decode cX2_isFrom 17 = .ok (.if_icmp .ne 7, 3) := by decide +kernel
theorem dX2_isFrom_20 : decode cX2_isFrom 20 = .ok (.iconst 1, 1) := by decide +kernel
theorem dX2_isFrom_21 : decode cX2_isFrom 21 = .ok (.goto 4, 3) := by decide +kernel
theorem dX2_isFrom_24 : decode cX2_isFrom 24 = .ok (.iconst 0, 1) := by decide +kernel
theorem dX2_isFrom_25 : decode cX2_isFrom 25 = .ok (.ireturn, 1) := by decide +kernel
theorem dX2_comesAhead_0 : decode cX2_comesAhead 0 = .ok (.aload_n 0, 1) := by decide +kernel
theorem dX2_comesAhead_1 : decode cX2_comesAhead 1 = .ok (.getfield 27, 3) := by decide +kernel
theorem dX2_comesAhead_4 : decode cX2_comesAhead 4 = .ok (.iload_n 1, 1) := by decide +kernel
theorem dX2_comesAhead_5 : decode cX2_comesAhead 5 = .ok (.iaload, 1) := by decide +kernel
theorem dX2_comesAhead_6 : decode cX2_comesAhead 6 = .ok (.aload_n 0, 1) := by decide +kernel
theorem dX2_comesAhead_7 : decode cX2_comesAhead 7 = .ok (.getfield 27, 3) := by decide +kernel
theorem dX2_comesAhead_10 : decode cX2_comesAhead 10 = .ok (.iload_n 2, 1) := by decide +kernel
theorem dX2_comesAhead_11 : decode cX2_comesAhead 11 = .ok (.iaload, 1) := by decide +kernel
theorem dX2_comesAhead_12 : decode cX2_comesAhead 12 = .ok (.if_icmp .eq 24, 3) := by decide +kernel
theorem dX2_comesAhead_15 : decode cX2_comesAhead 15 = .ok (.aload_n 0, 1) := by decide +kernel
theorem dX2_comesAhead_16 : decode cX2_comesAhead 16 = .ok (.getfield 27, 3) := by decide +kernel
theorem dX2_comesAhead_19 : decode cX2_comesAhead 19 = .ok (.iload_n 1, 1) := by decide +kernel
theorem dX2_comesAhead_20 : decode cX2_comesAhead 20 = .ok (.iaload, 1) := by decide +kernel
theorem dX2_comesAhead_21 : decode cX2_comesAhead 21 = .ok (.aload_n 0, 1) := by decide +kernel
theorem dX2_comesAhead_22 : decode cX2_comesAhead 22 = .ok (.getfield 27, 3) := by decide +kernel
theorem dX2_comesAhead_25 : decode cX2_comesAhead 25 = .ok (.iload_n 2, 1) := by decide +kernel
theorem dX2_comesAhead_26 : decode cX2_comesAhead 26 = .ok (.iaload, 1) := by decide +kernel
theorem dX2_comesAhead_27 : decode cX2_comesAhead 27 = .ok (.if_icmp .ge 7, 3) := by decide +kernel
theorem dX2_comesAhead_30 : decode cX2_comesAhead 30 = .ok (.iconst 1, 1) := by decide +kernel
theorem dX2_comesAhead_31 : decode cX2_comesAhead 31 = .ok (.goto 4, 3) := by decide +kernel
theorem dX2_comesAhead_34 : decode cX2_comesAhead 34 = .ok (.iconst 0, 1) := by decide +kernel
theorem dX2_comesAhead_35 : decode cX2_comesAhead 35 = .ok (.ireturn, 1) := by decide +kernel
theorem dX2_comesAhead_36 : decode cX2_comesAhead 36 = .ok (.aload_n 0, 1) := by decide +kernel
theorem dX2_comesAhead_37 : decode cX2_comesAhead 37 = .ok (.getfield 24, 3) := by decide +kernel
theorem dX2_comesAhead_40 : decode cX2_comesAhead 40 = .ok (.iload_n 1, 1) := by decide +kernel
theorem dX2_comesAhead_41 : decode cX2_comesAhead 41 = .ok (.iaload, 1) := by decide +kernel
theorem dX2_comesAhead_42 : decode cX2_comesAhead 42 = .ok (.aload_n 0, 1) := by decide +kernel
theorem dX2_comesAhead_43 : decode cX2_comesAhead 43 = .ok (.getfield 24, 3) := by decide +kernel
theorem dX2_comesAhead_46 : decode cX2_comesAhead 46 = .ok (.iload_n 2, 1) := by decide +kernel
theorem dX2_comesAhead_47 : decode cX2_comesAhead 47 = .ok (.iaload, 1) := by decide +kernel
theorem dX2_comesAhead_48 : decode cX2_comesAhead 48 = .ok (.if_icmp .eq 24, 3) := by decide +kernel
theorem dX2_comesAhead_51 : decode cX2_comesAhead 51 = .ok (.aload_n 0, 1) := by decide +kernel
theorem dX2_comesAhead_52 : decode cX2_comesAhead 52 = .ok (.getfield 24, 3) := by decide +kernel
theorem dX2_comesAhead_55 : decode cX2_comesAhead 55 = .ok (.iload_n 1, 1) := by decide +kernel
theorem dX2_comesAhead_56 : decode cX2_comesAhead 56 = .ok (.iaload, 1) := by decide +kernel
theorem dX2_comesAhead_57 : decode cX2_comesAhead 57 = .ok (.aload_n 0, 1) := by decide +kernel
theorem dX2_comesAhead_58 : decode cX2_comesAhead 58 = .ok (.getfield 24, 3) := by decide +kernel
theorem dX2_comesAhead_61 : decode cX2_comesAhead 61 = .ok (.iload_n 2, 1) := by decide +kernel
theorem dX2_comesAhead_62 : decode cX2_comesAhead 62 = .ok (.iaload, 1) := by decide +kernel
theorem dX2_comesAhead_63 : decode cX2_comesAhead 63 = .ok (.if_icmp .ge 7, 3) := by decide +kernel
theorem dX2_comesAhead_66 : decode cX2_comesAhead 66 = .ok (.iconst 1, 1) := by decide +kernel
theorem dX2_comesAhead_67 : decode cX2_comesAhead 67 = .ok (.goto 4, 3) := by decide +kernel
theorem dX2_comesAhead_70 : decode cX2_comesAhead 70 = .ok (.iconst 0, 1) := by decide +kernel
theorem dX2_comesAhead_71 : decode cX2_comesAhead 71 = .ok (.ireturn, 1) := by decide +kernel
theorem dX2_comesAhead_72 : decode cX2_comesAhead 72 = .ok (.iload_n 1, 1) := by decide +kernel
theorem dX2_comesAhead_73 : decode cX2_comesAhead 73 = .ok (.iload_n 2, 1) := by decide +kernel
theorem dX2_comesAhead_74 : decode cX2_comesAhead 74 = .ok (.if_icmp .ge 7, 3) := by decide +kernel
theorem dX2_comesAhead_77 : decode cX2_comesAhead 77 = .ok (.iconst 1, 1) := by decide +kernel
theorem dX2_comesAhead_78 : decode cX2_comesAhead 78 = .ok (.goto 4, 3) := by decide +kernel
theorem dX2_comesAhead_81 : decode cX2_comesAhead 81 = .ok (.iconst 0, 1) := by decide +kernel
theorem dX2_comesAhead_82 : decode cX2_comesAhead 82 = .ok (.ireturn, 1) := by decide +kernel
theorem dX2_openUnitsFrom_0 : decode cX2_openUnitsFrom 0 = .ok (.iconst 0, 1) := by decide +kernel
theorem dX2_openUnitsFrom_1 : decode cX2_openUnitsFrom 1 = .ok (.istore_n 3, 1) := by decide +kernel
theorem dX2_openUnitsFrom_2 : decode cX2_openUnitsFrom 2 = .ok (.iconst 0, 1) := by decide +kernel
theorem dX2_openUnitsFrom_3 : decode cX2_openUnitsFrom 3 = .ok (.istore 4, 2) := by decide +kernel
theorem dX2_openUnitsFrom_5 : decode cX2_openUnitsFrom 5 = .ok (.iload 4, 2) := by decide +kernel
theorem dX2_openUnitsFrom_7 : decode cX2_openUnitsFrom 7 = .ok (.aload_n 0, 1) := by decide +kernel
theorem dX2_openUnitsFrom_8 : decode cX2_openUnitsFrom 8 = .ok (.getfield 42, 3) := by decide +kernel
theorem dX2_openUnitsFrom_11 : decode cX2_openUnitsFrom 11 = .ok (.if_icmp .ge 40, 3) := by decide +kernel
theorem dX2_openUnitsFrom_14 : decode cX2_openUnitsFrom 14 = .ok (.aload_n 0, 1) := by decide +kernel
theorem dX2_openUnitsFrom_15 : decode cX2_openUnitsFrom 15 = .ok (.getfield 33, 3) := by decide +kernel
theorem dX2_openUnitsFrom_18 : decode cX2_openUnitsFrom 18 = .ok (.iload 4, 2) := by decide +kernel
theorem dX2_openUnitsFrom_20 : decode cX2_openUnitsFrom 20 = .ok (.iaload, 1) := by decide +kernel
theorem dX2_openUnitsFrom_21 : decode cX2_openUnitsFrom 21 = .ok (.ifCond .ne 24, 3) := by decide +kernel
theorem dX2_openUnitsFrom_24 : decode cX2_openUnitsFrom 24 = .ok (.aload_n 0, 1) := by decide +kernel
theorem dX2_openUnitsFrom_25 : decode cX2_openUnitsFrom 25 = .ok (.iload 4, 2) := by decide +kernel
theorem dX2_openUnitsFrom_27 : decode cX2_openUnitsFrom 27 = .ok (.iload_n 1, 1) := by decide +kernel
theorem dX2_openUnitsFrom_28 : decode cX2_openUnitsFrom 28 = .ok (.iload_n 2, 1) := by decide +kernel
theorem dX2_openUnitsFrom_29 : decode cX2_openUnitsFrom 29 = .ok (.invokevirtual 46, 3) := by decide +kernel
theorem dX2_openUnitsFrom_32 : decode cX2_openUnitsFrom 32 = .ok (.ifCond .eq 13, 3) := by decide +kernel
theorem dX2_openUnitsFrom_35 : decode cX2_openUnitsFrom 35 = .ok (.iload_n 3, 1) := by decide +kernel
theorem dX2_openUnitsFrom_36 : decode cX2_openUnitsFrom 36 = .ok (.aload_n 0, 1) := by decide +kernel
theorem dX2_openUnitsFrom_37 : decode cX2_openUnitsFrom 37 = .ok (.getfield 18, 3) := by decide +kernel
theorem dX2_openUnitsFrom_40 : decode cX2_openUnitsFrom 40 = .ok (.iload 4, 2) := by decide +kernel
theorem dX2_openUnitsFrom_42 : decode cX2_openUnitsFrom 42 = .ok (.iaload, 1) := by decide +kernel
theorem dX2_openUnitsFrom_43 : decode cX2_openUnitsFrom 43 = .ok (.iadd, 1) := by decide +kernel
theorem dX2_openUnitsFrom_44 : decode cX2_openUnitsFrom 44 = .ok (.istore_n 3, 1) := by decide +kernel
theorem dX2_openUnitsFrom_45 : decode cX2_openUnitsFrom 45 = .ok (.iinc 4 1, 3) := by decide +kernel
theorem dX2_openUnitsFrom_48 : decode cX2_openUnitsFrom 48 = .ok (.goto (-43), 3) := by decide +kernel
theorem dX2_openUnitsFrom_51 : decode cX2_openUnitsFrom 51 = .ok (.iload_n 3, 1) := by decide +kernel
theorem dX2_openUnitsFrom_52 : decode cX2_openUnitsFrom 52 = .ok (.ireturn, 1) := by decide +kernel
theorem dX2_useWithin_0 : decode cX2_useWithin 0 = .ok (.iconst 0, 1) := by decide +kernel
theorem dX2_useWithin_1 : decode cX2_useWithin 1 = .ok (.istore 5, 2) := by decide +kernel
theorem dX2_useWithin_3 : decode cX2_useWithin 3 = .ok (.iconst 0, 1) := by decide +kernel
theorem dX2_useWithin_4 : decode cX2_useWithin 4 = .ok (.istore 6, 2) := by decide +kernel
theorem dX2_useWithin_6 : decode cX2_useWithin 6 = .ok (.iload 6, 2) := by decide +kernel
theorem dX2_useWithin_8 : decode cX2_useWithin 8 = .ok (.aload_n 0, 1) := by decide +kernel
theorem dX2_useWithin_9 : decode cX2_useWithin 9 = .ok (.getfield 42, 3) := by decide +kernel
theorem dX2_useWithin_12 : decode cX2_useWithin 12 = .ok (.if_icmp .ge 66, 3) := by decide +kernel
theorem dX2_useWithin_15 : decode cX2_useWithin 15 = .ok (.aload_n 0, 1) := by decide +kernel
theorem dX2_useWithin_16 : decode cX2_useWithin 16 = .ok (.getfield 33, 3) := by decide +kernel
theorem dX2_useWithin_19 : decode cX2_useWithin 19 = .ok (.iload 6, 2) := by decide +kernel
theorem dX2_useWithin_21 : decode cX2_useWithin 21 = .ok (.iaload, 1) := by decide +kernel
theorem dX2_useWithin_22 : decode cX2_useWithin 22 = .ok (.iconst 2, 1) := by decide +kernel
theorem dX2_useWithin_23 : decode cX2_useWithin 23 = .ok (.if_icmp .eq 49, 3) := by decide +kernel
theorem dX2_useWithin_26 : decode cX2_useWithin 26 = .ok (.aload_n 0, 1) := by decide +kernel
theorem dX2_useWithin_27 : decode cX2_useWithin 27 = .ok (.iload 6, 2) := by decide +kernel
theorem dX2_useWithin_29 : decode cX2_useWithin 29 = .ok (.iload_n 1, 1) := by decide +kernel
theorem dX2_useWithin_30 : decode cX2_useWithin 30 = .ok (.iload_n 2, 1) := by decide +kernel
theorem dX2_useWithin_31 : decode cX2_useWithin 31 = .ok (.invokevirtual 46, 3) := by decide +kernel
theorem dX2_useWithin_34 : decode cX2_useWithin 34 = .ok (.ifCond .eq 38, 3) := by decide +kernel
theorem dX2_useWithin_37 : decode cX2_useWithin 37 = .ok (.aload_n 0, 1) := by decide +kernel
theorem dX2_useWithin_38 : decode cX2_useWithin 38 = .ok (.getfield 24, 3) := by decide +kernel
theorem dX2_useWithin_41 : decode cX2_useWithin 41 = .ok (.iload 6, 2) := by decide +kernel
theorem dX2_useWithin_43 : decode cX2_useWithin 43 = .ok (.iaload, 1) := by decide +kernel
theorem dX2_useWithin_44 : decode cX2_useWithin 44 = .ok (.iload_n 3, 1) := by decide +kernel
theorem dX2_useWithin_45 : decode cX2_useWithin 45 = .ok (.if_icmp .lt 27, 3) := by decide +kernel
theorem dX2_useWithin_48 : decode cX2_useWithin 48 = .ok (.aload_n 0, 1) := by decide +kernel
theorem dX2_useWithin_49 : decode cX2_useWithin 49 = .ok (.getfield 24, 3) := by decide +kernel
theorem dX2_useWithin_52 : decode cX2_useWithin 52 = .ok (.iload 6, 2) := by decide +kernel
theorem dX2_useWithin_54 : decode cX2_useWithin 54 = .ok (.iaload, 1) := by decide +kernel
theorem dX2_useWithin_55 : decode cX2_useWithin 55 = .ok (.iload 4, 2) := by decide +kernel
theorem dX2_useWithin_57 : decode cX2_useWithin 57 = .ok (.if_icmp .gt 15, 3) := by decide +kernel
theorem dX2_useWithin_60 : decode cX2_useWithin 60 = .ok (.iload 5, 2) := by decide +kernel
theorem dX2_useWithin_62 : decode cX2_useWithin 62 = .ok (.aload_n 0, 1) := by decide +kernel
theorem dX2_useWithin_63 : decode cX2_useWithin 63 = .ok (.getfield 18, 3) := by decide +kernel
theorem dX2_useWithin_66 : decode cX2_useWithin 66 = .ok (.iload 6, 2) := by decide +kernel
theorem dX2_useWithin_68 : decode cX2_useWithin 68 = .ok (.iaload, 1) := by decide +kernel
theorem dX2_useWithin_69 : decode cX2_useWithin 69 = .ok (.iadd, 1) := by decide +kernel
theorem dX2_useWithin_70 : decode cX2_useWithin 70 = .ok (.istore 5, 2) := by decide +kernel
theorem dX2_useWithin_72 : decode cX2_useWithin 72 = .ok (.iinc 6 1, 3) := by decide +kernel
theorem dX2_useWithin_75 : decode cX2_useWithin 75 = .ok (.goto (-69), 3) := by decide +kernel
theorem dX2_useWithin_78 : decode cX2_useWithin 78 = .ok (.iload 5, 2) := by decide +kernel
theorem dX2_useWithin_80 : decode cX2_useWithin 80 = .ok (.ireturn, 1) := by decide +kernel
theorem dX2_allReserved_0 : decode cX2_allReserved 0 = .ok (.iconst 0, 1) := by decide +kernel
theorem dX2_allReserved_1 : decode cX2_allReserved 1 = .ok (.istore_n 1, 1) := by decide +kernel
theorem dX2_allReserved_2 : decode cX2_allReserved 2 = .ok (.iconst 0, 1) := by decide +kernel
theorem dX2_allReserved_3 : decode cX2_allReserved 3 = .ok (.istore_n 2, 1) := by decide +kernel
theorem dX2_allReserved_4 : decode cX2_allReserved 4 = .ok (.iload_n 2, 1) := by decide +kernel
theorem dX2_allReserved_5 : decode cX2_allReserved 5 = .ok (.aload_n 0, 1) := by decide +kernel
theorem dX2_allReserved_6 : decode cX2_allReserved 6 = .ok (.getfield 42, 3) := by decide +kernel
theorem dX2_allReserved_9 : decode cX2_allReserved 9 = .ok (.if_icmp .ge 18, 3) := by decide +kernel
theorem dX2_allReserved_12 : decode cX2_allReserved 12 = .ok (.iload_n 1, 1) := by decide +kernel
theorem dX2_allReserved_13 : decode cX2_allReserved 13 = .ok (.aload_n 0, 1) := by decide +kernel
theorem dX2_allReserved_14 : decode cX2_allReserved 14 = .ok (.getfield 21, 3) := by decide +kernel
theorem dX2_allReserved_17 : decode cX2_allReserved 17 = .ok (.iload_n 2, 1) := by decide +kernel
theorem dX2_allReserved_18 : decode cX2_allReserved 18 = .ok (.iaload, 1) := by decide +kernel
theorem dX2_allReserved_19 : decode cX2_allReserved 19 = .ok (.iadd, 1) := by decide +kernel
theorem dX2_allReserved_20 : decode cX2_allReserved 20 = .ok (.istore_n 1, 1) := by decide +kernel
theorem dX2_allReserved_21 : decode cX2_allReserved 21 = .ok (.iinc 2 1, 3) := by decide +kernel
theorem dX2_allReserved_24 : decode cX2_allReserved 24 = .ok (.goto (-20), 3) := by decide +kernel
theorem dX2_allReserved_27 : decode cX2_allReserved 27 = .ok (.iload_n 1, 1) := by decide +kernel
theorem dX2_allReserved_28 : decode cX2_allReserved 28 = .ok (.ireturn, 1) := by decide +kernel
theorem dX5_has_0 : decode cX5_has 0 = .ok (.iload_n 1, 1) := by decide +kernel
theorem dX5_has_1 : decode cX5_has 1 = .ok (.ifCond .lt 15, 3) := by decide +kernel
theorem dX5_has_4 : decode cX5_has 4 = .ok (.iload_n 1, 1) := by decide +kernel
theorem dX5_has_5 : decode cX5_has 5 = .ok (.aload_n 0, 1) := by decide +kernel
theorem dX5_has_6 : decode cX5_has 6 = .ok (.getfield 18, 3) := by decide +kernel
theorem dX5_has_9 : decode cX5_has 9 = .ok (.if_icmp .ge 7, 3) := by decide +kernel
theorem dX5_has_12 : decode cX5_has 12 = .ok (.iconst 1, 1) := by decide +kernel
theorem dX5_has_13 : decode cX5_has 13 = .ok (.goto 4, 3) := by decide +kernel
theorem dX5_has_16 : decode cX5_has 16 = .ok (.iconst 0, 1) := by decide +kernel
theorem dX5_has_17 : decode cX5_has 17 = .ok (.ireturn, 1) := by decide +kernel
theorem dX7_full_0 : decode cX7_full 0 = .ok (.aload_n 0, 1) := by decide +kernel
theorem dX7_full_1 : decode cX7_full 1 = .ok (.getfield 30, 3) := by decide +kernel
theorem dX7_full_4 : decode cX7_full 4 = .ok (.bipush 90, 2) := by decide +kernel
theorem dX7_full_6 : decode cX7_full 6 = .ok (.if_icmp .lt 7, 3) := by decide +kernel
theorem dX7_full_9 : decode cX7_full 9 = .ok (.iconst 1, 1) := by decide +kernel
theorem dX7_full_10 : decode cX7_full 10 = .ok (.goto 4, 3) := by decide +kernel
theorem dX7_full_13 : decode cX7_full 13 = .ok (.iconst 0, 1) := by decide +kernel
theorem dX7_full_14 : decode cX7_full 14 = .ok (.ireturn, 1) := by decide +kernel
theorem dX7_unitsTo_0 : decode cX7_unitsTo 0 = .ok (.iconst 0, 1) := by decide +kernel
theorem dX7_unitsTo_1 : decode cX7_unitsTo 1 = .ok (.istore_n 3, 1) := by decide +kernel
theorem dX7_unitsTo_2 : decode cX7_unitsTo 2 = .ok (.iconst 0, 1) := by decide +kernel
theorem dX7_unitsTo_3 : decode cX7_unitsTo 3 = .ok (.istore 4, 2) := by decide +kernel
theorem dX7_unitsTo_5 : decode cX7_unitsTo 5 = .ok (.iload 4, 2) := by decide +kernel
theorem dX7_unitsTo_7 : decode cX7_unitsTo 7 = .ok (.aload_n 0, 1) := by decide +kernel
theorem dX7_unitsTo_8 : decode cX7_unitsTo 8 = .ok (.getfield 30, 3) := by decide +kernel
theorem dX7_unitsTo_11 : decode cX7_unitsTo 11 = .ok (.if_icmp .ge 52, 3) := by decide +kernel
theorem dX7_unitsTo_14 : decode cX7_unitsTo 14 = .ok (.aload_n 0, 1) := by decide +kernel
theorem dX7_unitsTo_15 : decode cX7_unitsTo 15 = .ok (.getfield 27, 3) := by decide +kernel
theorem dX7_unitsTo_18 : decode cX7_unitsTo 18 = .ok (.iload 4, 2) := by decide +kernel
theorem dX7_unitsTo_20 : decode cX7_unitsTo 20 = .ok (.iaload, 1) := by decide +kernel
theorem dX7_unitsTo_21 : decode cX7_unitsTo 21 = .ok (.iconst 1, 1) := by decide +kernel
theorem dX7_unitsTo_22 : decode cX7_unitsTo 22 = .ok (.if_icmp .ne 35, 3) := by decide +kernel
theorem dX7_unitsTo_25 : decode cX7_unitsTo 25 = .ok (.aload_n 0, 1) := by decide +kernel
theorem dX7_unitsTo_26 : decode cX7_unitsTo 26 = .ok (.getfield 9, 3) := by decide +kernel
theorem dX7_unitsTo_29 : decode cX7_unitsTo 29 = .ok (.iload 4, 2) := by decide +kernel
theorem dX7_unitsTo_31 : decode cX7_unitsTo 31 = .ok (.iaload, 1) := by decide +kernel
theorem dX7_unitsTo_32 : decode cX7_unitsTo 32 = .ok (.iload_n 1, 1) := by decide +kernel
theorem dX7_unitsTo_33 : decode cX7_unitsTo 33 = .ok (.if_icmp .ne 24, 3) := by decide +kernel
theorem dX7_unitsTo_36 : decode cX7_unitsTo 36 = .ok (.aload_n 0, 1) := by decide +kernel
theorem dX7_unitsTo_37 : decode cX7_unitsTo 37 = .ok (.getfield 15, 3) := by decide +kernel
theorem dX7_unitsTo_40 : decode cX7_unitsTo 40 = .ok (.iload 4, 2) := by decide +kernel
theorem dX7_unitsTo_42 : decode cX7_unitsTo 42 = .ok (.iaload, 1) := by decide +kernel
theorem dX7_unitsTo_43 : decode cX7_unitsTo 43 = .ok (.iload_n 2, 1) := by decide +kernel
theorem dX7_unitsTo_44 : decode cX7_unitsTo 44 = .ok (.if_icmp .ne 13, 3) := by decide +kernel
theorem dX7_unitsTo_47 : decode cX7_unitsTo 47 = .ok (.iload_n 3, 1) := by decide +kernel
theorem dX7_unitsTo_48 : decode cX7_unitsTo 48 = .ok (.aload_n 0, 1) := by decide +kernel
theorem dX7_unitsTo_49 : decode cX7_unitsTo 49 = .ok (.getfield 18, 3) := by decide +kernel
theorem dX7_unitsTo_52 : decode cX7_unitsTo 52 = .ok (.iload 4, 2) := by decide +kernel
theorem dX7_unitsTo_54 : decode cX7_unitsTo 54 = .ok (.iaload, 1) := by decide +kernel
theorem dX7_unitsTo_55 : decode cX7_unitsTo 55 = .ok (.iadd, 1) := by decide +kernel
theorem dX7_unitsTo_56 : decode cX7_unitsTo 56 = .ok (.istore_n 3, 1) := by decide +kernel
theorem dX7_unitsTo_57 : decode cX7_unitsTo 57 = .ok (.iinc 4 1, 3) := by decide +kernel
theorem dX7_unitsTo_60 : decode cX7_unitsTo 60 = .ok (.goto (-55), 3) := by decide +kernel
theorem dX7_unitsTo_63 : decode cX7_unitsTo 63 = .ok (.iload_n 3, 1) := by decide +kernel
theorem dX7_unitsTo_64 : decode cX7_unitsTo 64 = .ok (.ireturn, 1) := by decide +kernel
theorem dX8_pair_0 : decode cX8_pair 0 = .ok (.iload_n 0, 1) := by decide +kernel
theorem dX8_pair_1 : decode cX8_pair 1 = .ok (.iconst 5, 1) := by decide +kernel
theorem dX8_pair_2 : decode cX8_pair 2 = .ok (.imul, 1) := by decide +kernel
theorem dX8_pair_3 : decode cX8_pair 3 = .ok (.iload_n 1, 1) := by decide +kernel
theorem dX8_pair_4 : decode cX8_pair 4 = .ok (.iadd, 1) := by decide +kernel
theorem dX8_pair_5 : decode cX8_pair 5 = .ok (.ireturn, 1) := by decide +kernel
