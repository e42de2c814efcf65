theorem dX0_has_0 : decode cX0_has 0 = .ok (.iload_n 1, 1) := by decide +kernel
theorem dX0_has_1 : decode cX0_has 1 = .ok (.ifCond .lt 15, 3) := by decide +kernel
theorem dX0_has_4 : decode cX0_has 4 = .ok (.iload_n 1, 1) := by decide +kernel
theorem dX0_has_5 : decode cX0_has 5 = .ok (.aload_n 0, 1) := by decide +kernel
theorem dX0_has_6 : decode cX0_has 6 = .ok (.getfield 24, 3) := by decide +kernel
theorem dX0_has_9 : decode cX0_has 9 = .ok (.if_icmp .ge 7, 3) := by decide +kernel
theorem dX0_has_16 : decode cX0_has 16 = .ok (.iconst 0, 1) := by decide +kernel
theorem dX0_has_17 : decode cX0_has 17 = .ok (.ireturn, 1) := by decide +kernel
theorem dX1_has_0 : decode cX1_has 0 = .ok (.iload_n 1, 1) := by decide +kernel
theorem dX1_has_1 : decode cX1_has 1 = .ok (.ifCond .lt 15, 3) := by decide +kernel
theorem dX1_has_4 : decode cX1_has 4 = .ok (.iload_n 1, 1) := by decide +kernel
theorem dX1_has_5 : decode cX1_has 5 = .ok (.aload_n 0, 1) := by decide +kernel
theorem dX1_has_6 : decode cX1_has 6 = .ok (.getfield 27, 3) := by decide +kernel
theorem dX1_has_9 : decode cX1_has 9 = .ok (.if_icmp .ge 7, 3) := by decide +kernel
theorem dX1_has_16 : decode cX1_has 16 = .ok (.iconst 0, 1) := by decide +kernel
theorem dX1_has_17 : decode cX1_has 17 = .ok (.ireturn, 1) := by decide +kernel
theorem dX2_has_0 : decode cX2_has 0 = .ok (.iload_n 1, 1) := by decide +kernel
theorem dX2_has_1 : decode cX2_has 1 = .ok (.ifCond .lt 15, 3) := by decide +kernel
theorem dX2_has_4 : decode cX2_has 4 = .ok (.iload_n 1, 1) := by decide +kernel
theorem dX2_has_5 : decode cX2_has 5 = .ok (.aload_n 0, 1) := by decide +kernel
theorem dX2_has_6 : decode cX2_has 6 = .ok (.getfield 42, 3) := by decide +kernel
theorem dX2_has_9 : decode cX2_has 9 = .ok (.if_icmp .ge 7, 3) := by decide +kernel
theorem dX2_has_16 : decode cX2_has 16 = .ok (.iconst 0, 1) := by decide +kernel
theorem dX2_has_17 : decode cX2_has 17 = .ok (.ireturn, 1) := by decide +kernel
theorem dX5_has_0 : decode cX5_has 0 = .ok (.iload_n 1, 1) := by decide +kernel
theorem dX5_has_1 : decode cX5_has 1 = .ok (.ifCond .lt 15, 3) := by decide +kernel
theorem dX5_has_4 : decode cX5_has 4 = .ok (.iload_n 1, 1) := by decide +kernel
theorem dX5_has_5 : decode cX5_has 5 = .ok (.aload_n 0, 1) := by decide +kernel
theorem dX5_has_6 : decode cX5_has 6 = .ok (.getfield 18, 3) := by decide +kernel
theorem dX5_has_9 : decode cX5_has 9 = .ok (.if_icmp .ge 7, 3) := by decide +kernel
theorem dX5_has_16 : decode cX5_has 16 = .ok (.iconst 0, 1) := by decide +kernel
theorem dX5_has_17 : decode cX5_has 17 = .ok (.ireturn, 1) := by decide +kernel
theorem dX7_has_0 : decode cX7_has 0 = .ok (.iload_n 1, 1) := by decide +kernel
theorem dX7_has_1 : decode cX7_has 1 = .ok (.ifCond .lt 15, 3) := by decide +kernel
theorem dX7_has_4 : decode cX7_has 4 = .ok (.iload_n 1, 1) := by decide +kernel
theorem dX7_has_5 : decode cX7_has 5 = .ok (.aload_n 0, 1) := by decide +kernel
theorem dX7_has_6 : decode cX7_has 6 = .ok (.getfield 30, 3) := by decide +kernel
theorem dX7_has_9 : decode cX7_has 9 = .ok (.if_icmp .ge 7, 3) := by decide +kernel
theorem dX7_has_16 : decode cX7_has 16 = .ok (.iconst 0, 1) := by decide +kernel
theorem dX7_has_17 : decode cX7_has 17 = .ok (.ireturn, 1) := by decide +kernel
theorem dX8_needItem_0 : decode cX8_needItem 0 = .ok (.aload_n 0, 1) := by decide +kernel
theorem dX8_needItem_1 : decode cX8_needItem 1 = .ok (.getfield 10, 3) := by decide +kernel
theorem dX8_needItem_4 : decode cX8_needItem 4 = .ok (.getfield 30, 3) := by decide +kernel
theorem dX8_needItem_7 : decode cX8_needItem 7 = .ok (.iload_n 1, 1) := by decide +kernel
theorem dX8_needItem_8 : decode cX8_needItem 8 = .ok (.invokevirtual 287, 3) := by decide +kernel
theorem dX8_needItem_11 : decode cX8_needItem 11 = .ok (.invokestatic 204, 3) := by decide +kernel
theorem dX8_needSite_0 : decode cX8_needSite 0 = .ok (.aload_n 0, 1) := by decide +kernel
theorem dX8_needSite_1 : decode cX8_needSite 1 = .ok (.getfield 10, 3) := by decide +kernel
theorem dX8_needSite_4 : decode cX8_needSite 4 = .ok (.getfield 48, 3) := by decide +kernel
theorem dX8_needSite_7 : decode cX8_needSite 7 = .ok (.iload_n 1, 1) := by decide +kernel
theorem dX8_needSite_8 : decode cX8_needSite 8 = .ok (.invokevirtual 288, 3) := by decide +kernel
theorem dX8_needSite_11 : decode cX8_needSite 11 = .ok (.invokestatic 204, 3) := by decide +kernel
theorem dX8_needLot_0 : decode cX8_needLot 0 = .ok (.aload_n 0, 1) := by decide +kernel
theorem dX8_needLot_1 : decode cX8_needLot 1 = .ok (.getfield 10, 3) := by decide +kernel
theorem dX8_needLot_4 : decode cX8_needLot 4 = .ok (.getfield 109, 3) := by decide +kernel
theorem dX8_needLot_7 : decode cX8_needLot 7 = .ok (.iload_n 1, 1) := by decide +kernel
theorem dX8_needLot_8 : decode cX8_needLot 8 = .ok (.invokevirtual 289, 3) := by decide +kernel
theorem dX8_needLot_11 : decode cX8_needLot 11 = .ok (.invokestatic 204, 3) := by decide +kernel
theorem dX8_needOrder_0 : decode cX8_needOrder 0 = .ok (.aload_n 0, 1) := by decide +kernel
theorem dX8_needOrder_1 : decode cX8_needOrder 1 = .ok (.getfield 10, 3) := by decide +kernel
theorem dX8_needOrder_4 : decode cX8_needOrder 4 = .ok (.getfield 131, 3) := by decide +kernel
theorem dX8_needOrder_7 : decode cX8_needOrder 7 = .ok (.iload_n 1, 1) := by decide +kernel
theorem dX8_needOrder_8 : decode cX8_needOrder 8 = .ok (.invokevirtual 290, 3) := by decide +kernel
theorem dX8_needOrder_11 : decode cX8_needOrder 11 = .ok (.invokestatic 204, 3) := by decide +kernel
theorem dX8_needIndex_0 : decode cX8_needIndex 0 = .ok (.iload_n 0, 1) := by decide +kernel
theorem dX8_needIndex_1 : decode cX8_needIndex 1 = .ok (.ifCond .ne 14, 3) := by decide +kernel
theorem dX8_needIndex_4 : decode cX8_needIndex 4 = .ok (.new 291, 3) := by decide +kernel
theorem dX8_needIndex_7 : decode cX8_needIndex 7 = .ok (.dup, 1) := by decide +kernel
theorem dX8_needIndex_8 : decode cX8_needIndex 8 = .ok (.ldc_w 293, 3) := by decide +kernel
theorem dX8_needIndex_11 : decode cX8_needIndex 11 = .ok (.invokespecial 295, 3) := by decide +kernel
theorem dX8_needIndex_14 : decode cX8_needIndex 14 = .ok (.athrow, 1) := by decide +kernel
theorem dX8_needIndex_15 : decode cX8_needIndex 15 = .ok (.return_, 1) := by decide +kernel
theorem dX8_needWithin_0 : decode cX8_needWithin 0 = .ok (.iload_n 0, 1) := by decide +kernel
theorem dX8_needWithin_1 : decode cX8_needWithin 1 = .ok (.iload_n 1, 1) := by decide +kernel
theorem dX8_needWithin_2 : decode cX8_needWithin 2 = .ok (.if_icmp .lt 12, 3) := by decide +kernel
theorem dX8_needWithin_5 : decode cX8_needWithin 5 = .ok (.iload_n 0, 1) := by decide +kernel
theorem dX8_needWithin_6 : decode cX8_needWithin 6 = .ok (.iload_n 2, 1) := by decide +kernel
theorem dX8_needWithin_7 : decode cX8_needWithin 7 = .ok (.if_icmp .gt 7, 3) := by decide +kernel
theorem dX8_needWithin_10 : decode cX8_needWithin 10 = .ok (.iconst 1, 1) := by decide +kernel
theorem dX8_needWithin_11 : decode cX8_needWithin 11 = .ok (.goto 4, 3) := by decide +kernel
theorem dX8_needWithin_14 : decode cX8_needWithin 14 = .ok (.iconst 0, 1) := by decide +kernel
theorem dX8_needWithin_15 : decode cX8_needWithin 15 = .ok (.invokestatic 62, 3) := by decide +kernel
theorem dX8_needWithin_18 : decode cX8_needWithin 18 = .ok (.return_, 1) := by decide +kernel
theorem dX8_needArgument_0 : decode cX8_needArgument 0 = .ok (.iload_n 0, 1) := by decide +kernel
theorem dX8_needArgument_1 : decode cX8_needArgument 1 = .ok (.ifCond .ne 14, 3) := by decide +kernel
theorem dX8_needArgument_4 : decode cX8_needArgument 4 = .ok (.new 298, 3) := by decide +kernel
theorem dX8_needArgument_7 : decode cX8_needArgument 7 = .ok (.dup, 1) := by decide +kernel
theorem dX8_needArgument_8 : decode cX8_needArgument 8 = .ok (.ldc_w 300, 3) := by decide +kernel
theorem dX8_needArgument_11 : decode cX8_needArgument 11 = .ok (.invokespecial 302, 3) := by decide +kernel
theorem dX8_needArgument_14 : decode cX8_needArgument 14 = .ok (.athrow, 1) := by decide +kernel
theorem dX8_needArgument_15 : decode cX8_needArgument 15 = .ok (.return_, 1) := by decide +kernel
theorem dX8_needState_0 : decode cX8_needState 0 = .ok (.iload_n 0, 1) := by decide +kernel
theorem dX8_needState_1 : decode cX8_needState 1 = .ok (.ifCond .ne 14, 3) := by decide +kernel
theorem dX8_needState_4 : decode cX8_needState 4 = .ok (.new 303, 3) := by decide +kernel
theorem dX8_needState_7 : decode cX8_needState 7 = .ok (.dup, 1) := by decide +kernel
theorem dX8_needState_8 : decode cX8_needState 8 = .ok (.ldc_w 305, 3) := by decide +kernel
theorem dX8_needState_11 : decode cX8_needState 11 = .ok (.invokespecial 307, 3) := by decide +kernel
theorem dX8_needState_14 : decode cX8_needState 14 = .ok (.athrow, 1) := by decide +kernel
theorem dX8_needState_15 : decode cX8_needState 15 = .ok (.return_, 1) := by decide +kernel
