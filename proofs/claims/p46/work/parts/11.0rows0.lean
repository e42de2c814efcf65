theorem dX8_needItem_0 : decode cX8_needItem 0 = .ok (.aload_n 0, 1) := by decide +kernel
theorem dX8_needItem_1 : decode cX8_needItem 1 = .ok (.getfield 10, 3) := by decide +kernel
theorem dX8_needItem_4 : decode cX8_needItem 4 = .ok (.getfield 30, 3) := by decide +kernel
theorem dX8_needItem_7 : decode cX8_needItem 7 = .ok (.iload_n 1, 1) := by decide +kernel
theorem dX8_needItem_8 : decode cX8_needItem 8 = .ok (.invokevirtual 287, 3) := by decide +kernel
theorem dX8_needItem_11 : decode cX8_needItem 11 = .ok (.invokestatic 204, 3) := by decide +kernel
theorem dX8_needItem_14 : decode cX8_needItem 14 = .ok (.return_, 1) := by decide +kernel
theorem dX8_needSite_0 : decode cX8_needSite 0 = .ok (.aload_n 0, 1) := by decide +kernel
theorem dX8_needSite_1 : decode cX8_needSite 1 = .ok (.getfield 10, 3) := by decide +kernel
theorem dX8_needSite_4 : decode cX8_needSite 4 = .ok (.getfield 48, 3) := by decide +kernel
theorem dX8_needSite_7 : decode cX8_needSite 7 = .ok (.iload_n 1, 1) := by decide +kernel
theorem dX8_needSite_8 : decode cX8_needSite 8 = .ok (.invokevirtual 288, 3) := by decide +kernel
theorem dX8_needSite_11 : decode cX8_needSite 11 = .ok (.invokestatic 204, 3) := by decide +kernel
theorem dX8_needSite_14 : decode cX8_needSite 14 = .ok (.return_, 1) := by decide +kernel
theorem dX8_needLot_0 : decode cX8_needLot 0 = .ok (.aload_n 0, 1) := by decide +kernel
theorem dX8_needLot_1 : decode cX8_needLot 1 = .ok (.getfield 10, 3) := by decide +kernel
theorem dX8_needLot_4 : decode cX8_needLot 4 = .ok (.getfield 109, 3) := by decide +kernel
theorem dX8_needLot_7 : decode cX8_needLot 7 = .ok (.iload_n 1, 1) := by decide +kernel
theorem dX8_needLot_8 : decode cX8_needLot 8 = .ok (.invokevirtual 289, 3) := by decide +kernel
theorem dX8_needLot_11 : decode cX8_needLot 11 = .ok (.invokestatic 204, 3) := by decide +kernel
theorem dX8_needLot_14 : decode cX8_needLot 14 = .ok (.return_, 1) := by decide +kernel
theorem dX8_needOrder_0 : decode cX8_needOrder 0 = .ok (.aload_n 0, 1) := by decide +kernel
theorem dX8_needOrder_1 : decode cX8_needOrder 1 = .ok (.getfield 10, 3) := by decide +kernel
theorem dX8_needOrder_4 : decode cX8_needOrder 4 = .ok (.getfield 131, 3) := by decide +kernel
theorem dX8_needOrder_7 : decode cX8_needOrder 7 = .ok (.iload_n 1, 1) := by decide +kernel
theorem dX8_needOrder_8 : decode cX8_needOrder 8 = .ok (.invokevirtual 290, 3) := by decide +kernel
theorem dX8_needOrder_11 : decode cX8_needOrder 11 = .ok (.invokestatic 204, 3) := by decide +kernel
theorem dX8_needOrder_14 : decode cX8_needOrder 14 = .ok (.return_, 1) := by decide +kernel
theorem dX8_needIndex_0 : decode cX8_needIndex 0 = .ok (.iload_n 0, 1) := by decide +kernel
theorem dX8_needIndex_1 : decode cX8_needIndex 1 = .ok (.ifCond .ne 14, 3) := by decide +kernel
theorem dX8_needIndex_15 : decode cX8_needIndex 15 = .ok (.return_, 1) := by decide +kernel
theorem dX8_needWithin_0 : decode cX8_needWithin 0 = .ok (.iload_n 0, 1) := by decide +kernel
theorem dX8_needWithin_1 : decode cX8_needWithin 1 = .ok (.iload_n 1, 1) := by decide +kernel
theorem dX8_needWithin_2 : decode cX8_needWithin 2 = .ok (.if_icmp .lt 12, 3) := by decide +kernel
theorem dX8_needWithin_5 : decode cX8_needWithin 5 = .ok (.iload_n 0, 1) := by decide +kernel
theorem dX8_needWithin_6 : decode cX8_needWithin 6 = .ok (.iload_n 2, 1) := by decide +kernel
theorem dX8_needWithin_7 : decode cX8_needWithin 7 = .ok (.if_icmp .gt 7, 3) := by decide +kernel
theorem dX8_needWithin_10 : decode cX8_needWithin 10 = .ok (.iconst 1, 1) := by decide +kernel
theorem dX8_needWithin_11 : decode cX8_needWithin 11 = .ok (.goto 4, 3) := by decide +kernel
theorem dX8_needWithin_15 : decode cX8_needWithin 15 = .ok (.invokestatic 62, 3) := by decide +kernel
theorem dX8_needWithin_18 : decode cX8_needWithin 18 = .ok (.return_, 1) := by decide +kernel
theorem dX8_needArgument_0 : decode cX8_needArgument 0 = .ok (.iload_n 0, 1) := by decide +kernel
theorem dX8_needArgument_1 : decode cX8_needArgument 1 = .ok (.ifCond .ne 14, 3) := by decide +kernel
theorem dX8_needArgument_15 : decode cX8_needArgument 15 = .ok (.return_, 1) := by decide +kernel
theorem dX8_needState_0 : decode cX8_needState 0 = .ok (.iload_n 0, 1) := by decide +kernel
theorem dX8_needState_1 : decode cX8_needState 1 = .ok (.ifCond .ne 14, 3) := by decide +kernel
theorem dX8_needState_15 : decode cX8_needState 15 = .ok (.return_, 1) := by decide +kernel
