theorem dX2_allReserved_0 : decode cX2_allReserved 0 = .ok (.iconst 0, 1) := by decide +kernel
theorem dX2_allReserved_1 : decode cX2_allReserved 1 = .ok (.istore_n 1, 1) := by decide +kernel
theorem dX2_allReserved_2 : decode cX2_allReserved 2 = .ok (.iconst 0, 1) := by decide +kernel
theorem dX2_allReserved_3 : decode cX2_allReserved 3 = .ok (.istore_n 2, 1) := by decide +kernel
theorem dX2_allReserved_4 : decode cX2_allReserved 4 = .ok (.iload_n 2, 1) := by decide +kernel
theorem dX2_allReserved_5 : decode cX2_allReserved 5 = .ok (.aload_n 0, 1) := by decide +kernel
theorem dX2_allReserved_6 : decode cX2_allReserved 6 = .ok (.getfield 42, 3) := by decide +kernel
theorem dX2_allReserved_9 : decode cX2_allReserved 9 = .ok (.if_icmp .ge 18, 3) := by decide +kernel
theorem dX2_allReserved_27 : decode cX2_allReserved 27 = .ok (.iload_n 1, 1) := by decide +kernel
theorem dX2_allReserved_28 : decode cX2_allReserved 28 = .ok (.ireturn, 1) := by decide +kernel
theorem dX2_punctualPart_0 : decode cX2_punctualPart 0 = .ok (.iconst 0, 1) := by decide +kernel
theorem dX2_punctualPart_1 : decode cX2_punctualPart 1 = .ok (.istore_n 1, 1) := by decide +kernel
theorem dX2_punctualPart_2 : decode cX2_punctualPart 2 = .ok (.iconst 0, 1) := by decide +kernel
theorem dX2_punctualPart_3 : decode cX2_punctualPart 3 = .ok (.istore_n 2, 1) := by decide +kernel
theorem dX2_punctualPart_4 : decode cX2_punctualPart 4 = .ok (.iconst 0, 1) := by decide +kernel
theorem dX2_punctualPart_5 : decode cX2_punctualPart 5 = .ok (.istore_n 3, 1) := by decide +kernel
theorem dX2_punctualPart_6 : decode cX2_punctualPart 6 = .ok (.iload_n 3, 1) := by decide +kernel
theorem dX2_punctualPart_7 : decode cX2_punctualPart 7 = .ok (.aload_n 0, 1) := by decide +kernel
theorem dX2_punctualPart_8 : decode cX2_punctualPart 8 = .ok (.getfield 42, 3) := by decide +kernel
theorem dX2_punctualPart_11 : decode cX2_punctualPart 11 = .ok (.if_icmp .ge 40, 3) := by decide +kernel
theorem dX2_punctualPart_51 : decode cX2_punctualPart 51 = .ok (.iload_n 1, 1) := by decide +kernel
theorem dX2_punctualPart_52 : decode cX2_punctualPart 52 = .ok (.ifCond .ne 7, 3) := by decide +kernel
theorem dX2_punctualPart_55 : decode cX2_punctualPart 55 = .ok (.dconst 1, 1) := by decide +kernel
theorem dX2_punctualPart_56 : decode cX2_punctualPart 56 = .ok (.goto 8, 3) := by decide +kernel
theorem dX2_punctualPart_64 : decode cX2_punctualPart 64 = .ok (.dreturn, 1) := by decide +kernel
theorem dX6_reserveForAll_0 : decode cX6_reserveForAll 0 = .ok (.aload_n 0, 1) := by decide +kernel
theorem dX6_reserveForAll_1 : decode cX6_reserveForAll 1 = .ok (.invokevirtual 180, 3) := by decide +kernel
theorem dX6_reserveForAll_4 : decode cX6_reserveForAll 4 = .ok (.istore_n 1, 1) := by decide +kernel
theorem dX6_reserveForAll_5 : decode cX6_reserveForAll 5 = .ok (.iconst 0, 1) := by decide +kernel
theorem dX6_reserveForAll_6 : decode cX6_reserveForAll 6 = .ok (.istore_n 2, 1) := by decide +kernel
theorem dX6_reserveForAll_7 : decode cX6_reserveForAll 7 = .ok (.iload_n 2, 1) := by decide +kernel
theorem dX6_reserveForAll_8 : decode cX6_reserveForAll 8 = .ok (.iload_n 1, 1) := by decide +kernel
theorem dX6_reserveForAll_9 : decode cX6_reserveForAll 9 = .ok (.if_icmp .ge 19, 3) := by decide +kernel
theorem dX6_reserveForAll_28 : decode cX6_reserveForAll 28 = .ok (.return_, 1) := by decide +kernel
theorem dX6_queueOpenOrders_0 : decode cX6_queueOpenOrders 0 = .ok (.iconst 0, 1) := by decide +kernel
theorem dX6_queueOpenOrders_1 : decode cX6_queueOpenOrders 1 = .ok (.istore_n 1, 1) := by decide +kernel
theorem dX6_queueOpenOrders_2 : decode cX6_queueOpenOrders 2 = .ok (.iconst 0, 1) := by decide +kernel
theorem dX6_queueOpenOrders_3 : decode cX6_queueOpenOrders 3 = .ok (.istore_n 2, 1) := by decide +kernel
theorem dX6_queueOpenOrders_4 : decode cX6_queueOpenOrders 4 = .ok (.iload_n 2, 1) := by decide +kernel
theorem dX6_queueOpenOrders_5 : decode cX6_queueOpenOrders 5 = .ok (.aload_n 0, 1) := by decide +kernel
theorem dX6_queueOpenOrders_6 : decode cX6_queueOpenOrders 6 = .ok (.getfield 42, 3) := by decide +kernel
theorem dX6_queueOpenOrders_9 : decode cX6_queueOpenOrders 9 = .ok (.getfield 188, 3) := by decide +kernel
theorem dX6_queueOpenOrders_12 : decode cX6_queueOpenOrders 12 = .ok (.if_icmp .ge 76, 3) := by decide +kernel
theorem dX6_queueOpenOrders_88 : decode cX6_queueOpenOrders 88 = .ok (.iload_n 1, 1) := by decide +kernel
theorem dX6_queueOpenOrders_89 : decode cX6_queueOpenOrders 89 = .ok (.ireturn, 1) := by decide +kernel
theorem dX6_wasteExpired_0 : decode cX6_wasteExpired 0 = .ok (.iconst 0, 1) := by decide +kernel
theorem dX6_wasteExpired_1 : decode cX6_wasteExpired 1 = .ok (.istore_n 1, 1) := by decide +kernel
theorem dX6_wasteExpired_2 : decode cX6_wasteExpired 2 = .ok (.iload_n 1, 1) := by decide +kernel
theorem dX6_wasteExpired_3 : decode cX6_wasteExpired 3 = .ok (.aload_n 0, 1) := by decide +kernel
theorem dX6_wasteExpired_4 : decode cX6_wasteExpired 4 = .ok (.getfield 35, 3) := by decide +kernel
theorem dX6_wasteExpired_7 : decode cX6_wasteExpired 7 = .ok (.getfield 148, 3) := by decide +kernel
theorem dX6_wasteExpired_10 : decode cX6_wasteExpired 10 = .ok (.if_icmp .ge 104, 3) := by decide +kernel
theorem dX6_wasteExpired_114 : decode cX6_wasteExpired 114 = .ok (.return_, 1) := by decide +kernel
theorem dX6_takeArrivals_0 : decode cX6_takeArrivals 0 = .ok (.iconst 0, 1) := by decide +kernel
theorem dX6_takeArrivals_1 : decode cX6_takeArrivals 1 = .ok (.istore_n 1, 1) := by decide +kernel
theorem dX6_takeArrivals_2 : decode cX6_takeArrivals 2 = .ok (.iload_n 1, 1) := by decide +kernel
theorem dX6_takeArrivals_3 : decode cX6_takeArrivals 3 = .ok (.aload_n 0, 1) := by decide +kernel
theorem dX6_takeArrivals_4 : decode cX6_takeArrivals 4 = .ok (.getfield 49, 3) := by decide +kernel
theorem dX6_takeArrivals_7 : decode cX6_takeArrivals 7 = .ok (.getfield 265, 3) := by decide +kernel
theorem dX6_takeArrivals_10 : decode cX6_takeArrivals 10 = .ok (.if_icmp .ge 43, 3) := by decide +kernel
theorem dX6_takeArrivals_53 : decode cX6_takeArrivals 53 = .ok (.return_, 1) := by decide +kernel
theorem dX6_serveDueOrders_0 : decode cX6_serveDueOrders 0 = .ok (.iconst 0, 1) := by decide +kernel
theorem dX6_serveDueOrders_1 : decode cX6_serveDueOrders 1 = .ok (.istore_n 1, 1) := by decide +kernel
theorem dX6_serveDueOrders_2 : decode cX6_serveDueOrders 2 = .ok (.iload_n 1, 1) := by decide +kernel
theorem dX6_serveDueOrders_3 : decode cX6_serveDueOrders 3 = .ok (.aload_n 0, 1) := by decide +kernel
theorem dX6_serveDueOrders_4 : decode cX6_serveDueOrders 4 = .ok (.getfield 42, 3) := by decide +kernel
theorem dX6_serveDueOrders_7 : decode cX6_serveDueOrders 7 = .ok (.getfield 188, 3) := by decide +kernel
theorem dX6_serveDueOrders_10 : decode cX6_serveDueOrders 10 = .ok (.if_icmp .ge 73, 3) := by decide +kernel
theorem dX6_serveDueOrders_83 : decode cX6_serveDueOrders 83 = .ok (.return_, 1) := by decide +kernel
theorem dX6_reviewAll_0 : decode cX6_reviewAll 0 = .ok (.iconst 0, 1) := by decide +kernel
theorem dX6_reviewAll_1 : decode cX6_reviewAll 1 = .ok (.istore_n 1, 1) := by decide +kernel
theorem dX6_reviewAll_2 : decode cX6_reviewAll 2 = .ok (.iload_n 1, 1) := by decide +kernel
theorem dX6_reviewAll_3 : decode cX6_reviewAll 3 = .ok (.aload_n 0, 1) := by decide +kernel
theorem dX6_reviewAll_4 : decode cX6_reviewAll 4 = .ok (.getfield 12, 3) := by decide +kernel
theorem dX6_reviewAll_7 : decode cX6_reviewAll 7 = .ok (.getfield 287, 3) := by decide +kernel
theorem dX6_reviewAll_10 : decode cX6_reviewAll 10 = .ok (.if_icmp .ge 34, 3) := by decide +kernel
theorem dX6_reviewAll_44 : decode cX6_reviewAll 44 = .ok (.return_, 1) := by decide +kernel
theorem dX6_countHolding_0 : decode cX6_countHolding 0 = .ok (.iconst 0, 1) := by decide +kernel
theorem dX6_countHolding_1 : decode cX6_countHolding 1 = .ok (.istore_n 1, 1) := by decide +kernel
theorem dX6_countHolding_2 : decode cX6_countHolding 2 = .ok (.iload_n 1, 1) := by decide +kernel
theorem dX6_countHolding_3 : decode cX6_countHolding 3 = .ok (.aload_n 0, 1) := by decide +kernel
theorem dX6_countHolding_4 : decode cX6_countHolding 4 = .ok (.getfield 35, 3) := by decide +kernel
theorem dX6_countHolding_7 : decode cX6_countHolding 7 = .ok (.getfield 148, 3) := by decide +kernel
theorem dX6_countHolding_10 : decode cX6_countHolding 10 = .ok (.if_icmp .ge 44, 3) := by decide +kernel
theorem dX6_countHolding_54 : decode cX6_countHolding 54 = .ok (.return_, 1) := by decide +kernel
theorem dX8_reserveAnew_0 : decode cX8_reserveAnew 0 = .ok (.iconst 0, 1) := by decide +kernel
theorem dX8_reserveAnew_1 : decode cX8_reserveAnew 1 = .ok (.istore_n 1, 1) := by decide +kernel
theorem dX8_reserveAnew_2 : decode cX8_reserveAnew 2 = .ok (.iload_n 1, 1) := by decide +kernel
theorem dX8_reserveAnew_3 : decode cX8_reserveAnew 3 = .ok (.aload_n 0, 1) := by decide +kernel
theorem dX8_reserveAnew_4 : decode cX8_reserveAnew 4 = .ok (.getfield 10, 3) := by decide +kernel
theorem dX8_reserveAnew_7 : decode cX8_reserveAnew 7 = .ok (.getfield 131, 3) := by decide +kernel
theorem dX8_reserveAnew_10 : decode cX8_reserveAnew 10 = .ok (.getfield 135, 3) := by decide +kernel
theorem dX8_reserveAnew_13 : decode cX8_reserveAnew 13 = .ok (.if_icmp .ge 17, 3) := by decide +kernel
theorem dX8_reserveAnew_30 : decode cX8_reserveAnew 30 = .ok (.aload_n 0, 1) := by decide +kernel
theorem dX8_reserveAnew_31 : decode cX8_reserveAnew 31 = .ok (.getfield 10, 3) := by decide +kernel
theorem dX8_reserveAnew_34 : decode cX8_reserveAnew 34 = .ok (.invokevirtual 156, 3) := by decide +kernel
theorem dX8_reserveAnew_37 : decode cX8_reserveAnew 37 = .ok (.aload_n 0, 1) := by decide +kernel
theorem dX8_reserveAnew_38 : decode cX8_reserveAnew 38 = .ok (.getfield 10, 3) := by decide +kernel
theorem dX8_reserveAnew_41 : decode cX8_reserveAnew 41 = .ok (.getfield 131, 3) := by decide +kernel
theorem dX8_reserveAnew_44 : decode cX8_reserveAnew 44 = .ok (.invokevirtual 159, 3) := by decide +kernel
theorem dX8_reserveAnew_47 : decode cX8_reserveAnew 47 = .ok (.ireturn, 1) := by decide +kernel
theorem dX8_day_0 : decode cX8_day 0 = .ok (.aload_n 0, 1) := by decide +kernel
theorem dX8_day_1 : decode cX8_day 1 = .ok (.getfield 10, 3) := by decide +kernel
theorem dX8_day_4 : decode cX8_day 4 = .ok (.getfield 125, 3) := by decide +kernel
theorem dX8_day_7 : decode cX8_day 7 = .ok (.ireturn, 1) := by decide +kernel
theorem dX8_items_0 : decode cX8_items 0 = .ok (.aload_n 0, 1) := by decide +kernel
theorem dX8_items_1 : decode cX8_items 1 = .ok (.getfield 10, 3) := by decide +kernel
theorem dX8_items_4 : decode cX8_items 4 = .ok (.getfield 30, 3) := by decide +kernel
theorem dX8_items_7 : decode cX8_items 7 = .ok (.getfield 34, 3) := by decide +kernel
theorem dX8_items_10 : decode cX8_items 10 = .ok (.ireturn, 1) := by decide +kernel
theorem dX8_sites_0 : decode cX8_sites 0 = .ok (.aload_n 0, 1) := by decide +kernel
theorem dX8_sites_1 : decode cX8_sites 1 = .ok (.getfield 10, 3) := by decide +kernel
theorem dX8_sites_4 : decode cX8_sites 4 = .ok (.getfield 48, 3) := by decide +kernel
theorem dX8_sites_7 : decode cX8_sites 7 = .ok (.getfield 52, 3) := by decide +kernel
theorem dX8_sites_10 : decode cX8_sites 10 = .ok (.ireturn, 1) := by decide +kernel
theorem dX8_lots_0 : decode cX8_lots 0 = .ok (.aload_n 0, 1) := by decide +kernel
theorem dX8_lots_1 : decode cX8_lots 1 = .ok (.getfield 10, 3) := by decide +kernel
theorem dX8_lots_4 : decode cX8_lots 4 = .ok (.getfield 109, 3) := by decide +kernel
theorem dX8_lots_7 : decode cX8_lots 7 = .ok (.getfield 113, 3) := by decide +kernel
theorem dX8_lots_10 : decode cX8_lots 10 = .ok (.ireturn, 1) := by decide +kernel
theorem dX8_orders_0 : decode cX8_orders 0 = .ok (.aload_n 0, 1) := by decide +kernel
theorem dX8_orders_1 : decode cX8_orders 1 = .ok (.getfield 10, 3) := by decide +kernel
theorem dX8_orders_4 : decode cX8_orders 4 = .ok (.getfield 131, 3) := by decide +kernel
theorem dX8_orders_7 : decode cX8_orders 7 = .ok (.getfield 135, 3) := by decide +kernel
theorem dX8_orders_10 : decode cX8_orders 10 = .ok (.ireturn, 1) := by decide +kernel
theorem dX8_transports_0 : decode cX8_transports 0 = .ok (.aload_n 0, 1) := by decide +kernel
theorem dX8_transports_1 : decode cX8_transports 1 = .ok (.getfield 10, 3) := by decide +kernel
theorem dX8_transports_4 : decode cX8_transports 4 = .ok (.getfield 183, 3) := by decide +kernel
theorem dX8_transports_7 : decode cX8_transports 7 = .ok (.getfield 187, 3) := by decide +kernel
theorem dX8_transports_10 : decode cX8_transports 10 = .ok (.ireturn, 1) := by decide +kernel
theorem dX8_punctuality_0 : decode cX8_punctuality 0 = .ok (.aload_n 0, 1) := by decide +kernel
theorem dX8_punctuality_1 : decode cX8_punctuality 1 = .ok (.getfield 10, 3) := by decide +kernel
theorem dX8_punctuality_4 : decode cX8_punctuality 4 = .ok (.getfield 131, 3) := by decide +kernel
theorem dX8_punctuality_7 : decode cX8_punctuality 7 = .ok (.invokevirtual 240, 3) := by decide +kernel
theorem dX8_punctuality_10 : decode cX8_punctuality 10 = .ok (.dreturn, 1) := by decide +kernel
theorem dX8_digest_0 : decode cX8_digest 0 = .ok (.aload_n 0, 1) := by decide +kernel
theorem dX8_digest_1 : decode cX8_digest 1 = .ok (.ldc2_w 257, 3) := by decide +kernel
theorem dX8_digest_4 : decode cX8_digest 4 = .ok (.invokevirtual 259, 3) := by decide +kernel
theorem dX8_digest_7 : decode cX8_digest 7 = .ok (.lstore_n 1, 1) := by decide +kernel
theorem dX8_digest_8 : decode cX8_digest 8 = .ok (.aload_n 0, 1) := by decide +kernel
theorem dX8_digest_9 : decode cX8_digest 9 = .ok (.lload_n 1, 1) := by decide +kernel
theorem dX8_digest_10 : decode cX8_digest 10 = .ok (.invokevirtual 263, 3) := by decide +kernel
theorem dX8_digest_13 : decode cX8_digest 13 = .ok (.lstore_n 1, 1) := by decide +kernel
theorem dX8_digest_14 : decode cX8_digest 14 = .ok (.aload_n 0, 1) := by decide +kernel
theorem dX8_digest_15 : decode cX8_digest 15 = .ok (.lload_n 1, 1) := by decide +kernel
theorem dX8_digest_16 : decode cX8_digest 16 = .ok (.invokevirtual 266, 3) := by decide +kernel
theorem dX8_digest_19 : decode cX8_digest 19 = .ok (.lstore_n 1, 1) := by decide +kernel
theorem dX8_digest_20 : decode cX8_digest 20 = .ok (.aload_n 0, 1) := by decide +kernel
theorem dX8_digest_21 : decode cX8_digest 21 = .ok (.lload_n 1, 1) := by decide +kernel
theorem dX8_digest_22 : decode cX8_digest 22 = .ok (.invokevirtual 269, 3) := by decide +kernel
theorem dX8_digest_25 : decode cX8_digest 25 = .ok (.lstore_n 1, 1) := by decide +kernel
theorem dX8_digest_26 : decode cX8_digest 26 = .ok (.aload_n 0, 1) := by decide +kernel
theorem dX8_digest_27 : decode cX8_digest 27 = .ok (.lload_n 1, 1) := by decide +kernel
theorem dX8_digest_28 : decode cX8_digest 28 = .ok (.invokevirtual 272, 3) := by decide +kernel
theorem dX8_digest_31 : decode cX8_digest 31 = .ok (.lstore_n 1, 1) := by decide +kernel
theorem dX8_digest_32 : decode cX8_digest 32 = .ok (.aload_n 0, 1) := by decide +kernel
theorem dX8_digest_33 : decode cX8_digest 33 = .ok (.lload_n 1, 1) := by decide +kernel
theorem dX8_digest_34 : decode cX8_digest 34 = .ok (.invokevirtual 275, 3) := by decide +kernel
theorem dX8_digest_37 : decode cX8_digest 37 = .ok (.lstore_n 1, 1) := by decide +kernel
theorem dX8_digest_38 : decode cX8_digest 38 = .ok (.aload_n 0, 1) := by decide +kernel
theorem dX8_digest_39 : decode cX8_digest 39 = .ok (.lload_n 1, 1) := by decide +kernel
theorem dX8_digest_40 : decode cX8_digest 40 = .ok (.invokevirtual 278, 3) := by decide +kernel
theorem dX8_digest_43 : decode cX8_digest 43 = .ok (.lstore_n 1, 1) := by decide +kernel
theorem dX8_digest_44 : decode cX8_digest 44 = .ok (.iconst 0, 1) := by decide +kernel
theorem dX8_digest_45 : decode cX8_digest 45 = .ok (.istore_n 3, 1) := by decide +kernel
theorem dX8_digest_46 : decode cX8_digest 46 = .ok (.iload_n 3, 1) := by decide +kernel
theorem dX8_digest_47 : decode cX8_digest 47 = .ok (.aload_n 0, 1) := by decide +kernel
theorem dX8_digest_48 : decode cX8_digest 48 = .ok (.getfield 10, 3) := by decide +kernel
theorem dX8_digest_51 : decode cX8_digest 51 = .ok (.getfield 48, 3) := by decide +kernel
theorem dX8_digest_54 : decode cX8_digest 54 = .ok (.getfield 52, 3) := by decide +kernel
theorem dX8_digest_57 : decode cX8_digest 57 = .ok (.if_icmp .ge 23, 3) := by decide +kernel
theorem dX8_digest_80 : decode cX8_digest 80 = .ok (.lload_n 1, 1) := by decide +kernel
theorem dX8_digest_81 : decode cX8_digest 81 = .ok (.lreturn, 1) := by decide +kernel
theorem dX8_mixCounts_0 : decode cX8_mixCounts 0 = .ok (.lload_n 1, 1) := by decide +kernel
theorem dX8_mixCounts_1 : decode cX8_mixCounts 1 = .ok (.aload_n 0, 1) := by decide +kernel
theorem dX8_mixCounts_2 : decode cX8_mixCounts 2 = .ok (.getfield 10, 3) := by decide +kernel
theorem dX8_mixCounts_5 : decode cX8_mixCounts 5 = .ok (.getfield 125, 3) := by decide +kernel
theorem dX8_mixCounts_8 : decode cX8_mixCounts 8 = .ok (.i2l, 1) := by decide +kernel
theorem dX8_mixCounts_9 : decode cX8_mixCounts 9 = .ok (.invokestatic 281, 3) := by decide +kernel
theorem dX8_mixCounts_12 : decode cX8_mixCounts 12 = .ok (.lstore_n 3, 1) := by decide +kernel
theorem dX8_mixCounts_13 : decode cX8_mixCounts 13 = .ok (.lload_n 3, 1) := by decide +kernel
theorem dX8_mixCounts_14 : decode cX8_mixCounts 14 = .ok (.aload_n 0, 1) := by decide +kernel
theorem dX8_mixCounts_15 : decode cX8_mixCounts 15 = .ok (.getfield 10, 3) := by decide +kernel
theorem dX8_mixCounts_18 : decode cX8_mixCounts 18 = .ok (.getfield 30, 3) := by decide +kernel
theorem dX8_mixCounts_21 : decode cX8_mixCounts 21 = .ok (.getfield 34, 3) := by decide +kernel
theorem dX8_mixCounts_24 : decode cX8_mixCounts 24 = .ok (.i2l, 1) := by decide +kernel
theorem dX8_mixCounts_25 : decode cX8_mixCounts 25 = .ok (.invokestatic 281, 3) := by decide +kernel
theorem dX8_mixCounts_28 : decode cX8_mixCounts 28 = .ok (.lstore_n 3, 1) := by decide +kernel
theorem dX8_mixCounts_29 : decode cX8_mixCounts 29 = .ok (.lload_n 3, 1) := by decide +kernel
theorem dX8_mixCounts_30 : decode cX8_mixCounts 30 = .ok (.aload_n 0, 1) := by decide +kernel
theorem dX8_mixCounts_31 : decode cX8_mixCounts 31 = .ok (.getfield 10, 3) := by decide +kernel
theorem dX8_mixCounts_34 : decode cX8_mixCounts 34 = .ok (.getfield 48, 3) := by decide +kernel
theorem dX8_mixCounts_37 : decode cX8_mixCounts 37 = .ok (.getfield 52, 3) := by decide +kernel
theorem dX8_mixCounts_40 : decode cX8_mixCounts 40 = .ok (.i2l, 1) := by decide +kernel
theorem dX8_mixCounts_41 : decode cX8_mixCounts 41 = .ok (.invokestatic 281, 3) := by decide +kernel
theorem dX8_mixCounts_44 : decode cX8_mixCounts 44 = .ok (.lstore_n 3, 1) := by decide +kernel
theorem dX8_mixCounts_45 : decode cX8_mixCounts 45 = .ok (.lload_n 3, 1) := by decide +kernel
theorem dX8_mixCounts_46 : decode cX8_mixCounts 46 = .ok (.aload_n 0, 1) := by decide +kernel
theorem dX8_mixCounts_47 : decode cX8_mixCounts 47 = .ok (.getfield 10, 3) := by decide +kernel
theorem dX8_mixCounts_50 : decode cX8_mixCounts 50 = .ok (.getfield 109, 3) := by decide +kernel
theorem dX8_mixCounts_53 : decode cX8_mixCounts 53 = .ok (.getfield 113, 3) := by decide +kernel
theorem dX8_mixCounts_56 : decode cX8_mixCounts 56 = .ok (.i2l, 1) := by decide +kernel
theorem dX8_mixCounts_57 : decode cX8_mixCounts 57 = .ok (.invokestatic 281, 3) := by decide +kernel
theorem dX8_mixCounts_60 : decode cX8_mixCounts 60 = .ok (.lstore_n 3, 1) := by decide +kernel
theorem dX8_mixCounts_61 : decode cX8_mixCounts 61 = .ok (.lload_n 3, 1) := by decide +kernel
theorem dX8_mixCounts_62 : decode cX8_mixCounts 62 = .ok (.aload_n 0, 1) := by decide +kernel
theorem dX8_mixCounts_63 : decode cX8_mixCounts 63 = .ok (.getfield 10, 3) := by decide +kernel
theorem dX8_mixCounts_66 : decode cX8_mixCounts 66 = .ok (.getfield 131, 3) := by decide +kernel
theorem dX8_mixCounts_69 : decode cX8_mixCounts 69 = .ok (.getfield 135, 3) := by decide +kernel
theorem dX8_mixCounts_72 : decode cX8_mixCounts 72 = .ok (.i2l, 1) := by decide +kernel
theorem dX8_mixCounts_73 : decode cX8_mixCounts 73 = .ok (.invokestatic 281, 3) := by decide +kernel
theorem dX8_mixCounts_76 : decode cX8_mixCounts 76 = .ok (.lstore_n 3, 1) := by decide +kernel
theorem dX8_mixCounts_77 : decode cX8_mixCounts 77 = .ok (.lload_n 3, 1) := by decide +kernel
theorem dX8_mixCounts_78 : decode cX8_mixCounts 78 = .ok (.aload_n 0, 1) := by decide +kernel
theorem dX8_mixCounts_79 : decode cX8_mixCounts 79 = .ok (.getfield 10, 3) := by decide +kernel
theorem dX8_mixCounts_82 : decode cX8_mixCounts 82 = .ok (.getfield 183, 3) := by decide +kernel
theorem dX8_mixCounts_85 : decode cX8_mixCounts 85 = .ok (.getfield 187, 3) := by decide +kernel
theorem dX8_mixCounts_88 : decode cX8_mixCounts 88 = .ok (.i2l, 1) := by decide +kernel
theorem dX8_mixCounts_89 : decode cX8_mixCounts 89 = .ok (.invokestatic 281, 3) := by decide +kernel
theorem dX8_mixCounts_92 : decode cX8_mixCounts 92 = .ok (.lstore_n 3, 1) := by decide +kernel
theorem dX8_mixCounts_93 : decode cX8_mixCounts 93 = .ok (.iconst 0, 1) := by decide +kernel
theorem dX8_mixCounts_94 : decode cX8_mixCounts 94 = .ok (.istore 5, 2) := by decide +kernel
theorem dX8_mixCounts_96 : decode cX8_mixCounts 96 = .ok (.iload 5, 2) := by decide +kernel
theorem dX8_mixCounts_98 : decode cX8_mixCounts 98 = .ok (.iconst 5, 1) := by decide +kernel
theorem dX8_mixCounts_99 : decode cX8_mixCounts 99 = .ok (.if_icmp .ge 25, 3) := by decide +kernel
theorem dX8_mixCounts_102 : decode cX8_mixCounts 102 = .ok (.lload_n 3, 1) := by decide +kernel
theorem dX8_mixCounts_103 : decode cX8_mixCounts 103 = .ok (.aload_n 0, 1) := by decide +kernel
theorem dX8_mixCounts_104 : decode cX8_mixCounts 104 = .ok (.getfield 10, 3) := by decide +kernel
theorem dX8_mixCounts_107 : decode cX8_mixCounts 107 = .ok (.getfield 119, 3) := by decide +kernel
theorem dX8_mixCounts_110 : decode cX8_mixCounts 110 = .ok (.iload 5, 2) := by decide +kernel
theorem dX8_mixCounts_112 : decode cX8_mixCounts 112 = .ok (.iaload, 1) := by decide +kernel
theorem dX8_mixCounts_113 : decode cX8_mixCounts 113 = .ok (.i2l, 1) := by decide +kernel
theorem dX8_mixCounts_114 : decode cX8_mixCounts 114 = .ok (.invokestatic 281, 3) := by decide +kernel
theorem dX8_mixCounts_117 : decode cX8_mixCounts 117 = .ok (.lstore_n 3, 1) := by decide +kernel
theorem dX8_mixCounts_118 : decode cX8_mixCounts 118 = .ok (.iinc 5 1, 3) := by decide +kernel
theorem dX8_mixCounts_121 : decode cX8_mixCounts 121 = .ok (.goto (-25), 3) := by decide +kernel
theorem dX8_mixCounts_124 : decode cX8_mixCounts 124 = .ok (.lload_n 3, 1) := by decide +kernel
theorem dX8_mixCounts_125 : decode cX8_mixCounts 125 = .ok (.lreturn, 1) := by decide +kernel
theorem dX8_mixLots_0 : decode cX8_mixLots 0 = .ok (.lload_n 1, 1) := by decide +kernel
theorem dX8_mixLots_1 : decode cX8_mixLots 1 = .ok (.lstore_n 3, 1) := by decide +kernel
theorem dX8_mixLots_2 : decode cX8_mixLots 2 = .ok (.iconst 0, 1) := by decide +kernel
theorem dX8_mixLots_3 : decode cX8_mixLots 3 = .ok (.istore 5, 2) := by decide +kernel
theorem dX8_mixLots_5 : decode cX8_mixLots 5 = .ok (.iload 5, 2) := by decide +kernel
theorem dX8_mixLots_7 : decode cX8_mixLots 7 = .ok (.aload_n 0, 1) := by decide +kernel
theorem dX8_mixLots_8 : decode cX8_mixLots 8 = .ok (.getfield 10, 3) := by decide +kernel
theorem dX8_mixLots_11 : decode cX8_mixLots 11 = .ok (.getfield 109, 3) := by decide +kernel
theorem dX8_mixLots_14 : decode cX8_mixLots 14 = .ok (.getfield 113, 3) := by decide +kernel
theorem dX8_mixLots_17 : decode cX8_mixLots 17 = .ok (.if_icmp .ge 44, 3) := by decide +kernel
theorem dX8_mixLots_61 : decode cX8_mixLots 61 = .ok (.lload_n 3, 1) := by decide +kernel
theorem dX8_mixLots_62 : decode cX8_mixLots 62 = .ok (.lreturn, 1) := by decide +kernel
theorem dX8_mixOrders_0 : decode cX8_mixOrders 0 = .ok (.lload_n 1, 1) := by decide +kernel
theorem dX8_mixOrders_1 : decode cX8_mixOrders 1 = .ok (.lstore_n 3, 1) := by decide +kernel
theorem dX8_mixOrders_2 : decode cX8_mixOrders 2 = .ok (.iconst 0, 1) := by decide +kernel
theorem dX8_mixOrders_3 : decode cX8_mixOrders 3 = .ok (.istore 5, 2) := by decide +kernel
theorem dX8_mixOrders_5 : decode cX8_mixOrders 5 = .ok (.iload 5, 2) := by decide +kernel
theorem dX8_mixOrders_7 : decode cX8_mixOrders 7 = .ok (.aload_n 0, 1) := by decide +kernel
theorem dX8_mixOrders_8 : decode cX8_mixOrders 8 = .ok (.getfield 10, 3) := by decide +kernel
theorem dX8_mixOrders_11 : decode cX8_mixOrders 11 = .ok (.getfield 131, 3) := by decide +kernel
theorem dX8_mixOrders_14 : decode cX8_mixOrders 14 = .ok (.getfield 135, 3) := by decide +kernel
theorem dX8_mixOrders_17 : decode cX8_mixOrders 17 = .ok (.if_icmp .ge 103, 3) := by decide +kernel
theorem dX8_mixOrders_120 : decode cX8_mixOrders 120 = .ok (.lload_n 3, 1) := by decide +kernel
theorem dX8_mixOrders_121 : decode cX8_mixOrders 121 = .ok (.lreturn, 1) := by decide +kernel
theorem dX8_mixTransports_0 : decode cX8_mixTransports 0 = .ok (.lload_n 1, 1) := by decide +kernel
theorem dX8_mixTransports_1 : decode cX8_mixTransports 1 = .ok (.lstore_n 3, 1) := by decide +kernel
theorem dX8_mixTransports_2 : decode cX8_mixTransports 2 = .ok (.iconst 0, 1) := by decide +kernel
theorem dX8_mixTransports_3 : decode cX8_mixTransports 3 = .ok (.istore 5, 2) := by decide +kernel
theorem dX8_mixTransports_5 : decode cX8_mixTransports 5 = .ok (.iload 5, 2) := by decide +kernel
theorem dX8_mixTransports_7 : decode cX8_mixTransports 7 = .ok (.aload_n 0, 1) := by decide +kernel
theorem dX8_mixTransports_8 : decode cX8_mixTransports 8 = .ok (.getfield 10, 3) := by decide +kernel
theorem dX8_mixTransports_11 : decode cX8_mixTransports 11 = .ok (.getfield 183, 3) := by decide +kernel
theorem dX8_mixTransports_14 : decode cX8_mixTransports 14 = .ok (.getfield 187, 3) := by decide +kernel
theorem dX8_mixTransports_17 : decode cX8_mixTransports 17 = .ok (.if_icmp .ge 44, 3) := by decide +kernel
theorem dX8_mixTransports_61 : decode cX8_mixTransports 61 = .ok (.lload_n 3, 1) := by decide +kernel
theorem dX8_mixTransports_62 : decode cX8_mixTransports 62 = .ok (.lreturn, 1) := by decide +kernel
theorem dX8_mixRoutes_0 : decode cX8_mixRoutes 0 = .ok (.lload_n 1, 1) := by decide +kernel
theorem dX8_mixRoutes_1 : decode cX8_mixRoutes 1 = .ok (.lstore_n 3, 1) := by decide +kernel
theorem dX8_mixRoutes_2 : decode cX8_mixRoutes 2 = .ok (.iconst 0, 1) := by decide +kernel
theorem dX8_mixRoutes_3 : decode cX8_mixRoutes 3 = .ok (.istore 5, 2) := by decide +kernel
theorem dX8_mixRoutes_5 : decode cX8_mixRoutes 5 = .ok (.iload 5, 2) := by decide +kernel
theorem dX8_mixRoutes_7 : decode cX8_mixRoutes 7 = .ok (.aload_n 0, 1) := by decide +kernel
theorem dX8_mixRoutes_8 : decode cX8_mixRoutes 8 = .ok (.getfield 10, 3) := by decide +kernel
theorem dX8_mixRoutes_11 : decode cX8_mixRoutes 11 = .ok (.getfield 48, 3) := by decide +kernel
theorem dX8_mixRoutes_14 : decode cX8_mixRoutes 14 = .ok (.getfield 52, 3) := by decide +kernel
theorem dX8_mixRoutes_17 : decode cX8_mixRoutes 17 = .ok (.if_icmp .ge 53, 3) := by decide +kernel
theorem dX8_mixRoutes_70 : decode cX8_mixRoutes 70 = .ok (.lload_n 3, 1) := by decide +kernel
theorem dX8_mixRoutes_71 : decode cX8_mixRoutes 71 = .ok (.lreturn, 1) := by decide +kernel
theorem dX8_mixStocks_0 : decode cX8_mixStocks 0 = .ok (.lload_n 1, 1) := by decide +kernel
theorem dX8_mixStocks_1 : decode cX8_mixStocks 1 = .ok (.lstore_n 3, 1) := by decide +kernel
theorem dX8_mixStocks_2 : decode cX8_mixStocks 2 = .ok (.iconst 0, 1) := by decide +kernel
theorem dX8_mixStocks_3 : decode cX8_mixStocks 3 = .ok (.istore 5, 2) := by decide +kernel
theorem dX8_mixStocks_5 : decode cX8_mixStocks 5 = .ok (.iload 5, 2) := by decide +kernel
theorem dX8_mixStocks_7 : decode cX8_mixStocks 7 = .ok (.aload_n 0, 1) := by decide +kernel
theorem dX8_mixStocks_8 : decode cX8_mixStocks 8 = .ok (.getfield 10, 3) := by decide +kernel
theorem dX8_mixStocks_11 : decode cX8_mixStocks 11 = .ok (.getfield 30, 3) := by decide +kernel
theorem dX8_mixStocks_14 : decode cX8_mixStocks 14 = .ok (.getfield 34, 3) := by decide +kernel
theorem dX8_mixStocks_17 : decode cX8_mixStocks 17 = .ok (.if_icmp .ge 190, 3) := by decide +kernel
theorem dX8_mixStocks_207 : decode cX8_mixStocks 207 = .ok (.lload_n 3, 1) := by decide +kernel
theorem dX8_mixStocks_208 : decode cX8_mixStocks 208 = .ok (.lreturn, 1) := by decide +kernel
theorem dX8_mixPlans_0 : decode cX8_mixPlans 0 = .ok (.lload_n 1, 1) := by decide +kernel
theorem dX8_mixPlans_1 : decode cX8_mixPlans 1 = .ok (.lstore_n 3, 1) := by decide +kernel
theorem dX8_mixPlans_2 : decode cX8_mixPlans 2 = .ok (.iconst 0, 1) := by decide +kernel
theorem dX8_mixPlans_3 : decode cX8_mixPlans 3 = .ok (.istore 5, 2) := by decide +kernel
theorem dX8_mixPlans_5 : decode cX8_mixPlans 5 = .ok (.iload 5, 2) := by decide +kernel
theorem dX8_mixPlans_7 : decode cX8_mixPlans 7 = .ok (.aload_n 0, 1) := by decide +kernel
theorem dX8_mixPlans_8 : decode cX8_mixPlans 8 = .ok (.getfield 10, 3) := by decide +kernel
theorem dX8_mixPlans_11 : decode cX8_mixPlans 11 = .ok (.getfield 30, 3) := by decide +kernel
theorem dX8_mixPlans_14 : decode cX8_mixPlans 14 = .ok (.getfield 34, 3) := by decide +kernel
theorem dX8_mixPlans_17 : decode cX8_mixPlans 17 = .ok (.if_icmp .ge 116, 3) := by decide +kernel
theorem dX8_mixPlans_133 : decode cX8_mixPlans 133 = .ok (.lload_n 3, 1) := by decide +kernel
theorem dX8_mixPlans_134 : decode cX8_mixPlans 134 = .ok (.lreturn, 1) := by decide +kernel
theorem dX8_mix_0 : decode cX8_mix 0 = .ok (.lload_n 0, 1) := by decide +kernel
theorem dX8_mix_1 : decode cX8_mix 1 = .ok (.ldc2_w 285, 3) := by decide +kernel
theorem dX8_mix_4 : decode cX8_mix 4 = .ok (.lmul, 1) := by decide +kernel
theorem dX8_mix_5 : decode cX8_mix 5 = .ok (.lload_n 2, 1) := by decide +kernel
theorem dX8_mix_6 : decode cX8_mix 6 = .ok (.ladd, 1) := by decide +kernel
theorem dX8_mix_7 : decode cX8_mix 7 = .ok (.lreturn, 1) := by decide +kernel
