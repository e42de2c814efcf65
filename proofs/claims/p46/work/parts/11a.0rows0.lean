theorem dX8_day_0 : decode cX8_day 0 = .ok (.aload_n 0, 1) := by decide +kernel
theorem dX8_day_1 : decode cX8_day 1 = .ok (.getfield 10, 3) := by decide +kernel
theorem dX8_day_4 : decode cX8_day 4 = .ok (.getfield 125, 3) := by decide +kernel
theorem dX8_day_7 : decode cX8_day 7 = .ok (.ireturn, 1) := by decide +kernel
theorem dX8_items_0 : decode cX8_items 0 = .ok (.aload_n 0, 1) := by decide +kernel
theorem dX8_items_1 : decode cX8_items 1 = .ok (.getfield 10, 3) := by decide +kernel
theorem dX8_items_4 : decode cX8_items 4 = .ok (.getfield 30, 3) := by decide +kernel
theorem dX8_items_7 : decode cX8_items 7 = .ok (.getfield 34, 3) := by decide +kernel
theorem dX8_items_10 : decode cX8_items 10 = .ok (.ireturn, 1) := by decide +kernel
theorem dX8_sites_0 : decode cX8_sites 0 = .ok (.aload_n 0, 1) := by decide +kernel
theorem dX8_sites_1 : decode cX8_sites 1 = .ok (.getfield 10, 3) := by decide +kernel
theorem dX8_sites_4 : decode cX8_sites 4 = .ok (.getfield 48, 3) := by decide +kernel
theorem dX8_sites_7 : decode cX8_sites 7 = .ok (.getfield 52, 3) := by decide +kernel
theorem dX8_sites_10 : decode cX8_sites 10 = .ok (.ireturn, 1) := by decide +kernel
theorem dX8_lots_0 : decode cX8_lots 0 = .ok (.aload_n 0, 1) := by decide +kernel
theorem dX8_lots_1 : decode cX8_lots 1 = .ok (.getfield 10, 3) := by decide +kernel
theorem dX8_lots_4 : decode cX8_lots 4 = .ok (.getfield 109, 3) := by decide +kernel
theorem dX8_lots_7 : decode cX8_lots 7 = .ok (.getfield 113, 3) := by decide +kernel
theorem dX8_lots_10 : decode cX8_lots 10 = .ok (.ireturn, 1) := by decide +kernel
theorem dX8_orders_0 : decode cX8_orders 0 = .ok (.aload_n 0, 1) := by decide +kernel
theorem dX8_orders_1 : decode cX8_orders 1 = .ok (.getfield 10, 3) := by decide +kernel
theorem dX8_orders_4 : decode cX8_orders 4 = .ok (.getfield 131, 3) := by decide +kernel
theorem dX8_orders_7 : decode cX8_orders 7 = .ok (.getfield 135, 3) := by decide +kernel
theorem dX8_orders_10 : decode cX8_orders 10 = .ok (.ireturn, 1) := by decide +kernel
theorem dX8_ofLot_0 : decode cX8_ofLot 0 = .ok (.aload_n 0, 1) := by decide +kernel
theorem dX8_ofLot_1 : decode cX8_ofLot 1 = .ok (.iload_n 1, 1) := by decide +kernel
theorem dX8_ofLot_2 : decode cX8_ofLot 2 = .ok (.invokevirtual 190, 3) := by decide +kernel
theorem dX8_ofLot_5 : decode cX8_ofLot 5 = .ok (.iload_n 2, 1) := by decide +kernel
theorem dX8_ofLot_6 : decode cX8_ofLot 6 = .ok (.iconst 0, 1) := by decide +kernel
theorem dX8_ofLot_7 : decode cX8_ofLot 7 = .ok (.iconst 4, 1) := by decide +kernel
theorem dX8_ofLot_8 : decode cX8_ofLot 8 = .ok (.invokestatic 26, 3) := by decide +kernel
theorem dX8_ofLot_11 : decode cX8_ofLot 11 = .ok (.aload_n 0, 1) := by decide +kernel
theorem dX8_ofLot_12 : decode cX8_ofLot 12 = .ok (.getfield 10, 3) := by decide +kernel
theorem dX8_ofLot_15 : decode cX8_ofLot 15 = .ok (.getfield 109, 3) := by decide +kernel
theorem dX8_ofLot_18 : decode cX8_ofLot 18 = .ok (.iload_n 1, 1) := by decide +kernel
theorem dX8_ofLot_19 : decode cX8_ofLot 19 = .ok (.iload_n 2, 1) := by decide +kernel
theorem dX8_ofLot_20 : decode cX8_ofLot 20 = .ok (.invokevirtual 193, 3) := by decide +kernel
theorem dX8_ofLot_23 : decode cX8_ofLot 23 = .ok (.ireturn, 1) := by decide +kernel
theorem dX8_ofOrder_0 : decode cX8_ofOrder 0 = .ok (.aload_n 0, 1) := by decide +kernel
theorem dX8_ofOrder_1 : decode cX8_ofOrder 1 = .ok (.iload_n 1, 1) := by decide +kernel
theorem dX8_ofOrder_2 : decode cX8_ofOrder 2 = .ok (.invokevirtual 144, 3) := by decide +kernel
theorem dX8_ofOrder_5 : decode cX8_ofOrder 5 = .ok (.iload_n 2, 1) := by decide +kernel
theorem dX8_ofOrder_6 : decode cX8_ofOrder 6 = .ok (.iconst 0, 1) := by decide +kernel
theorem dX8_ofOrder_7 : decode cX8_ofOrder 7 = .ok (.iconst 4, 1) := by decide +kernel
theorem dX8_ofOrder_8 : decode cX8_ofOrder 8 = .ok (.invokestatic 26, 3) := by decide +kernel
theorem dX8_ofOrder_11 : decode cX8_ofOrder 11 = .ok (.aload_n 0, 1) := by decide +kernel
theorem dX8_ofOrder_12 : decode cX8_ofOrder 12 = .ok (.getfield 10, 3) := by decide +kernel
theorem dX8_ofOrder_15 : decode cX8_ofOrder 15 = .ok (.getfield 131, 3) := by decide +kernel
theorem dX8_ofOrder_18 : decode cX8_ofOrder 18 = .ok (.iload_n 1, 1) := by decide +kernel
theorem dX8_ofOrder_19 : decode cX8_ofOrder 19 = .ok (.iload_n 2, 1) := by decide +kernel
theorem dX8_ofOrder_20 : decode cX8_ofOrder 20 = .ok (.invokevirtual 196, 3) := by decide +kernel
theorem dX8_ofOrder_23 : decode cX8_ofOrder 23 = .ok (.ireturn, 1) := by decide +kernel
theorem dX8_route_0 : decode cX8_route 0 = .ok (.aload_n 0, 1) := by decide +kernel
theorem dX8_route_1 : decode cX8_route 1 = .ok (.iload_n 1, 1) := by decide +kernel
theorem dX8_route_2 : decode cX8_route 2 = .ok (.invokevirtual 58, 3) := by decide +kernel
theorem dX8_route_5 : decode cX8_route 5 = .ok (.aload_n 0, 1) := by decide +kernel
theorem dX8_route_6 : decode cX8_route 6 = .ok (.iload_n 2, 1) := by decide +kernel
theorem dX8_route_7 : decode cX8_route 7 = .ok (.invokevirtual 58, 3) := by decide +kernel
theorem dX8_route_10 : decode cX8_route 10 = .ok (.aload_n 0, 1) := by decide +kernel
theorem dX8_route_11 : decode cX8_route 11 = .ok (.getfield 10, 3) := by decide +kernel
theorem dX8_route_14 : decode cX8_route 14 = .ok (.getfield 48, 3) := by decide +kernel
theorem dX8_route_17 : decode cX8_route 17 = .ok (.iload_n 1, 1) := by decide +kernel
theorem dX8_route_18 : decode cX8_route 18 = .ok (.iload_n 2, 1) := by decide +kernel
theorem dX8_route_19 : decode cX8_route 19 = .ok (.invokevirtual 65, 3) := by decide +kernel
theorem dX8_route_22 : decode cX8_route 22 = .ok (.ireturn, 1) := by decide +kernel
theorem dX8_onHand_0 : decode cX8_onHand 0 = .ok (.aload_n 0, 1) := by decide +kernel
theorem dX8_onHand_1 : decode cX8_onHand 1 = .ok (.iload_n 1, 1) := by decide +kernel
theorem dX8_onHand_2 : decode cX8_onHand 2 = .ok (.invokevirtual 86, 3) := by decide +kernel
theorem dX8_onHand_5 : decode cX8_onHand 5 = .ok (.aload_n 0, 1) := by decide +kernel
theorem dX8_onHand_6 : decode cX8_onHand 6 = .ok (.iload_n 2, 1) := by decide +kernel
theorem dX8_onHand_7 : decode cX8_onHand 7 = .ok (.invokevirtual 58, 3) := by decide +kernel
theorem dX8_onHand_10 : decode cX8_onHand 10 = .ok (.aload_n 0, 1) := by decide +kernel
theorem dX8_onHand_11 : decode cX8_onHand 11 = .ok (.getfield 10, 3) := by decide +kernel
theorem dX8_onHand_14 : decode cX8_onHand 14 = .ok (.getfield 109, 3) := by decide +kernel
theorem dX8_onHand_17 : decode cX8_onHand 17 = .ok (.iload_n 1, 1) := by decide +kernel
theorem dX8_onHand_18 : decode cX8_onHand 18 = .ok (.iload_n 2, 1) := by decide +kernel
theorem dX8_onHand_19 : decode cX8_onHand 19 = .ok (.invokevirtual 208, 3) := by decide +kernel
theorem dX8_onHand_22 : decode cX8_onHand 22 = .ok (.ireturn, 1) := by decide +kernel
theorem dX8_free_0 : decode cX8_free 0 = .ok (.aload_n 0, 1) := by decide +kernel
theorem dX8_free_1 : decode cX8_free 1 = .ok (.iload_n 1, 1) := by decide +kernel
theorem dX8_free_2 : decode cX8_free 2 = .ok (.invokevirtual 86, 3) := by decide +kernel
theorem dX8_free_5 : decode cX8_free 5 = .ok (.aload_n 0, 1) := by decide +kernel
theorem dX8_free_6 : decode cX8_free 6 = .ok (.iload_n 2, 1) := by decide +kernel
theorem dX8_free_7 : decode cX8_free 7 = .ok (.invokevirtual 58, 3) := by decide +kernel
theorem dX8_free_10 : decode cX8_free 10 = .ok (.aload_n 0, 1) := by decide +kernel
theorem dX8_free_11 : decode cX8_free 11 = .ok (.getfield 10, 3) := by decide +kernel
theorem dX8_free_14 : decode cX8_free 14 = .ok (.getfield 109, 3) := by decide +kernel
theorem dX8_free_17 : decode cX8_free 17 = .ok (.iload_n 1, 1) := by decide +kernel
theorem dX8_free_18 : decode cX8_free 18 = .ok (.iload_n 2, 1) := by decide +kernel
theorem dX8_free_19 : decode cX8_free 19 = .ok (.invokevirtual 211, 3) := by decide +kernel
theorem dX8_free_22 : decode cX8_free 22 = .ok (.ireturn, 1) := by decide +kernel
theorem dX8_underWay_0 : decode cX8_underWay 0 = .ok (.aload_n 0, 1) := by decide +kernel
theorem dX8_underWay_1 : decode cX8_underWay 1 = .ok (.iload_n 1, 1) := by decide +kernel
theorem dX8_underWay_2 : decode cX8_underWay 2 = .ok (.invokevirtual 86, 3) := by decide +kernel
theorem dX8_underWay_5 : decode cX8_underWay 5 = .ok (.aload_n 0, 1) := by decide +kernel
theorem dX8_underWay_6 : decode cX8_underWay 6 = .ok (.iload_n 2, 1) := by decide +kernel
theorem dX8_underWay_7 : decode cX8_underWay 7 = .ok (.invokevirtual 58, 3) := by decide +kernel
theorem dX8_underWay_10 : decode cX8_underWay 10 = .ok (.aload_n 0, 1) := by decide +kernel
theorem dX8_underWay_11 : decode cX8_underWay 11 = .ok (.getfield 10, 3) := by decide +kernel
theorem dX8_underWay_14 : decode cX8_underWay 14 = .ok (.getfield 183, 3) := by decide +kernel
theorem dX8_underWay_17 : decode cX8_underWay 17 = .ok (.iload_n 1, 1) := by decide +kernel
theorem dX8_underWay_18 : decode cX8_underWay 18 = .ok (.iload_n 2, 1) := by decide +kernel
theorem dX8_underWay_19 : decode cX8_underWay 19 = .ok (.invokevirtual 214, 3) := by decide +kernel
theorem dX8_underWay_22 : decode cX8_underWay 22 = .ok (.ireturn, 1) := by decide +kernel
theorem dX8_roomLeft_0 : decode cX8_roomLeft 0 = .ok (.aload_n 0, 1) := by decide +kernel
theorem dX8_roomLeft_1 : decode cX8_roomLeft 1 = .ok (.iload_n 1, 1) := by decide +kernel
theorem dX8_roomLeft_2 : decode cX8_roomLeft 2 = .ok (.invokevirtual 58, 3) := by decide +kernel
theorem dX8_roomLeft_5 : decode cX8_roomLeft 5 = .ok (.aload_n 0, 1) := by decide +kernel
theorem dX8_roomLeft_6 : decode cX8_roomLeft 6 = .ok (.getfield 10, 3) := by decide +kernel
theorem dX8_roomLeft_9 : decode cX8_roomLeft 9 = .ok (.iload_n 1, 1) := by decide +kernel
theorem dX8_roomLeft_10 : decode cX8_roomLeft 10 = .ok (.invokevirtual 116, 3) := by decide +kernel
theorem dX8_roomLeft_13 : decode cX8_roomLeft 13 = .ok (.ireturn, 1) := by decide +kernel
theorem dX8_account_0 : decode cX8_account 0 = .ok (.iload_n 1, 1) := by decide +kernel
theorem dX8_account_1 : decode cX8_account 1 = .ok (.iconst 0, 1) := by decide +kernel
theorem dX8_account_2 : decode cX8_account 2 = .ok (.iconst 4, 1) := by decide +kernel
theorem dX8_account_3 : decode cX8_account 3 = .ok (.invokestatic 26, 3) := by decide +kernel
theorem dX8_account_6 : decode cX8_account 6 = .ok (.aload_n 0, 1) := by decide +kernel
theorem dX8_account_7 : decode cX8_account 7 = .ok (.getfield 10, 3) := by decide +kernel
theorem dX8_account_10 : decode cX8_account 10 = .ok (.getfield 119, 3) := by decide +kernel
theorem dX8_account_13 : decode cX8_account 13 = .ok (.iload_n 1, 1) := by decide +kernel
theorem dX8_account_14 : decode cX8_account 14 = .ok (.iaload, 1) := by decide +kernel
theorem dX8_account_15 : decode cX8_account 15 = .ok (.ireturn, 1) := by decide +kernel
theorem dX8_lacks_0 : decode cX8_lacks 0 = .ok (.aload_n 0, 1) := by decide +kernel
theorem dX8_lacks_1 : decode cX8_lacks 1 = .ok (.iload_n 1, 1) := by decide +kernel
theorem dX8_lacks_2 : decode cX8_lacks 2 = .ok (.invokevirtual 86, 3) := by decide +kernel
theorem dX8_lacks_5 : decode cX8_lacks 5 = .ok (.aload_n 0, 1) := by decide +kernel
theorem dX8_lacks_6 : decode cX8_lacks 6 = .ok (.iload_n 2, 1) := by decide +kernel
theorem dX8_lacks_7 : decode cX8_lacks 7 = .ok (.invokevirtual 58, 3) := by decide +kernel
theorem dX8_lacks_10 : decode cX8_lacks 10 = .ok (.aload_n 0, 1) := by decide +kernel
theorem dX8_lacks_11 : decode cX8_lacks 11 = .ok (.getfield 10, 3) := by decide +kernel
theorem dX8_lacks_14 : decode cX8_lacks 14 = .ok (.iload_n 1, 1) := by decide +kernel
theorem dX8_lacks_15 : decode cX8_lacks 15 = .ok (.iload_n 2, 1) := by decide +kernel
theorem dX8_lacks_16 : decode cX8_lacks 16 = .ok (.invokevirtual 244, 3) := by decide +kernel
theorem dX8_lacks_19 : decode cX8_lacks 19 = .ok (.ireturn, 1) := by decide +kernel
theorem dX8_spares_0 : decode cX8_spares 0 = .ok (.aload_n 0, 1) := by decide +kernel
theorem dX8_spares_1 : decode cX8_spares 1 = .ok (.iload_n 1, 1) := by decide +kernel
theorem dX8_spares_2 : decode cX8_spares 2 = .ok (.invokevirtual 86, 3) := by decide +kernel
theorem dX8_spares_5 : decode cX8_spares 5 = .ok (.aload_n 0, 1) := by decide +kernel
theorem dX8_spares_6 : decode cX8_spares 6 = .ok (.iload_n 2, 1) := by decide +kernel
theorem dX8_spares_7 : decode cX8_spares 7 = .ok (.invokevirtual 58, 3) := by decide +kernel
theorem dX8_spares_10 : decode cX8_spares 10 = .ok (.aload_n 0, 1) := by decide +kernel
theorem dX8_spares_11 : decode cX8_spares 11 = .ok (.getfield 10, 3) := by decide +kernel
theorem dX8_spares_14 : decode cX8_spares 14 = .ok (.iload_n 1, 1) := by decide +kernel
theorem dX8_spares_15 : decode cX8_spares 15 = .ok (.iload_n 2, 1) := by decide +kernel
theorem dX8_spares_16 : decode cX8_spares 16 = .ok (.invokevirtual 247, 3) := by decide +kernel
theorem dX8_spares_19 : decode cX8_spares 19 = .ok (.ireturn, 1) := by decide +kernel
