theorem dX10_setRoute_0 : decode cX10_setRoute 0 = .ok (.aload_n 0, 1) := by decide +kernel
theorem dX10_setRoute_1 : decode cX10_setRoute 1 = .ok (.iconst 0, 1) := by decide +kernel
theorem dX10_setRoute_2 : decode cX10_setRoute 2 = .ok (.putfield 22, 3) := by decide +kernel
theorem dX10_setRoute_5 : decode cX10_setRoute 5 = .ok (.aload_n 0, 1) := by decide +kernel
theorem dX10_setRoute_6 : decode cX10_setRoute 6 = .ok (.iload_n 1, 1) := by decide +kernel
theorem dX10_setRoute_7 : decode cX10_setRoute 7 = .ok (.invokevirtual 40, 3) := by decide +kernel
theorem dX10_setRoute_10 : decode cX10_setRoute 10 = .ok (.ifCond .eq 11, 3) := by decide +kernel
theorem dX10_setRoute_21 : decode cX10_setRoute 21 = .ok (.aload_n 0, 1) := by decide +kernel
theorem dX10_setRoute_22 : decode cX10_setRoute 22 = .ok (.iconst 1, 1) := by decide +kernel
theorem dX10_setRoute_23 : decode cX10_setRoute 23 = .ok (.invokevirtual 43, 3) := by decide +kernel
theorem dX10_setRoute_26 : decode cX10_setRoute 26 = .ok (.ireturn, 1) := by decide +kernel
theorem dX10_setPolicy_0 : decode cX10_setPolicy 0 = .ok (.aload_n 0, 1) := by decide +kernel
theorem dX10_setPolicy_1 : decode cX10_setPolicy 1 = .ok (.iconst 0, 1) := by decide +kernel
theorem dX10_setPolicy_2 : decode cX10_setPolicy 2 = .ok (.putfield 22, 3) := by decide +kernel
theorem dX10_setPolicy_5 : decode cX10_setPolicy 5 = .ok (.aload_n 0, 1) := by decide +kernel
theorem dX10_setPolicy_6 : decode cX10_setPolicy 6 = .ok (.iload_n 1, 1) := by decide +kernel
theorem dX10_setPolicy_7 : decode cX10_setPolicy 7 = .ok (.iload_n 2, 1) := by decide +kernel
theorem dX10_setPolicy_8 : decode cX10_setPolicy 8 = .ok (.invokevirtual 69, 3) := by decide +kernel
theorem dX10_setPolicy_11 : decode cX10_setPolicy 11 = .ok (.ifCond .ne 9, 3) := by decide +kernel
theorem dX10_setPolicy_14 : decode cX10_setPolicy 14 = .ok (.aload_n 0, 1) := by decide +kernel
theorem dX10_setPolicy_15 : decode cX10_setPolicy 15 = .ok (.iconst 1, 1) := by decide +kernel
theorem dX10_setPolicy_16 : decode cX10_setPolicy 16 = .ok (.invokevirtual 73, 3) := by decide +kernel
theorem dX10_setPolicy_19 : decode cX10_setPolicy 19 = .ok (.ireturn, 1) := by decide +kernel
theorem dX10_receive_0 : decode cX10_receive 0 = .ok (.aload_n 0, 1) := by decide +kernel
theorem dX10_receive_1 : decode cX10_receive 1 = .ok (.iconst 0, 1) := by decide +kernel
theorem dX10_receive_2 : decode cX10_receive 2 = .ok (.putfield 22, 3) := by decide +kernel
theorem dX10_receive_5 : decode cX10_receive 5 = .ok (.aload_n 0, 1) := by decide +kernel
theorem dX10_receive_6 : decode cX10_receive 6 = .ok (.iload_n 1, 1) := by decide +kernel
theorem dX10_receive_7 : decode cX10_receive 7 = .ok (.iload_n 2, 1) := by decide +kernel
theorem dX10_receive_8 : decode cX10_receive 8 = .ok (.invokevirtual 69, 3) := by decide +kernel
theorem dX10_receive_11 : decode cX10_receive 11 = .ok (.ifCond .ne 9, 3) := by decide +kernel
theorem dX10_receive_14 : decode cX10_receive 14 = .ok (.aload_n 0, 1) := by decide +kernel
theorem dX10_receive_15 : decode cX10_receive 15 = .ok (.iconst 1, 1) := by decide +kernel
theorem dX10_receive_16 : decode cX10_receive 16 = .ok (.invokevirtual 43, 3) := by decide +kernel
theorem dX10_receive_19 : decode cX10_receive 19 = .ok (.ireturn, 1) := by decide +kernel
theorem dX10_order_0 : decode cX10_order 0 = .ok (.aload_n 0, 1) := by decide +kernel
theorem dX10_order_1 : decode cX10_order 1 = .ok (.iconst 0, 1) := by decide +kernel
theorem dX10_order_2 : decode cX10_order 2 = .ok (.putfield 22, 3) := by decide +kernel
theorem dX10_order_5 : decode cX10_order 5 = .ok (.aload_n 0, 1) := by decide +kernel
theorem dX10_order_6 : decode cX10_order 6 = .ok (.iload_n 1, 1) := by decide +kernel
theorem dX10_order_7 : decode cX10_order 7 = .ok (.iload_n 2, 1) := by decide +kernel
theorem dX10_order_8 : decode cX10_order 8 = .ok (.invokevirtual 69, 3) := by decide +kernel
theorem dX10_order_11 : decode cX10_order 11 = .ok (.ifCond .ne 9, 3) := by decide +kernel
theorem dX10_order_14 : decode cX10_order 14 = .ok (.aload_n 0, 1) := by decide +kernel
theorem dX10_order_15 : decode cX10_order 15 = .ok (.iconst 1, 1) := by decide +kernel
theorem dX10_order_16 : decode cX10_order 16 = .ok (.invokevirtual 43, 3) := by decide +kernel
theorem dX10_order_19 : decode cX10_order 19 = .ok (.ireturn, 1) := by decide +kernel
theorem dX10_cancel_0 : decode cX10_cancel 0 = .ok (.aload_n 0, 1) := by decide +kernel
theorem dX10_cancel_1 : decode cX10_cancel 1 = .ok (.iconst 0, 1) := by decide +kernel
theorem dX10_cancel_2 : decode cX10_cancel 2 = .ok (.putfield 22, 3) := by decide +kernel
theorem dX10_cancel_5 : decode cX10_cancel 5 = .ok (.aload_n 0, 1) := by decide +kernel
theorem dX10_cancel_6 : decode cX10_cancel 6 = .ok (.iload_n 1, 1) := by decide +kernel
theorem dX10_cancel_7 : decode cX10_cancel 7 = .ok (.invokevirtual 129, 3) := by decide +kernel
theorem dX10_cancel_10 : decode cX10_cancel 10 = .ok (.ifCond .ne 9, 3) := by decide +kernel
theorem dX10_cancel_13 : decode cX10_cancel 13 = .ok (.aload_n 0, 1) := by decide +kernel
theorem dX10_cancel_14 : decode cX10_cancel 14 = .ok (.iconst 1, 1) := by decide +kernel
theorem dX10_cancel_15 : decode cX10_cancel 15 = .ok (.invokevirtual 43, 3) := by decide +kernel
theorem dX10_cancel_18 : decode cX10_cancel 18 = .ok (.ireturn, 1) := by decide +kernel
theorem dX10_ship_0 : decode cX10_ship 0 = .ok (.aload_n 0, 1) := by decide +kernel
theorem dX10_ship_1 : decode cX10_ship 1 = .ok (.iconst 0, 1) := by decide +kernel
theorem dX10_ship_2 : decode cX10_ship 2 = .ok (.putfield 22, 3) := by decide +kernel
theorem dX10_ship_5 : decode cX10_ship 5 = .ok (.aload_n 0, 1) := by decide +kernel
theorem dX10_ship_6 : decode cX10_ship 6 = .ok (.iload_n 1, 1) := by decide +kernel
theorem dX10_ship_7 : decode cX10_ship 7 = .ok (.invokevirtual 129, 3) := by decide +kernel
theorem dX10_ship_10 : decode cX10_ship 10 = .ok (.ifCond .ne 9, 3) := by decide +kernel
theorem dX10_ship_13 : decode cX10_ship 13 = .ok (.aload_n 0, 1) := by decide +kernel
theorem dX10_ship_14 : decode cX10_ship 14 = .ok (.iconst 1, 1) := by decide +kernel
theorem dX10_ship_15 : decode cX10_ship 15 = .ok (.invokevirtual 43, 3) := by decide +kernel
theorem dX10_ship_18 : decode cX10_ship 18 = .ok (.ireturn, 1) := by decide +kernel
theorem dX10_send_0 : decode cX10_send 0 = .ok (.aload_n 0, 1) := by decide +kernel
theorem dX10_send_1 : decode cX10_send 1 = .ok (.iconst 0, 1) := by decide +kernel
theorem dX10_send_2 : decode cX10_send 2 = .ok (.putfield 22, 3) := by decide +kernel
theorem dX10_send_5 : decode cX10_send 5 = .ok (.aload_n 0, 1) := by decide +kernel
theorem dX10_send_6 : decode cX10_send 6 = .ok (.iload_n 1, 1) := by decide +kernel
theorem dX10_send_7 : decode cX10_send 7 = .ok (.iload_n 2, 1) := by decide +kernel
theorem dX10_send_8 : decode cX10_send 8 = .ok (.invokevirtual 69, 3) := by decide +kernel
theorem dX10_send_11 : decode cX10_send 11 = .ok (.ifCond .eq 11, 3) := by decide +kernel
theorem dX10_send_22 : decode cX10_send 22 = .ok (.aload_n 0, 1) := by decide +kernel
theorem dX10_send_23 : decode cX10_send 23 = .ok (.iconst 1, 1) := by decide +kernel
theorem dX10_send_24 : decode cX10_send 24 = .ok (.invokevirtual 43, 3) := by decide +kernel
theorem dX10_send_27 : decode cX10_send 27 = .ok (.ireturn, 1) := by decide +kernel
theorem dX10_balance_0 : decode cX10_balance 0 = .ok (.aload_n 0, 1) := by decide +kernel
theorem dX10_balance_1 : decode cX10_balance 1 = .ok (.iconst 0, 1) := by decide +kernel
theorem dX10_balance_2 : decode cX10_balance 2 = .ok (.putfield 22, 3) := by decide +kernel
theorem dX10_balance_5 : decode cX10_balance 5 = .ok (.aload_n 0, 1) := by decide +kernel
theorem dX10_balance_6 : decode cX10_balance 6 = .ok (.iload_n 1, 1) := by decide +kernel
theorem dX10_balance_7 : decode cX10_balance 7 = .ok (.invokevirtual 36, 3) := by decide +kernel
theorem dX10_balance_10 : decode cX10_balance 10 = .ok (.ifCond .ne 9, 3) := by decide +kernel
theorem dX10_balance_13 : decode cX10_balance 13 = .ok (.aload_n 0, 1) := by decide +kernel
theorem dX10_balance_14 : decode cX10_balance 14 = .ok (.iconst 1, 1) := by decide +kernel
theorem dX10_balance_15 : decode cX10_balance 15 = .ok (.invokevirtual 43, 3) := by decide +kernel
theorem dX10_balance_18 : decode cX10_balance 18 = .ok (.ireturn, 1) := by decide +kernel
theorem dX10_day_0 : decode cX10_day 0 = .ok (.aload_n 0, 1) := by decide +kernel
theorem dX10_day_1 : decode cX10_day 1 = .ok (.aload_n 0, 1) := by decide +kernel
theorem dX10_day_2 : decode cX10_day 2 = .ok (.getfield 16, 3) := by decide +kernel
theorem dX10_day_5 : decode cX10_day 5 = .ok (.getfield 91, 3) := by decide +kernel
theorem dX10_day_8 : decode cX10_day 8 = .ok (.invokevirtual 155, 3) := by decide +kernel
theorem dX10_day_11 : decode cX10_day 11 = .ok (.ireturn, 1) := by decide +kernel
theorem dX10_items_0 : decode cX10_items 0 = .ok (.aload_n 0, 1) := by decide +kernel
theorem dX10_items_1 : decode cX10_items 1 = .ok (.aload_n 0, 1) := by decide +kernel
theorem dX10_items_2 : decode cX10_items 2 = .ok (.getfield 16, 3) := by decide +kernel
theorem dX10_items_5 : decode cX10_items 5 = .ok (.getfield 26, 3) := by decide +kernel
theorem dX10_items_8 : decode cX10_items 8 = .ok (.invokevirtual 155, 3) := by decide +kernel
theorem dX10_items_11 : decode cX10_items 11 = .ok (.ireturn, 1) := by decide +kernel
theorem dX10_sites_0 : decode cX10_sites 0 = .ok (.aload_n 0, 1) := by decide +kernel
theorem dX10_sites_1 : decode cX10_sites 1 = .ok (.aload_n 0, 1) := by decide +kernel
theorem dX10_sites_2 : decode cX10_sites 2 = .ok (.getfield 16, 3) := by decide +kernel
theorem dX10_sites_5 : decode cX10_sites 5 = .ok (.getfield 33, 3) := by decide +kernel
theorem dX10_sites_8 : decode cX10_sites 8 = .ok (.invokevirtual 155, 3) := by decide +kernel
theorem dX10_sites_11 : decode cX10_sites 11 = .ok (.ireturn, 1) := by decide +kernel
theorem dX10_lots_0 : decode cX10_lots 0 = .ok (.aload_n 0, 1) := by decide +kernel
theorem dX10_lots_1 : decode cX10_lots 1 = .ok (.aload_n 0, 1) := by decide +kernel
theorem dX10_lots_2 : decode cX10_lots 2 = .ok (.getfield 16, 3) := by decide +kernel
theorem dX10_lots_5 : decode cX10_lots 5 = .ok (.getfield 82, 3) := by decide +kernel
theorem dX10_lots_8 : decode cX10_lots 8 = .ok (.invokevirtual 155, 3) := by decide +kernel
theorem dX10_lots_11 : decode cX10_lots 11 = .ok (.ireturn, 1) := by decide +kernel
theorem dX10_orders_0 : decode cX10_orders 0 = .ok (.aload_n 0, 1) := by decide +kernel
theorem dX10_orders_1 : decode cX10_orders 1 = .ok (.aload_n 0, 1) := by decide +kernel
theorem dX10_orders_2 : decode cX10_orders 2 = .ok (.getfield 16, 3) := by decide +kernel
theorem dX10_orders_5 : decode cX10_orders 5 = .ok (.getfield 98, 3) := by decide +kernel
theorem dX10_orders_8 : decode cX10_orders 8 = .ok (.invokevirtual 155, 3) := by decide +kernel
theorem dX10_orders_11 : decode cX10_orders 11 = .ok (.ireturn, 1) := by decide +kernel
theorem dX10_transports_0 : decode cX10_transports 0 = .ok (.aload_n 0, 1) := by decide +kernel
theorem dX10_transports_1 : decode cX10_transports 1 = .ok (.aload_n 0, 1) := by decide +kernel
theorem dX10_transports_2 : decode cX10_transports 2 = .ok (.getfield 16, 3) := by decide +kernel
theorem dX10_transports_5 : decode cX10_transports 5 = .ok (.getfield 158, 3) := by decide +kernel
theorem dX10_transports_8 : decode cX10_transports 8 = .ok (.invokevirtual 155, 3) := by decide +kernel
theorem dX10_transports_11 : decode cX10_transports 11 = .ok (.ireturn, 1) := by decide +kernel
theorem dX10_ofLot_0 : decode cX10_ofLot 0 = .ok (.aload_n 0, 1) := by decide +kernel
theorem dX10_ofLot_1 : decode cX10_ofLot 1 = .ok (.iconst 0, 1) := by decide +kernel
theorem dX10_ofLot_2 : decode cX10_ofLot 2 = .ok (.putfield 22, 3) := by decide +kernel
theorem dX10_ofLot_5 : decode cX10_ofLot 5 = .ok (.iload_n 1, 1) := by decide +kernel
theorem dX10_ofLot_6 : decode cX10_ofLot 6 = .ok (.iconst 0, 1) := by decide +kernel
theorem dX10_ofLot_7 : decode cX10_ofLot 7 = .ok (.aload_n 0, 1) := by decide +kernel
theorem dX10_ofLot_8 : decode cX10_ofLot 8 = .ok (.getfield 16, 3) := by decide +kernel
theorem dX10_ofLot_11 : decode cX10_ofLot 11 = .ok (.getfield 82, 3) := by decide +kernel
theorem dX10_ofLot_14 : decode cX10_ofLot 14 = .ok (.iconst 1, 1) := by decide +kernel
theorem dX10_ofLot_15 : decode cX10_ofLot 15 = .ok (.isub, 1) := by decide +kernel
theorem dX10_ofLot_16 : decode cX10_ofLot 16 = .ok (.invokestatic 29, 3) := by decide +kernel
theorem dX10_ofLot_19 : decode cX10_ofLot 19 = .ok (.ifCond .ne 9, 3) := by decide +kernel
theorem dX10_ofLot_22 : decode cX10_ofLot 22 = .ok (.aload_n 0, 1) := by decide +kernel
theorem dX10_ofLot_23 : decode cX10_ofLot 23 = .ok (.iconst 1, 1) := by decide +kernel
theorem dX10_ofLot_24 : decode cX10_ofLot 24 = .ok (.invokevirtual 43, 3) := by decide +kernel
theorem dX10_ofLot_27 : decode cX10_ofLot 27 = .ok (.ireturn, 1) := by decide +kernel
theorem dX10_ofOrder_0 : decode cX10_ofOrder 0 = .ok (.aload_n 0, 1) := by decide +kernel
theorem dX10_ofOrder_1 : decode cX10_ofOrder 1 = .ok (.iconst 0, 1) := by decide +kernel
theorem dX10_ofOrder_2 : decode cX10_ofOrder 2 = .ok (.putfield 22, 3) := by decide +kernel
theorem dX10_ofOrder_5 : decode cX10_ofOrder 5 = .ok (.aload_n 0, 1) := by decide +kernel
theorem dX10_ofOrder_6 : decode cX10_ofOrder 6 = .ok (.iload_n 1, 1) := by decide +kernel
theorem dX10_ofOrder_7 : decode cX10_ofOrder 7 = .ok (.invokevirtual 129, 3) := by decide +kernel
theorem dX10_ofOrder_10 : decode cX10_ofOrder 10 = .ok (.ifCond .ne 9, 3) := by decide +kernel
theorem dX10_ofOrder_13 : decode cX10_ofOrder 13 = .ok (.aload_n 0, 1) := by decide +kernel
theorem dX10_ofOrder_14 : decode cX10_ofOrder 14 = .ok (.iconst 1, 1) := by decide +kernel
theorem dX10_ofOrder_15 : decode cX10_ofOrder 15 = .ok (.invokevirtual 43, 3) := by decide +kernel
theorem dX10_ofOrder_18 : decode cX10_ofOrder 18 = .ok (.ireturn, 1) := by decide +kernel
theorem dX10_reserved_0 : decode cX10_reserved 0 = .ok (.aload_n 0, 1) := by decide +kernel
theorem dX10_reserved_1 : decode cX10_reserved 1 = .ok (.iconst 0, 1) := by decide +kernel
theorem dX10_reserved_2 : decode cX10_reserved 2 = .ok (.putfield 22, 3) := by decide +kernel
theorem dX10_reserved_5 : decode cX10_reserved 5 = .ok (.aload_n 0, 1) := by decide +kernel
theorem dX10_reserved_6 : decode cX10_reserved 6 = .ok (.iload_n 1, 1) := by decide +kernel
theorem dX10_reserved_7 : decode cX10_reserved 7 = .ok (.invokevirtual 129, 3) := by decide +kernel
theorem dX10_reserved_10 : decode cX10_reserved 10 = .ok (.ifCond .eq 38, 3) := by decide +kernel
theorem dX10_reserved_48 : decode cX10_reserved 48 = .ok (.aload_n 0, 1) := by decide +kernel
theorem dX10_reserved_49 : decode cX10_reserved 49 = .ok (.iconst 1, 1) := by decide +kernel
theorem dX10_reserved_50 : decode cX10_reserved 50 = .ok (.invokevirtual 43, 3) := by decide +kernel
theorem dX10_reserved_53 : decode cX10_reserved 53 = .ok (.ireturn, 1) := by decide +kernel
theorem dX10_ofTransport_0 : decode cX10_ofTransport 0 = .ok (.aload_n 0, 1) := by decide +kernel
theorem dX10_ofTransport_1 : decode cX10_ofTransport 1 = .ok (.iconst 0, 1) := by decide +kernel
theorem dX10_ofTransport_2 : decode cX10_ofTransport 2 = .ok (.putfield 22, 3) := by decide +kernel
theorem dX10_ofTransport_5 : decode cX10_ofTransport 5 = .ok (.iload_n 1, 1) := by decide +kernel
theorem dX10_ofTransport_6 : decode cX10_ofTransport 6 = .ok (.iconst 0, 1) := by decide +kernel
theorem dX10_ofTransport_7 : decode cX10_ofTransport 7 = .ok (.aload_n 0, 1) := by decide +kernel
theorem dX10_ofTransport_8 : decode cX10_ofTransport 8 = .ok (.getfield 16, 3) := by decide +kernel
theorem dX10_ofTransport_11 : decode cX10_ofTransport 11 = .ok (.getfield 158, 3) := by decide +kernel
theorem dX10_ofTransport_14 : decode cX10_ofTransport 14 = .ok (.iconst 1, 1) := by decide +kernel
theorem dX10_ofTransport_15 : decode cX10_ofTransport 15 = .ok (.isub, 1) := by decide +kernel
theorem dX10_ofTransport_16 : decode cX10_ofTransport 16 = .ok (.invokestatic 29, 3) := by decide +kernel
theorem dX10_ofTransport_19 : decode cX10_ofTransport 19 = .ok (.ifCond .ne 9, 3) := by decide +kernel
theorem dX10_ofTransport_22 : decode cX10_ofTransport 22 = .ok (.aload_n 0, 1) := by decide +kernel
theorem dX10_ofTransport_23 : decode cX10_ofTransport 23 = .ok (.iconst 1, 1) := by decide +kernel
theorem dX10_ofTransport_24 : decode cX10_ofTransport 24 = .ok (.invokevirtual 43, 3) := by decide +kernel
theorem dX10_ofTransport_27 : decode cX10_ofTransport 27 = .ok (.ireturn, 1) := by decide +kernel
theorem dX10_route_0 : decode cX10_route 0 = .ok (.aload_n 0, 1) := by decide +kernel
theorem dX10_route_1 : decode cX10_route 1 = .ok (.iconst 0, 1) := by decide +kernel
theorem dX10_route_2 : decode cX10_route 2 = .ok (.putfield 22, 3) := by decide +kernel
theorem dX10_route_5 : decode cX10_route 5 = .ok (.aload_n 0, 1) := by decide +kernel
theorem dX10_route_6 : decode cX10_route 6 = .ok (.iload_n 1, 1) := by decide +kernel
theorem dX10_route_7 : decode cX10_route 7 = .ok (.invokevirtual 40, 3) := by decide +kernel
theorem dX10_route_10 : decode cX10_route 10 = .ok (.ifCond .eq 27, 3) := by decide +kernel
theorem dX10_route_37 : decode cX10_route 37 = .ok (.aload_n 0, 1) := by decide +kernel
theorem dX10_route_38 : decode cX10_route 38 = .ok (.iconst 1, 1) := by decide +kernel
theorem dX10_route_39 : decode cX10_route 39 = .ok (.invokevirtual 43, 3) := by decide +kernel
theorem dX10_route_42 : decode cX10_route 42 = .ok (.ireturn, 1) := by decide +kernel
theorem dX10_hasPolicy_0 : decode cX10_hasPolicy 0 = .ok (.aload_n 0, 1) := by decide +kernel
theorem dX10_hasPolicy_1 : decode cX10_hasPolicy 1 = .ok (.iconst 0, 1) := by decide +kernel
theorem dX10_hasPolicy_2 : decode cX10_hasPolicy 2 = .ok (.putfield 22, 3) := by decide +kernel
theorem dX10_hasPolicy_5 : decode cX10_hasPolicy 5 = .ok (.aload_n 0, 1) := by decide +kernel
theorem dX10_hasPolicy_6 : decode cX10_hasPolicy 6 = .ok (.iload_n 1, 1) := by decide +kernel
theorem dX10_hasPolicy_7 : decode cX10_hasPolicy 7 = .ok (.iload_n 2, 1) := by decide +kernel
theorem dX10_hasPolicy_8 : decode cX10_hasPolicy 8 = .ok (.invokevirtual 69, 3) := by decide +kernel
theorem dX10_hasPolicy_11 : decode cX10_hasPolicy 11 = .ok (.ifCond .eq 28, 3) := by decide +kernel
theorem dX10_hasPolicy_39 : decode cX10_hasPolicy 39 = .ok (.aload_n 0, 1) := by decide +kernel
theorem dX10_hasPolicy_40 : decode cX10_hasPolicy 40 = .ok (.iconst 1, 1) := by decide +kernel
theorem dX10_hasPolicy_41 : decode cX10_hasPolicy 41 = .ok (.invokevirtual 73, 3) := by decide +kernel
theorem dX10_hasPolicy_44 : decode cX10_hasPolicy 44 = .ok (.ireturn, 1) := by decide +kernel
theorem dX10_onHand_0 : decode cX10_onHand 0 = .ok (.aload_n 0, 1) := by decide +kernel
theorem dX10_onHand_1 : decode cX10_onHand 1 = .ok (.iconst 0, 1) := by decide +kernel
theorem dX10_onHand_2 : decode cX10_onHand 2 = .ok (.putfield 22, 3) := by decide +kernel
theorem dX10_onHand_5 : decode cX10_onHand 5 = .ok (.aload_n 0, 1) := by decide +kernel
theorem dX10_onHand_6 : decode cX10_onHand 6 = .ok (.iload_n 1, 1) := by decide +kernel
theorem dX10_onHand_7 : decode cX10_onHand 7 = .ok (.iload_n 2, 1) := by decide +kernel
theorem dX10_onHand_8 : decode cX10_onHand 8 = .ok (.invokevirtual 69, 3) := by decide +kernel
theorem dX10_onHand_11 : decode cX10_onHand 11 = .ok (.ifCond .eq 15, 3) := by decide +kernel
theorem dX10_onHand_26 : decode cX10_onHand 26 = .ok (.aload_n 0, 1) := by decide +kernel
theorem dX10_onHand_27 : decode cX10_onHand 27 = .ok (.iconst 1, 1) := by decide +kernel
theorem dX10_onHand_28 : decode cX10_onHand 28 = .ok (.invokevirtual 43, 3) := by decide +kernel
theorem dX10_onHand_31 : decode cX10_onHand 31 = .ok (.ireturn, 1) := by decide +kernel
theorem dX10_free_0 : decode cX10_free 0 = .ok (.aload_n 0, 1) := by decide +kernel
theorem dX10_free_1 : decode cX10_free 1 = .ok (.iconst 0, 1) := by decide +kernel
theorem dX10_free_2 : decode cX10_free 2 = .ok (.putfield 22, 3) := by decide +kernel
theorem dX10_free_5 : decode cX10_free 5 = .ok (.aload_n 0, 1) := by decide +kernel
theorem dX10_free_6 : decode cX10_free 6 = .ok (.iload_n 1, 1) := by decide +kernel
theorem dX10_free_7 : decode cX10_free 7 = .ok (.iload_n 2, 1) := by decide +kernel
theorem dX10_free_8 : decode cX10_free 8 = .ok (.invokevirtual 69, 3) := by decide +kernel
theorem dX10_free_11 : decode cX10_free 11 = .ok (.ifCond .eq 15, 3) := by decide +kernel
theorem dX10_free_26 : decode cX10_free 26 = .ok (.aload_n 0, 1) := by decide +kernel
theorem dX10_free_27 : decode cX10_free 27 = .ok (.iconst 1, 1) := by decide +kernel
theorem dX10_free_28 : decode cX10_free 28 = .ok (.invokevirtual 43, 3) := by decide +kernel
theorem dX10_free_31 : decode cX10_free 31 = .ok (.ireturn, 1) := by decide +kernel
theorem dX10_underWay_0 : decode cX10_underWay 0 = .ok (.aload_n 0, 1) := by decide +kernel
theorem dX10_underWay_1 : decode cX10_underWay 1 = .ok (.iconst 0, 1) := by decide +kernel
theorem dX10_underWay_2 : decode cX10_underWay 2 = .ok (.putfield 22, 3) := by decide +kernel
theorem dX10_underWay_5 : decode cX10_underWay 5 = .ok (.aload_n 0, 1) := by decide +kernel
theorem dX10_underWay_6 : decode cX10_underWay 6 = .ok (.iload_n 1, 1) := by decide +kernel
theorem dX10_underWay_7 : decode cX10_underWay 7 = .ok (.iload_n 2, 1) := by decide +kernel
theorem dX10_underWay_8 : decode cX10_underWay 8 = .ok (.invokevirtual 69, 3) := by decide +kernel
theorem dX10_underWay_11 : decode cX10_underWay 11 = .ok (.ifCond .eq 15, 3) := by decide +kernel
theorem dX10_underWay_26 : decode cX10_underWay 26 = .ok (.aload_n 0, 1) := by decide +kernel
theorem dX10_underWay_27 : decode cX10_underWay 27 = .ok (.iconst 1, 1) := by decide +kernel
theorem dX10_underWay_28 : decode cX10_underWay 28 = .ok (.invokevirtual 43, 3) := by decide +kernel
theorem dX10_underWay_31 : decode cX10_underWay 31 = .ok (.ireturn, 1) := by decide +kernel
theorem dX10_position_0 : decode cX10_position 0 = .ok (.aload_n 0, 1) := by decide +kernel
theorem dX10_position_1 : decode cX10_position 1 = .ok (.iconst 0, 1) := by decide +kernel
theorem dX10_position_2 : decode cX10_position 2 = .ok (.putfield 22, 3) := by decide +kernel
theorem dX10_position_5 : decode cX10_position 5 = .ok (.aload_n 0, 1) := by decide +kernel
theorem dX10_position_6 : decode cX10_position 6 = .ok (.iload_n 1, 1) := by decide +kernel
theorem dX10_position_7 : decode cX10_position 7 = .ok (.iload_n 2, 1) := by decide +kernel
theorem dX10_position_8 : decode cX10_position 8 = .ok (.invokevirtual 69, 3) := by decide +kernel
theorem dX10_position_11 : decode cX10_position 11 = .ok (.ifCond .eq 15, 3) := by decide +kernel
theorem dX10_position_26 : decode cX10_position 26 = .ok (.aload_n 0, 1) := by decide +kernel
theorem dX10_position_27 : decode cX10_position 27 = .ok (.iconst 1, 1) := by decide +kernel
theorem dX10_position_28 : decode cX10_position 28 = .ok (.invokevirtual 43, 3) := by decide +kernel
theorem dX10_position_31 : decode cX10_position 31 = .ok (.ireturn, 1) := by decide +kernel
theorem dX10_roomLeft_0 : decode cX10_roomLeft 0 = .ok (.aload_n 0, 1) := by decide +kernel
theorem dX10_roomLeft_1 : decode cX10_roomLeft 1 = .ok (.iconst 0, 1) := by decide +kernel
theorem dX10_roomLeft_2 : decode cX10_roomLeft 2 = .ok (.putfield 22, 3) := by decide +kernel
theorem dX10_roomLeft_5 : decode cX10_roomLeft 5 = .ok (.aload_n 0, 1) := by decide +kernel
theorem dX10_roomLeft_6 : decode cX10_roomLeft 6 = .ok (.iload_n 1, 1) := by decide +kernel
theorem dX10_roomLeft_7 : decode cX10_roomLeft 7 = .ok (.invokevirtual 40, 3) := by decide +kernel
theorem dX10_roomLeft_10 : decode cX10_roomLeft 10 = .ok (.ifCond .eq 14, 3) := by decide +kernel
theorem dX10_roomLeft_24 : decode cX10_roomLeft 24 = .ok (.aload_n 0, 1) := by decide +kernel
theorem dX10_roomLeft_25 : decode cX10_roomLeft 25 = .ok (.iconst 1, 1) := by decide +kernel
theorem dX10_roomLeft_26 : decode cX10_roomLeft 26 = .ok (.invokevirtual 43, 3) := by decide +kernel
theorem dX10_roomLeft_29 : decode cX10_roomLeft 29 = .ok (.ireturn, 1) := by decide +kernel
theorem dX10_expiring_0 : decode cX10_expiring 0 = .ok (.aload_n 0, 1) := by decide +kernel
theorem dX10_expiring_1 : decode cX10_expiring 1 = .ok (.iconst 0, 1) := by decide +kernel
theorem dX10_expiring_2 : decode cX10_expiring 2 = .ok (.putfield 22, 3) := by decide +kernel
theorem dX10_expiring_5 : decode cX10_expiring 5 = .ok (.aload_n 0, 1) := by decide +kernel
theorem dX10_expiring_6 : decode cX10_expiring 6 = .ok (.iload_n 1, 1) := by decide +kernel
theorem dX10_expiring_7 : decode cX10_expiring 7 = .ok (.iload_n 2, 1) := by decide +kernel
theorem dX10_expiring_8 : decode cX10_expiring 8 = .ok (.invokevirtual 69, 3) := by decide +kernel
theorem dX10_expiring_11 : decode cX10_expiring 11 = .ok (.ifCond .ne 9, 3) := by decide +kernel
theorem dX10_expiring_14 : decode cX10_expiring 14 = .ok (.aload_n 0, 1) := by decide +kernel
theorem dX10_expiring_15 : decode cX10_expiring 15 = .ok (.iconst 1, 1) := by decide +kernel
theorem dX10_expiring_16 : decode cX10_expiring 16 = .ok (.invokevirtual 43, 3) := by decide +kernel
theorem dX10_expiring_19 : decode cX10_expiring 19 = .ok (.ireturn, 1) := by decide +kernel
theorem dX10_couldTake_0 : decode cX10_couldTake 0 = .ok (.aload_n 0, 1) := by decide +kernel
theorem dX10_couldTake_1 : decode cX10_couldTake 1 = .ok (.iconst 0, 1) := by decide +kernel
theorem dX10_couldTake_2 : decode cX10_couldTake 2 = .ok (.putfield 22, 3) := by decide +kernel
theorem dX10_couldTake_5 : decode cX10_couldTake 5 = .ok (.aload_n 0, 1) := by decide +kernel
theorem dX10_couldTake_6 : decode cX10_couldTake 6 = .ok (.iload_n 1, 1) := by decide +kernel
theorem dX10_couldTake_7 : decode cX10_couldTake 7 = .ok (.iload_n 2, 1) := by decide +kernel
theorem dX10_couldTake_8 : decode cX10_couldTake 8 = .ok (.invokevirtual 69, 3) := by decide +kernel
theorem dX10_couldTake_11 : decode cX10_couldTake 11 = .ok (.ifCond .ne 9, 3) := by decide +kernel
theorem dX10_couldTake_14 : decode cX10_couldTake 14 = .ok (.aload_n 0, 1) := by decide +kernel
theorem dX10_couldTake_15 : decode cX10_couldTake 15 = .ok (.iconst 1, 1) := by decide +kernel
theorem dX10_couldTake_16 : decode cX10_couldTake 16 = .ok (.invokevirtual 73, 3) := by decide +kernel
theorem dX10_couldTake_19 : decode cX10_couldTake 19 = .ok (.ireturn, 1) := by decide +kernel
theorem dX10_rate_0 : decode cX10_rate 0 = .ok (.aload_n 0, 1) := by decide +kernel
theorem dX10_rate_1 : decode cX10_rate 1 = .ok (.iconst 0, 1) := by decide +kernel
theorem dX10_rate_2 : decode cX10_rate 2 = .ok (.putfield 22, 3) := by decide +kernel
theorem dX10_rate_5 : decode cX10_rate 5 = .ok (.aload_n 0, 1) := by decide +kernel
theorem dX10_rate_6 : decode cX10_rate 6 = .ok (.iload_n 1, 1) := by decide +kernel
theorem dX10_rate_7 : decode cX10_rate 7 = .ok (.iload_n 2, 1) := by decide +kernel
theorem dX10_rate_8 : decode cX10_rate 8 = .ok (.invokevirtual 69, 3) := by decide +kernel
theorem dX10_rate_11 : decode cX10_rate 11 = .ok (.ifCond .ne 9, 3) := by decide +kernel
theorem dX10_rate_14 : decode cX10_rate 14 = .ok (.aload_n 0, 1) := by decide +kernel
theorem dX10_rate_15 : decode cX10_rate 15 = .ok (.iconst 1, 1) := by decide +kernel
theorem dX10_rate_16 : decode cX10_rate 16 = .ok (.invokevirtual 43, 3) := by decide +kernel
theorem dX10_rate_19 : decode cX10_rate 19 = .ok (.ireturn, 1) := by decide +kernel
theorem dX10_pointFor_0 : decode cX10_pointFor 0 = .ok (.aload_n 0, 1) := by decide +kernel
theorem dX10_pointFor_1 : decode cX10_pointFor 1 = .ok (.iconst 0, 1) := by decide +kernel
theorem dX10_pointFor_2 : decode cX10_pointFor 2 = .ok (.putfield 22, 3) := by decide +kernel
theorem dX10_pointFor_5 : decode cX10_pointFor 5 = .ok (.aload_n 0, 1) := by decide +kernel
theorem dX10_pointFor_6 : decode cX10_pointFor 6 = .ok (.iload_n 1, 1) := by decide +kernel
theorem dX10_pointFor_7 : decode cX10_pointFor 7 = .ok (.iload_n 2, 1) := by decide +kernel
theorem dX10_pointFor_8 : decode cX10_pointFor 8 = .ok (.invokevirtual 69, 3) := by decide +kernel
theorem dX10_pointFor_11 : decode cX10_pointFor 11 = .ok (.ifCond .ne 9, 3) := by decide +kernel
theorem dX10_pointFor_14 : decode cX10_pointFor 14 = .ok (.aload_n 0, 1) := by decide +kernel
theorem dX10_pointFor_15 : decode cX10_pointFor 15 = .ok (.iconst 1, 1) := by decide +kernel
theorem dX10_pointFor_16 : decode cX10_pointFor 16 = .ok (.invokevirtual 43, 3) := by decide +kernel
theorem dX10_pointFor_19 : decode cX10_pointFor 19 = .ok (.ireturn, 1) := by decide +kernel
theorem dX10_classOf_0 : decode cX10_classOf 0 = .ok (.aload_n 0, 1) := by decide +kernel
theorem dX10_classOf_1 : decode cX10_classOf 1 = .ok (.iconst 0, 1) := by decide +kernel
theorem dX10_classOf_2 : decode cX10_classOf 2 = .ok (.putfield 22, 3) := by decide +kernel
theorem dX10_classOf_5 : decode cX10_classOf 5 = .ok (.aload_n 0, 1) := by decide +kernel
theorem dX10_classOf_6 : decode cX10_classOf 6 = .ok (.iload_n 1, 1) := by decide +kernel
theorem dX10_classOf_7 : decode cX10_classOf 7 = .ok (.invokevirtual 36, 3) := by decide +kernel
theorem dX10_classOf_10 : decode cX10_classOf 10 = .ok (.ifCond .eq 14, 3) := by decide +kernel
theorem dX10_classOf_24 : decode cX10_classOf 24 = .ok (.aload_n 0, 1) := by decide +kernel
theorem dX10_classOf_25 : decode cX10_classOf 25 = .ok (.iconst 1, 1) := by decide +kernel
theorem dX10_classOf_26 : decode cX10_classOf 26 = .ok (.invokevirtual 43, 3) := by decide +kernel
theorem dX10_classOf_29 : decode cX10_classOf 29 = .ok (.ireturn, 1) := by decide +kernel
theorem dX10_lacks_0 : decode cX10_lacks 0 = .ok (.aload_n 0, 1) := by decide +kernel
theorem dX10_lacks_1 : decode cX10_lacks 1 = .ok (.iconst 0, 1) := by decide +kernel
theorem dX10_lacks_2 : decode cX10_lacks 2 = .ok (.putfield 22, 3) := by decide +kernel
theorem dX10_lacks_5 : decode cX10_lacks 5 = .ok (.aload_n 0, 1) := by decide +kernel
theorem dX10_lacks_6 : decode cX10_lacks 6 = .ok (.iload_n 1, 1) := by decide +kernel
theorem dX10_lacks_7 : decode cX10_lacks 7 = .ok (.iload_n 2, 1) := by decide +kernel
theorem dX10_lacks_8 : decode cX10_lacks 8 = .ok (.invokevirtual 69, 3) := by decide +kernel
theorem dX10_lacks_11 : decode cX10_lacks 11 = .ok (.ifCond .eq 15, 3) := by decide +kernel
theorem dX10_lacks_26 : decode cX10_lacks 26 = .ok (.aload_n 0, 1) := by decide +kernel
theorem dX10_lacks_27 : decode cX10_lacks 27 = .ok (.iconst 1, 1) := by decide +kernel
theorem dX10_lacks_28 : decode cX10_lacks 28 = .ok (.invokevirtual 43, 3) := by decide +kernel
theorem dX10_lacks_31 : decode cX10_lacks 31 = .ok (.ireturn, 1) := by decide +kernel
theorem dX10_spares_0 : decode cX10_spares 0 = .ok (.aload_n 0, 1) := by decide +kernel
theorem dX10_spares_1 : decode cX10_spares 1 = .ok (.iconst 0, 1) := by decide +kernel
theorem dX10_spares_2 : decode cX10_spares 2 = .ok (.putfield 22, 3) := by decide +kernel
theorem dX10_spares_5 : decode cX10_spares 5 = .ok (.aload_n 0, 1) := by decide +kernel
theorem dX10_spares_6 : decode cX10_spares 6 = .ok (.iload_n 1, 1) := by decide +kernel
theorem dX10_spares_7 : decode cX10_spares 7 = .ok (.iload_n 2, 1) := by decide +kernel
theorem dX10_spares_8 : decode cX10_spares 8 = .ok (.invokevirtual 69, 3) := by decide +kernel
theorem dX10_spares_11 : decode cX10_spares 11 = .ok (.ifCond .eq 15, 3) := by decide +kernel
theorem dX10_spares_26 : decode cX10_spares 26 = .ok (.aload_n 0, 1) := by decide +kernel
theorem dX10_spares_27 : decode cX10_spares 27 = .ok (.iconst 1, 1) := by decide +kernel
theorem dX10_spares_28 : decode cX10_spares 28 = .ok (.invokevirtual 43, 3) := by decide +kernel
theorem dX10_spares_31 : decode cX10_spares 31 = .ok (.ireturn, 1) := by decide +kernel
theorem dX10_planned_0 : decode cX10_planned 0 = .ok (.aload_n 0, 1) := by decide +kernel
theorem dX10_planned_1 : decode cX10_planned 1 = .ok (.iconst 0, 1) := by decide +kernel
theorem dX10_planned_2 : decode cX10_planned 2 = .ok (.putfield 22, 3) := by decide +kernel
theorem dX10_planned_5 : decode cX10_planned 5 = .ok (.aload_n 0, 1) := by decide +kernel
theorem dX10_planned_6 : decode cX10_planned 6 = .ok (.iload_n 1, 1) := by decide +kernel
theorem dX10_planned_7 : decode cX10_planned 7 = .ok (.iload_n 2, 1) := by decide +kernel
theorem dX10_planned_8 : decode cX10_planned 8 = .ok (.invokevirtual 69, 3) := by decide +kernel
theorem dX10_planned_11 : decode cX10_planned 11 = .ok (.ifCond .eq 28, 3) := by decide +kernel
theorem dX10_planned_39 : decode cX10_planned 39 = .ok (.aload_n 0, 1) := by decide +kernel
theorem dX10_planned_40 : decode cX10_planned 40 = .ok (.iconst 1, 1) := by decide +kernel
theorem dX10_planned_41 : decode cX10_planned 41 = .ok (.invokevirtual 43, 3) := by decide +kernel
theorem dX10_planned_44 : decode cX10_planned 44 = .ok (.ireturn, 1) := by decide +kernel
theorem dX10_onHandIn_0 : decode cX10_onHandIn 0 = .ok (.aload_n 0, 1) := by decide +kernel
theorem dX10_onHandIn_1 : decode cX10_onHandIn 1 = .ok (.iconst 0, 1) := by decide +kernel
theorem dX10_onHandIn_2 : decode cX10_onHandIn 2 = .ok (.putfield 22, 3) := by decide +kernel
theorem dX10_onHandIn_5 : decode cX10_onHandIn 5 = .ok (.aload_n 0, 1) := by decide +kernel
theorem dX10_onHandIn_6 : decode cX10_onHandIn 6 = .ok (.iload_n 1, 1) := by decide +kernel
theorem dX10_onHandIn_7 : decode cX10_onHandIn 7 = .ok (.iload_n 2, 1) := by decide +kernel
theorem dX10_onHandIn_8 : decode cX10_onHandIn 8 = .ok (.invokevirtual 69, 3) := by decide +kernel
theorem dX10_onHandIn_11 : decode cX10_onHandIn 11 = .ok (.ifCond .ne 9, 3) := by decide +kernel
theorem dX10_onHandIn_14 : decode cX10_onHandIn 14 = .ok (.aload_n 0, 1) := by decide +kernel
theorem dX10_onHandIn_15 : decode cX10_onHandIn 15 = .ok (.iconst 1, 1) := by decide +kernel
theorem dX10_onHandIn_16 : decode cX10_onHandIn 16 = .ok (.invokevirtual 43, 3) := by decide +kernel
theorem dX10_onHandIn_19 : decode cX10_onHandIn 19 = .ok (.ireturn, 1) := by decide +kernel
theorem dX10_shippedOn_0 : decode cX10_shippedOn 0 = .ok (.aload_n 0, 1) := by decide +kernel
theorem dX10_shippedOn_1 : decode cX10_shippedOn 1 = .ok (.iconst 0, 1) := by decide +kernel
theorem dX10_shippedOn_2 : decode cX10_shippedOn 2 = .ok (.putfield 22, 3) := by decide +kernel
theorem dX10_shippedOn_5 : decode cX10_shippedOn 5 = .ok (.aload_n 0, 1) := by decide +kernel
theorem dX10_shippedOn_6 : decode cX10_shippedOn 6 = .ok (.iload_n 1, 1) := by decide +kernel
theorem dX10_shippedOn_7 : decode cX10_shippedOn 7 = .ok (.invokevirtual 129, 3) := by decide +kernel
theorem dX10_shippedOn_10 : decode cX10_shippedOn 10 = .ok (.ifCond .ne 9, 3) := by decide +kernel
theorem dX10_shippedOn_13 : decode cX10_shippedOn 13 = .ok (.aload_n 0, 1) := by decide +kernel
theorem dX10_shippedOn_14 : decode cX10_shippedOn 14 = .ok (.iconst 1, 1) := by decide +kernel
theorem dX10_shippedOn_15 : decode cX10_shippedOn 15 = .ok (.invokevirtual 43, 3) := by decide +kernel
theorem dX10_shippedOn_18 : decode cX10_shippedOn 18 = .ok (.ireturn, 1) := by decide +kernel
