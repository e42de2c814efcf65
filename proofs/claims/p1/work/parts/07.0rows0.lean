theorem dL_setRoute_0 : decode cL_setRoute 0 = .ok (.aload 4, 2) := by decide +kernel
theorem dL_setRoute_2 : decode cL_setRoute 2 = .ok (.iconst 0, 1) := by decide +kernel
theorem dL_setRoute_3 : decode cL_setRoute 3 = .ok (.aload_n 0, 1) := by decide +kernel
theorem dL_setRoute_4 : decode cL_setRoute 4 = .ok (.iload_n 1, 1) := by decide +kernel
theorem dL_setRoute_5 : decode cL_setRoute 5 = .ok (.iload_n 2, 1) := by decide +kernel
theorem dL_setRoute_6 : decode cL_setRoute 6 = .ok (.iload_n 3, 1) := by decide +kernel
theorem dL_setRoute_7 : decode cL_setRoute 7 = .ok (.invokevirtual 21, 3) := by decide +kernel
theorem dL_setRoute_15 : decode cL_setRoute 15 = .ok (.astore 5, 2) := by decide +kernel
theorem dL_setRoute_17 : decode cL_setRoute 17 = .ok (.iconst 1, 1) := by decide +kernel
theorem dL_setRoute_18 : decode cL_setRoute 18 = .ok (.ireturn, 1) := by decide +kernel
theorem dL_setPolicy_0 : decode cL_setPolicy 0 = .ok (.aload 7, 2) := by decide +kernel
theorem dL_setPolicy_2 : decode cL_setPolicy 2 = .ok (.iconst 0, 1) := by decide +kernel
theorem dL_setPolicy_3 : decode cL_setPolicy 3 = .ok (.aload_n 0, 1) := by decide +kernel
theorem dL_setPolicy_4 : decode cL_setPolicy 4 = .ok (.iload_n 1, 1) := by decide +kernel
theorem dL_setPolicy_5 : decode cL_setPolicy 5 = .ok (.iload_n 2, 1) := by decide +kernel
theorem dL_setPolicy_6 : decode cL_setPolicy 6 = .ok (.iload_n 3, 1) := by decide +kernel
theorem dL_setPolicy_7 : decode cL_setPolicy 7 = .ok (.iload 4, 2) := by decide +kernel
theorem dL_setPolicy_9 : decode cL_setPolicy 9 = .ok (.iload 5, 2) := by decide +kernel
theorem dL_setPolicy_11 : decode cL_setPolicy 11 = .ok (.iload 6, 2) := by decide +kernel
theorem dL_setPolicy_13 : decode cL_setPolicy 13 = .ok (.invokevirtual 26, 3) := by decide +kernel
theorem dL_setPolicy_28 : decode cL_setPolicy 28 = .ok (.astore 8, 2) := by decide +kernel
theorem dL_setPolicy_30 : decode cL_setPolicy 30 = .ok (.iconst 1, 1) := by decide +kernel
theorem dL_setPolicy_31 : decode cL_setPolicy 31 = .ok (.ireturn, 1) := by decide +kernel
theorem dL_receive_0 : decode cL_receive 0 = .ok (.aload 5, 2) := by decide +kernel
theorem dL_receive_2 : decode cL_receive 2 = .ok (.iconst 0, 1) := by decide +kernel
theorem dL_receive_3 : decode cL_receive 3 = .ok (.aload_n 0, 1) := by decide +kernel
theorem dL_receive_4 : decode cL_receive 4 = .ok (.iload_n 1, 1) := by decide +kernel
theorem dL_receive_5 : decode cL_receive 5 = .ok (.iload_n 2, 1) := by decide +kernel
theorem dL_receive_6 : decode cL_receive 6 = .ok (.iload_n 3, 1) := by decide +kernel
theorem dL_receive_7 : decode cL_receive 7 = .ok (.iload 4, 2) := by decide +kernel
theorem dL_receive_9 : decode cL_receive 9 = .ok (.invokevirtual 30, 3) := by decide +kernel
theorem dL_receive_17 : decode cL_receive 17 = .ok (.astore 6, 2) := by decide +kernel
theorem dL_receive_19 : decode cL_receive 19 = .ok (.iconst 1, 1) := by decide +kernel
theorem dL_receive_20 : decode cL_receive 20 = .ok (.ireturn, 1) := by decide +kernel
theorem dL_order_0 : decode cL_order 0 = .ok (.aload 7, 2) := by decide +kernel
theorem dL_order_2 : decode cL_order 2 = .ok (.iconst 0, 1) := by decide +kernel
theorem dL_order_3 : decode cL_order 3 = .ok (.aload_n 0, 1) := by decide +kernel
theorem dL_order_4 : decode cL_order 4 = .ok (.iload_n 1, 1) := by decide +kernel
theorem dL_order_5 : decode cL_order 5 = .ok (.iload_n 2, 1) := by decide +kernel
theorem dL_order_6 : decode cL_order 6 = .ok (.iload_n 3, 1) := by decide +kernel
theorem dL_order_7 : decode cL_order 7 = .ok (.iload 4, 2) := by decide +kernel
theorem dL_order_9 : decode cL_order 9 = .ok (.iload 5, 2) := by decide +kernel
theorem dL_order_11 : decode cL_order 11 = .ok (.iload 6, 2) := by decide +kernel
theorem dL_order_13 : decode cL_order 13 = .ok (.invokevirtual 34, 3) := by decide +kernel
theorem dL_order_21 : decode cL_order 21 = .ok (.astore 8, 2) := by decide +kernel
theorem dL_order_23 : decode cL_order 23 = .ok (.iconst 1, 1) := by decide +kernel
theorem dL_order_24 : decode cL_order 24 = .ok (.ireturn, 1) := by decide +kernel
theorem dL_cancel_0 : decode cL_cancel 0 = .ok (.aload_n 2, 1) := by decide +kernel
theorem dL_cancel_1 : decode cL_cancel 1 = .ok (.iconst 0, 1) := by decide +kernel
theorem dL_cancel_2 : decode cL_cancel 2 = .ok (.aload_n 0, 1) := by decide +kernel
theorem dL_cancel_3 : decode cL_cancel 3 = .ok (.iload_n 1, 1) := by decide +kernel
theorem dL_cancel_4 : decode cL_cancel 4 = .ok (.invokevirtual 38, 3) := by decide +kernel
theorem dL_cancel_12 : decode cL_cancel 12 = .ok (.astore_n 3, 1) := by decide +kernel
theorem dL_cancel_13 : decode cL_cancel 13 = .ok (.iconst 1, 1) := by decide +kernel
theorem dL_cancel_14 : decode cL_cancel 14 = .ok (.ireturn, 1) := by decide +kernel
theorem dL_ship_0 : decode cL_ship 0 = .ok (.aload_n 2, 1) := by decide +kernel
theorem dL_ship_1 : decode cL_ship 1 = .ok (.iconst 0, 1) := by decide +kernel
theorem dL_ship_2 : decode cL_ship 2 = .ok (.aload_n 0, 1) := by decide +kernel
theorem dL_ship_3 : decode cL_ship 3 = .ok (.iload_n 1, 1) := by decide +kernel
theorem dL_ship_4 : decode cL_ship 4 = .ok (.invokevirtual 41, 3) := by decide +kernel
theorem dL_ship_12 : decode cL_ship 12 = .ok (.astore_n 3, 1) := by decide +kernel
theorem dL_ship_13 : decode cL_ship 13 = .ok (.iconst 1, 1) := by decide +kernel
theorem dL_ship_14 : decode cL_ship 14 = .ok (.ireturn, 1) := by decide +kernel
theorem dL_send_0 : decode cL_send 0 = .ok (.aload 5, 2) := by decide +kernel
theorem dL_send_2 : decode cL_send 2 = .ok (.iconst 0, 1) := by decide +kernel
theorem dL_send_3 : decode cL_send 3 = .ok (.aload_n 0, 1) := by decide +kernel
theorem dL_send_4 : decode cL_send 4 = .ok (.iload_n 1, 1) := by decide +kernel
theorem dL_send_5 : decode cL_send 5 = .ok (.iload_n 2, 1) := by decide +kernel
theorem dL_send_6 : decode cL_send 6 = .ok (.iload_n 3, 1) := by decide +kernel
theorem dL_send_7 : decode cL_send 7 = .ok (.iload 4, 2) := by decide +kernel
theorem dL_send_9 : decode cL_send 9 = .ok (.invokevirtual 47, 3) := by decide +kernel
theorem dL_send_17 : decode cL_send 17 = .ok (.astore 6, 2) := by decide +kernel
theorem dL_send_19 : decode cL_send 19 = .ok (.iconst 1, 1) := by decide +kernel
theorem dL_send_20 : decode cL_send 20 = .ok (.ireturn, 1) := by decide +kernel
theorem dL_balance_0 : decode cL_balance 0 = .ok (.aload_n 2, 1) := by decide +kernel
theorem dL_balance_1 : decode cL_balance 1 = .ok (.iconst 0, 1) := by decide +kernel
theorem dL_balance_2 : decode cL_balance 2 = .ok (.aload_n 0, 1) := by decide +kernel
theorem dL_balance_3 : decode cL_balance 3 = .ok (.iload_n 1, 1) := by decide +kernel
theorem dL_balance_4 : decode cL_balance 4 = .ok (.invokevirtual 50, 3) := by decide +kernel
theorem dL_balance_12 : decode cL_balance 12 = .ok (.astore_n 3, 1) := by decide +kernel
theorem dL_balance_13 : decode cL_balance 13 = .ok (.iconst 1, 1) := by decide +kernel
theorem dL_balance_14 : decode cL_balance 14 = .ok (.ireturn, 1) := by decide +kernel
theorem dL_ofLot_0 : decode cL_ofLot 0 = .ok (.aload_n 3, 1) := by decide +kernel
theorem dL_ofLot_1 : decode cL_ofLot 1 = .ok (.iconst 0, 1) := by decide +kernel
theorem dL_ofLot_2 : decode cL_ofLot 2 = .ok (.aload_n 0, 1) := by decide +kernel
theorem dL_ofLot_3 : decode cL_ofLot 3 = .ok (.iload_n 1, 1) := by decide +kernel
theorem dL_ofLot_4 : decode cL_ofLot 4 = .ok (.iload_n 2, 1) := by decide +kernel
theorem dL_ofLot_5 : decode cL_ofLot 5 = .ok (.invokevirtual 53, 3) := by decide +kernel
theorem dL_ofLot_13 : decode cL_ofLot 13 = .ok (.astore 4, 2) := by decide +kernel
theorem dL_ofLot_15 : decode cL_ofLot 15 = .ok (.iconst 1, 1) := by decide +kernel
theorem dL_ofLot_16 : decode cL_ofLot 16 = .ok (.ireturn, 1) := by decide +kernel
theorem dL_ofOrder_0 : decode cL_ofOrder 0 = .ok (.aload_n 3, 1) := by decide +kernel
theorem dL_ofOrder_1 : decode cL_ofOrder 1 = .ok (.iconst 0, 1) := by decide +kernel
theorem dL_ofOrder_2 : decode cL_ofOrder 2 = .ok (.aload_n 0, 1) := by decide +kernel
theorem dL_ofOrder_3 : decode cL_ofOrder 3 = .ok (.iload_n 1, 1) := by decide +kernel
theorem dL_ofOrder_4 : decode cL_ofOrder 4 = .ok (.iload_n 2, 1) := by decide +kernel
theorem dL_ofOrder_5 : decode cL_ofOrder 5 = .ok (.invokevirtual 57, 3) := by decide +kernel
theorem dL_ofOrder_13 : decode cL_ofOrder 13 = .ok (.astore 4, 2) := by decide +kernel
theorem dL_ofOrder_15 : decode cL_ofOrder 15 = .ok (.iconst 1, 1) := by decide +kernel
theorem dL_ofOrder_16 : decode cL_ofOrder 16 = .ok (.ireturn, 1) := by decide +kernel
theorem dL_reserved_0 : decode cL_reserved 0 = .ok (.aload_n 3, 1) := by decide +kernel
theorem dL_reserved_1 : decode cL_reserved 1 = .ok (.iconst 0, 1) := by decide +kernel
theorem dL_reserved_2 : decode cL_reserved 2 = .ok (.aload_n 0, 1) := by decide +kernel
theorem dL_reserved_3 : decode cL_reserved 3 = .ok (.iload_n 1, 1) := by decide +kernel
theorem dL_reserved_4 : decode cL_reserved 4 = .ok (.iload_n 2, 1) := by decide +kernel
theorem dL_reserved_5 : decode cL_reserved 5 = .ok (.invokevirtual 60, 3) := by decide +kernel
theorem dL_reserved_13 : decode cL_reserved 13 = .ok (.astore 4, 2) := by decide +kernel
theorem dL_reserved_15 : decode cL_reserved 15 = .ok (.iconst 1, 1) := by decide +kernel
theorem dL_reserved_16 : decode cL_reserved 16 = .ok (.ireturn, 1) := by decide +kernel
theorem dL_ofTransport_0 : decode cL_ofTransport 0 = .ok (.aload_n 3, 1) := by decide +kernel
theorem dL_ofTransport_1 : decode cL_ofTransport 1 = .ok (.iconst 0, 1) := by decide +kernel
theorem dL_ofTransport_2 : decode cL_ofTransport 2 = .ok (.aload_n 0, 1) := by decide +kernel
theorem dL_ofTransport_3 : decode cL_ofTransport 3 = .ok (.iload_n 1, 1) := by decide +kernel
theorem dL_ofTransport_4 : decode cL_ofTransport 4 = .ok (.iload_n 2, 1) := by decide +kernel
theorem dL_ofTransport_5 : decode cL_ofTransport 5 = .ok (.invokevirtual 63, 3) := by decide +kernel
theorem dL_ofTransport_13 : decode cL_ofTransport 13 = .ok (.astore 4, 2) := by decide +kernel
theorem dL_ofTransport_15 : decode cL_ofTransport 15 = .ok (.iconst 1, 1) := by decide +kernel
theorem dL_ofTransport_16 : decode cL_ofTransport 16 = .ok (.ireturn, 1) := by decide +kernel
theorem dL_route_0 : decode cL_route 0 = .ok (.aload_n 3, 1) := by decide +kernel
theorem dL_route_1 : decode cL_route 1 = .ok (.iconst 0, 1) := by decide +kernel
theorem dL_route_2 : decode cL_route 2 = .ok (.aload_n 0, 1) := by decide +kernel
theorem dL_route_3 : decode cL_route 3 = .ok (.iload_n 1, 1) := by decide +kernel
theorem dL_route_4 : decode cL_route 4 = .ok (.iload_n 2, 1) := by decide +kernel
theorem dL_route_5 : decode cL_route 5 = .ok (.invokevirtual 66, 3) := by decide +kernel
theorem dL_route_13 : decode cL_route 13 = .ok (.astore 4, 2) := by decide +kernel
theorem dL_route_15 : decode cL_route 15 = .ok (.iconst 1, 1) := by decide +kernel
theorem dL_route_16 : decode cL_route 16 = .ok (.ireturn, 1) := by decide +kernel
theorem dL_hasPolicy_0 : decode cL_hasPolicy 0 = .ok (.aload_n 3, 1) := by decide +kernel
theorem dL_hasPolicy_1 : decode cL_hasPolicy 1 = .ok (.iconst 0, 1) := by decide +kernel
theorem dL_hasPolicy_2 : decode cL_hasPolicy 2 = .ok (.aload_n 0, 1) := by decide +kernel
theorem dL_hasPolicy_3 : decode cL_hasPolicy 3 = .ok (.iload_n 1, 1) := by decide +kernel
theorem dL_hasPolicy_4 : decode cL_hasPolicy 4 = .ok (.iload_n 2, 1) := by decide +kernel
theorem dL_hasPolicy_5 : decode cL_hasPolicy 5 = .ok (.invokevirtual 69, 3) := by decide +kernel
theorem dL_hasPolicy_20 : decode cL_hasPolicy 20 = .ok (.astore 4, 2) := by decide +kernel
theorem dL_hasPolicy_22 : decode cL_hasPolicy 22 = .ok (.iconst 1, 1) := by decide +kernel
theorem dL_hasPolicy_23 : decode cL_hasPolicy 23 = .ok (.ireturn, 1) := by decide +kernel
theorem dL_onHand_0 : decode cL_onHand 0 = .ok (.aload_n 3, 1) := by decide +kernel
theorem dL_onHand_1 : decode cL_onHand 1 = .ok (.iconst 0, 1) := by decide +kernel
theorem dL_onHand_2 : decode cL_onHand 2 = .ok (.aload_n 0, 1) := by decide +kernel
theorem dL_onHand_3 : decode cL_onHand 3 = .ok (.iload_n 1, 1) := by decide +kernel
theorem dL_onHand_4 : decode cL_onHand 4 = .ok (.iload_n 2, 1) := by decide +kernel
theorem dL_onHand_5 : decode cL_onHand 5 = .ok (.invokevirtual 73, 3) := by decide +kernel
theorem dL_onHand_13 : decode cL_onHand 13 = .ok (.astore 4, 2) := by decide +kernel
theorem dL_onHand_15 : decode cL_onHand 15 = .ok (.iconst 1, 1) := by decide +kernel
theorem dL_onHand_16 : decode cL_onHand 16 = .ok (.ireturn, 1) := by decide +kernel
theorem dL_free_0 : decode cL_free 0 = .ok (.aload_n 3, 1) := by decide +kernel
theorem dL_free_1 : decode cL_free 1 = .ok (.iconst 0, 1) := by decide +kernel
theorem dL_free_2 : decode cL_free 2 = .ok (.aload_n 0, 1) := by decide +kernel
theorem dL_free_3 : decode cL_free 3 = .ok (.iload_n 1, 1) := by decide +kernel
theorem dL_free_4 : decode cL_free 4 = .ok (.iload_n 2, 1) := by decide +kernel
theorem dL_free_5 : decode cL_free 5 = .ok (.invokevirtual 76, 3) := by decide +kernel
theorem dL_free_13 : decode cL_free 13 = .ok (.astore 4, 2) := by decide +kernel
theorem dL_free_15 : decode cL_free 15 = .ok (.iconst 1, 1) := by decide +kernel
theorem dL_free_16 : decode cL_free 16 = .ok (.ireturn, 1) := by decide +kernel
theorem dL_underWay_0 : decode cL_underWay 0 = .ok (.aload_n 3, 1) := by decide +kernel
theorem dL_underWay_1 : decode cL_underWay 1 = .ok (.iconst 0, 1) := by decide +kernel
theorem dL_underWay_2 : decode cL_underWay 2 = .ok (.aload_n 0, 1) := by decide +kernel
theorem dL_underWay_3 : decode cL_underWay 3 = .ok (.iload_n 1, 1) := by decide +kernel
theorem dL_underWay_4 : decode cL_underWay 4 = .ok (.iload_n 2, 1) := by decide +kernel
theorem dL_underWay_5 : decode cL_underWay 5 = .ok (.invokevirtual 79, 3) := by decide +kernel
theorem dL_underWay_13 : decode cL_underWay 13 = .ok (.astore 4, 2) := by decide +kernel
theorem dL_underWay_15 : decode cL_underWay 15 = .ok (.iconst 1, 1) := by decide +kernel
theorem dL_underWay_16 : decode cL_underWay 16 = .ok (.ireturn, 1) := by decide +kernel
theorem dL_position_0 : decode cL_position 0 = .ok (.aload_n 3, 1) := by decide +kernel
theorem dL_position_1 : decode cL_position 1 = .ok (.iconst 0, 1) := by decide +kernel
theorem dL_position_2 : decode cL_position 2 = .ok (.aload_n 0, 1) := by decide +kernel
theorem dL_position_3 : decode cL_position 3 = .ok (.iload_n 1, 1) := by decide +kernel
theorem dL_position_4 : decode cL_position 4 = .ok (.iload_n 2, 1) := by decide +kernel
theorem dL_position_5 : decode cL_position 5 = .ok (.invokevirtual 82, 3) := by decide +kernel
theorem dL_position_13 : decode cL_position 13 = .ok (.astore 4, 2) := by decide +kernel
theorem dL_position_15 : decode cL_position 15 = .ok (.iconst 1, 1) := by decide +kernel
theorem dL_position_16 : decode cL_position 16 = .ok (.ireturn, 1) := by decide +kernel
theorem dL_roomLeft_0 : decode cL_roomLeft 0 = .ok (.aload_n 2, 1) := by decide +kernel
theorem dL_roomLeft_1 : decode cL_roomLeft 1 = .ok (.iconst 0, 1) := by decide +kernel
theorem dL_roomLeft_2 : decode cL_roomLeft 2 = .ok (.aload_n 0, 1) := by decide +kernel
theorem dL_roomLeft_3 : decode cL_roomLeft 3 = .ok (.iload_n 1, 1) := by decide +kernel
theorem dL_roomLeft_4 : decode cL_roomLeft 4 = .ok (.invokevirtual 85, 3) := by decide +kernel
theorem dL_roomLeft_12 : decode cL_roomLeft 12 = .ok (.astore_n 3, 1) := by decide +kernel
theorem dL_roomLeft_13 : decode cL_roomLeft 13 = .ok (.iconst 1, 1) := by decide +kernel
theorem dL_roomLeft_14 : decode cL_roomLeft 14 = .ok (.ireturn, 1) := by decide +kernel
theorem dL_expiring_0 : decode cL_expiring 0 = .ok (.aload 4, 2) := by decide +kernel
theorem dL_expiring_2 : decode cL_expiring 2 = .ok (.iconst 0, 1) := by decide +kernel
theorem dL_expiring_3 : decode cL_expiring 3 = .ok (.aload_n 0, 1) := by decide +kernel
theorem dL_expiring_4 : decode cL_expiring 4 = .ok (.iload_n 1, 1) := by decide +kernel
theorem dL_expiring_5 : decode cL_expiring 5 = .ok (.iload_n 2, 1) := by decide +kernel
theorem dL_expiring_6 : decode cL_expiring 6 = .ok (.iload_n 3, 1) := by decide +kernel
theorem dL_expiring_7 : decode cL_expiring 7 = .ok (.invokevirtual 88, 3) := by decide +kernel
theorem dL_expiring_15 : decode cL_expiring 15 = .ok (.astore 5, 2) := by decide +kernel
theorem dL_expiring_17 : decode cL_expiring 17 = .ok (.iconst 1, 1) := by decide +kernel
theorem dL_expiring_18 : decode cL_expiring 18 = .ok (.ireturn, 1) := by decide +kernel
theorem dL_couldTake_0 : decode cL_couldTake 0 = .ok (.aload 4, 2) := by decide +kernel
theorem dL_couldTake_2 : decode cL_couldTake 2 = .ok (.iconst 0, 1) := by decide +kernel
theorem dL_couldTake_3 : decode cL_couldTake 3 = .ok (.aload_n 0, 1) := by decide +kernel
theorem dL_couldTake_4 : decode cL_couldTake 4 = .ok (.iload_n 1, 1) := by decide +kernel
theorem dL_couldTake_5 : decode cL_couldTake 5 = .ok (.iload_n 2, 1) := by decide +kernel
theorem dL_couldTake_6 : decode cL_couldTake 6 = .ok (.iload_n 3, 1) := by decide +kernel
theorem dL_couldTake_7 : decode cL_couldTake 7 = .ok (.invokevirtual 91, 3) := by decide +kernel
theorem dL_couldTake_22 : decode cL_couldTake 22 = .ok (.astore 5, 2) := by decide +kernel
theorem dL_couldTake_24 : decode cL_couldTake 24 = .ok (.iconst 1, 1) := by decide +kernel
theorem dL_couldTake_25 : decode cL_couldTake 25 = .ok (.ireturn, 1) := by decide +kernel
theorem dL_rate_0 : decode cL_rate 0 = .ok (.aload 4, 2) := by decide +kernel
theorem dL_rate_2 : decode cL_rate 2 = .ok (.iconst 0, 1) := by decide +kernel
theorem dL_rate_3 : decode cL_rate 3 = .ok (.aload_n 0, 1) := by decide +kernel
theorem dL_rate_4 : decode cL_rate 4 = .ok (.iload_n 1, 1) := by decide +kernel
theorem dL_rate_5 : decode cL_rate 5 = .ok (.iload_n 2, 1) := by decide +kernel
theorem dL_rate_6 : decode cL_rate 6 = .ok (.iload_n 3, 1) := by decide +kernel
theorem dL_rate_7 : decode cL_rate 7 = .ok (.invokevirtual 98, 3) := by decide +kernel
theorem dL_rate_15 : decode cL_rate 15 = .ok (.astore 5, 2) := by decide +kernel
theorem dL_rate_17 : decode cL_rate 17 = .ok (.iconst 1, 1) := by decide +kernel
theorem dL_rate_18 : decode cL_rate 18 = .ok (.ireturn, 1) := by decide +kernel
theorem dL_pointFor_0 : decode cL_pointFor 0 = .ok (.aload 5, 2) := by decide +kernel
theorem dL_pointFor_2 : decode cL_pointFor 2 = .ok (.iconst 0, 1) := by decide +kernel
theorem dL_pointFor_3 : decode cL_pointFor 3 = .ok (.aload_n 0, 1) := by decide +kernel
theorem dL_pointFor_4 : decode cL_pointFor 4 = .ok (.iload_n 1, 1) := by decide +kernel
theorem dL_pointFor_5 : decode cL_pointFor 5 = .ok (.iload_n 2, 1) := by decide +kernel
theorem dL_pointFor_6 : decode cL_pointFor 6 = .ok (.iload_n 3, 1) := by decide +kernel
theorem dL_pointFor_7 : decode cL_pointFor 7 = .ok (.iload 4, 2) := by decide +kernel
theorem dL_pointFor_9 : decode cL_pointFor 9 = .ok (.invokevirtual 101, 3) := by decide +kernel
theorem dL_pointFor_17 : decode cL_pointFor 17 = .ok (.astore 6, 2) := by decide +kernel
theorem dL_pointFor_19 : decode cL_pointFor 19 = .ok (.iconst 1, 1) := by decide +kernel
theorem dL_pointFor_20 : decode cL_pointFor 20 = .ok (.ireturn, 1) := by decide +kernel
theorem dL_classOf_0 : decode cL_classOf 0 = .ok (.aload_n 2, 1) := by decide +kernel
theorem dL_classOf_1 : decode cL_classOf 1 = .ok (.iconst 0, 1) := by decide +kernel
theorem dL_classOf_2 : decode cL_classOf 2 = .ok (.aload_n 0, 1) := by decide +kernel
theorem dL_classOf_3 : decode cL_classOf 3 = .ok (.iload_n 1, 1) := by decide +kernel
theorem dL_classOf_4 : decode cL_classOf 4 = .ok (.invokevirtual 104, 3) := by decide +kernel
theorem dL_classOf_12 : decode cL_classOf 12 = .ok (.astore_n 3, 1) := by decide +kernel
theorem dL_classOf_13 : decode cL_classOf 13 = .ok (.iconst 1, 1) := by decide +kernel
theorem dL_classOf_14 : decode cL_classOf 14 = .ok (.ireturn, 1) := by decide +kernel
theorem dL_lacks_0 : decode cL_lacks 0 = .ok (.aload_n 3, 1) := by decide +kernel
theorem dL_lacks_1 : decode cL_lacks 1 = .ok (.iconst 0, 1) := by decide +kernel
theorem dL_lacks_2 : decode cL_lacks 2 = .ok (.aload_n 0, 1) := by decide +kernel
theorem dL_lacks_3 : decode cL_lacks 3 = .ok (.iload_n 1, 1) := by decide +kernel
theorem dL_lacks_4 : decode cL_lacks 4 = .ok (.iload_n 2, 1) := by decide +kernel
theorem dL_lacks_5 : decode cL_lacks 5 = .ok (.invokevirtual 107, 3) := by decide +kernel
theorem dL_lacks_13 : decode cL_lacks 13 = .ok (.astore 4, 2) := by decide +kernel
theorem dL_lacks_15 : decode cL_lacks 15 = .ok (.iconst 1, 1) := by decide +kernel
theorem dL_lacks_16 : decode cL_lacks 16 = .ok (.ireturn, 1) := by decide +kernel
theorem dL_spares_0 : decode cL_spares 0 = .ok (.aload_n 3, 1) := by decide +kernel
theorem dL_spares_1 : decode cL_spares 1 = .ok (.iconst 0, 1) := by decide +kernel
theorem dL_spares_2 : decode cL_spares 2 = .ok (.aload_n 0, 1) := by decide +kernel
theorem dL_spares_3 : decode cL_spares 3 = .ok (.iload_n 1, 1) := by decide +kernel
theorem dL_spares_4 : decode cL_spares 4 = .ok (.iload_n 2, 1) := by decide +kernel
theorem dL_spares_5 : decode cL_spares 5 = .ok (.invokevirtual 110, 3) := by decide +kernel
theorem dL_spares_13 : decode cL_spares 13 = .ok (.astore 4, 2) := by decide +kernel
theorem dL_spares_15 : decode cL_spares 15 = .ok (.iconst 1, 1) := by decide +kernel
theorem dL_spares_16 : decode cL_spares 16 = .ok (.ireturn, 1) := by decide +kernel
theorem dL_planned_0 : decode cL_planned 0 = .ok (.aload 4, 2) := by decide +kernel
theorem dL_planned_2 : decode cL_planned 2 = .ok (.iconst 0, 1) := by decide +kernel
theorem dL_planned_3 : decode cL_planned 3 = .ok (.aload_n 0, 1) := by decide +kernel
theorem dL_planned_4 : decode cL_planned 4 = .ok (.iload_n 1, 1) := by decide +kernel
theorem dL_planned_5 : decode cL_planned 5 = .ok (.iload_n 2, 1) := by decide +kernel
theorem dL_planned_6 : decode cL_planned 6 = .ok (.iload_n 3, 1) := by decide +kernel
theorem dL_planned_7 : decode cL_planned 7 = .ok (.invokevirtual 113, 3) := by decide +kernel
theorem dL_planned_15 : decode cL_planned 15 = .ok (.astore 5, 2) := by decide +kernel
theorem dL_planned_17 : decode cL_planned 17 = .ok (.iconst 1, 1) := by decide +kernel
theorem dL_planned_18 : decode cL_planned 18 = .ok (.ireturn, 1) := by decide +kernel
theorem dL_onHandIn_0 : decode cL_onHandIn 0 = .ok (.aload 4, 2) := by decide +kernel
theorem dL_onHandIn_2 : decode cL_onHandIn 2 = .ok (.iconst 0, 1) := by decide +kernel
theorem dL_onHandIn_3 : decode cL_onHandIn 3 = .ok (.aload_n 0, 1) := by decide +kernel
theorem dL_onHandIn_4 : decode cL_onHandIn 4 = .ok (.iload_n 1, 1) := by decide +kernel
theorem dL_onHandIn_5 : decode cL_onHandIn 5 = .ok (.iload_n 2, 1) := by decide +kernel
theorem dL_onHandIn_6 : decode cL_onHandIn 6 = .ok (.iload_n 3, 1) := by decide +kernel
theorem dL_onHandIn_7 : decode cL_onHandIn 7 = .ok (.invokevirtual 116, 3) := by decide +kernel
theorem dL_onHandIn_15 : decode cL_onHandIn 15 = .ok (.astore 5, 2) := by decide +kernel
theorem dL_onHandIn_17 : decode cL_onHandIn 17 = .ok (.iconst 1, 1) := by decide +kernel
theorem dL_onHandIn_18 : decode cL_onHandIn 18 = .ok (.ireturn, 1) := by decide +kernel
theorem dL_shippedOn_0 : decode cL_shippedOn 0 = .ok (.aload_n 3, 1) := by decide +kernel
theorem dL_shippedOn_1 : decode cL_shippedOn 1 = .ok (.iconst 0, 1) := by decide +kernel
theorem dL_shippedOn_2 : decode cL_shippedOn 2 = .ok (.aload_n 0, 1) := by decide +kernel
theorem dL_shippedOn_3 : decode cL_shippedOn 3 = .ok (.iload_n 1, 1) := by decide +kernel
theorem dL_shippedOn_4 : decode cL_shippedOn 4 = .ok (.iload_n 2, 1) := by decide +kernel
theorem dL_shippedOn_5 : decode cL_shippedOn 5 = .ok (.invokevirtual 122, 3) := by decide +kernel
theorem dL_shippedOn_13 : decode cL_shippedOn 13 = .ok (.astore 4, 2) := by decide +kernel
theorem dL_shippedOn_15 : decode cL_shippedOn 15 = .ok (.iconst 1, 1) := by decide +kernel
theorem dL_shippedOn_16 : decode cL_shippedOn 16 = .ok (.ireturn, 1) := by decide +kernel
