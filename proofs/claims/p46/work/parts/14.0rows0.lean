theorem dX8_mixCounts_0 : decode cX8_mixCounts 0 = .ok (.lload_n 1, 1) := by decide +kernel
theorem dX8_mixCounts_1 : decode cX8_mixCounts 1 = .ok (.aload_n 0, 1) := by decide +kernel
theorem dX8_mixCounts_2 : decode cX8_mixCounts 2 = .ok (.getfield 10, 3) := by decide +kernel
theorem dX8_mixCounts_5 : decode cX8_mixCounts 5 = .ok (.getfield 125, 3) := by decide +kernel
theorem dX8_mixCounts_8 : decode cX8_mixCounts 8 = .ok (.i2l, 1) := by decide +kernel
theorem dX8_mixCounts_9 : decode cX8_mixCounts 9 = .ok (.invokestatic 281, 3) := by decide +kernel
theorem dX8_mixCounts_12 : decode cX8_mixCounts 12 = .ok (.lstore_n 3, 1) := by decide +kernel
theorem dX8_mixCounts_13 : decode cX8_mixCounts 13 = .ok (.lload_n 3, 1) := by decide +kernel
theorem dX8_mixCounts_14 : decode cX8_mixCounts 14 = .ok (.aload_n 0, 1) := by decide +kernel
theorem dX8_mixCounts_15 : decode cX8_mixCounts 15 = .ok (.getfield 10, 3) := by decide +kernel
theorem dX8_mixCounts_18 : decode cX8_mixCounts 18 = .ok (.getfield 30, 3) := by decide +kernel
theorem dX8_mixCounts_21 : decode cX8_mixCounts 21 = .ok (.getfield 34, 3) := by decide +kernel
theorem dX8_mixCounts_24 : decode cX8_mixCounts 24 = .ok (.i2l, 1) := by decide +kernel
theorem dX8_mixCounts_25 : decode cX8_mixCounts 25 = .ok (.invokestatic 281, 3) := by decide +kernel
theorem dX8_mixCounts_28 : decode cX8_mixCounts 28 = .ok (.lstore_n 3, 1) := by decide +kernel
theorem dX8_mixCounts_29 : decode cX8_mixCounts 29 = .ok (.lload_n 3, 1) := by decide +kernel
theorem dX8_mixCounts_30 : decode cX8_mixCounts 30 = .ok (.aload_n 0, 1) := by decide +kernel
theorem dX8_mixCounts_31 : decode cX8_mixCounts 31 = .ok (.getfield 10, 3) := by decide +kernel
theorem dX8_mixCounts_34 : decode cX8_mixCounts 34 = .ok (.getfield 48, 3) := by decide +kernel
theorem dX8_mixCounts_37 : decode cX8_mixCounts 37 = .ok (.getfield 52, 3) := by decide +kernel
theorem dX8_mixCounts_40 : decode cX8_mixCounts 40 = .ok (.i2l, 1) := by decide +kernel
theorem dX8_mixCounts_41 : decode cX8_mixCounts 41 = .ok (.invokestatic 281, 3) := by decide +kernel
theorem dX8_mixCounts_44 : decode cX8_mixCounts 44 = .ok (.lstore_n 3, 1) := by decide +kernel
theorem dX8_mixCounts_45 : decode cX8_mixCounts 45 = .ok (.lload_n 3, 1) := by decide +kernel
theorem dX8_mixCounts_46 : decode cX8_mixCounts 46 = .ok (.aload_n 0, 1) := by decide +kernel
theorem dX8_mixCounts_47 : decode cX8_mixCounts 47 = .ok (.getfield 10, 3) := by decide +kernel
theorem dX8_mixCounts_50 : decode cX8_mixCounts 50 = .ok (.getfield 109, 3) := by decide +kernel
theorem dX8_mixCounts_53 : decode cX8_mixCounts 53 = .ok (.getfield 113, 3) := by decide +kernel
theorem dX8_mixCounts_56 : decode cX8_mixCounts 56 = .ok (.i2l, 1) := by decide +kernel
theorem dX8_mixCounts_57 : decode cX8_mixCounts 57 = .ok (.invokestatic 281, 3) := by decide +kernel
theorem dX8_mixCounts_60 : decode cX8_mixCounts 60 = .ok (.lstore_n 3, 1) := by decide +kernel
theorem dX8_mixCounts_61 : decode cX8_mixCounts 61 = .ok (.lload_n 3, 1) := by decide +kernel
theorem dX8_mixCounts_62 : decode cX8_mixCounts 62 = .ok (.aload_n 0, 1) := by decide +kernel
theorem dX8_mixCounts_63 : decode cX8_mixCounts 63 = .ok (.getfield 10, 3) := by decide +kernel
theorem dX8_mixCounts_66 : decode cX8_mixCounts 66 = .ok (.getfield 131, 3) := by decide +kernel
theorem dX8_mixCounts_69 : decode cX8_mixCounts 69 = .ok (.getfield 135, 3) := by decide +kernel
theorem dX8_mixCounts_72 : decode cX8_mixCounts 72 = .ok (.i2l, 1) := by decide +kernel
theorem dX8_mixCounts_73 : decode cX8_mixCounts 73 = .ok (.invokestatic 281, 3) := by decide +kernel
theorem dX8_mixCounts_76 : decode cX8_mixCounts 76 = .ok (.lstore_n 3, 1) := by decide +kernel
theorem dX8_mixCounts_77 : decode cX8_mixCounts 77 = .ok (.lload_n 3, 1) := by decide +kernel
theorem dX8_mixCounts_78 : decode cX8_mixCounts 78 = .ok (.aload_n 0, 1) := by decide +kernel
theorem dX8_mixCounts_79 : decode cX8_mixCounts 79 = .ok (.getfield 10, 3) := by decide +kernel
theorem dX8_mixCounts_82 : decode cX8_mixCounts 82 = .ok (.getfield 183, 3) := by decide +kernel
theorem dX8_mixCounts_85 : decode cX8_mixCounts 85 = .ok (.getfield 187, 3) := by decide +kernel
theorem dX8_mixCounts_88 : decode cX8_mixCounts 88 = .ok (.i2l, 1) := by decide +kernel
theorem dX8_mixCounts_89 : decode cX8_mixCounts 89 = .ok (.invokestatic 281, 3) := by decide +kernel
theorem dX8_mixCounts_92 : decode cX8_mixCounts 92 = .ok (.lstore_n 3, 1) := by decide +kernel
theorem dX8_mixCounts_93 : decode cX8_mixCounts 93 = .ok (.iconst 0, 1) := by decide +kernel
theorem dX8_mixCounts_94 : decode cX8_mixCounts 94 = .ok (.istore 5, 2) := by decide +kernel
theorem dX8_mixCounts_96 : decode cX8_mixCounts 96 = .ok (.iload 5, 2) := by decide +kernel
theorem dX8_mixCounts_98 : decode cX8_mixCounts 98 = .ok (.iconst 5, 1) := by decide +kernel
theorem dX8_mixCounts_99 : decode cX8_mixCounts 99 = .ok (.if_icmp .ge 25, 3) := by decide +kernel
theorem dX8_mixCounts_102 : decode cX8_mixCounts 102 = .ok (.lload_n 3, 1) := by decide +kernel
theorem dX8_mixCounts_103 : decode cX8_mixCounts 103 = .ok (.aload_n 0, 1) := by decide +kernel
theorem dX8_mixCounts_104 : decode cX8_mixCounts 104 = .ok (.getfield 10, 3) := by decide +kernel
theorem dX8_mixCounts_107 : decode cX8_mixCounts 107 = .ok (.getfield 119, 3) := by decide +kernel
theorem dX8_mixCounts_110 : decode cX8_mixCounts 110 = .ok (.iload 5, 2) := by decide +kernel
theorem dX8_mixCounts_112 : decode cX8_mixCounts 112 = .ok (.iaload, 1) := by decide +kernel
theorem dX8_mixCounts_113 : decode cX8_mixCounts 113 = .ok (.i2l, 1) := by decide +kernel
theorem dX8_mixCounts_114 : decode cX8_mixCounts 114 = .ok (.invokestatic 281, 3) := by decide +kernel
theorem dX8_mixCounts_117 : decode cX8_mixCounts 117 = .ok (.lstore_n 3, 1) := by decide +kernel
theorem dX8_mixCounts_118 : decode cX8_mixCounts 118 = .ok (.iinc 5 1, 3) := by decide +kernel
theorem dX8_mixCounts_121 : decode cX8_mixCounts 121 = .ok (.goto (-25), 3) := by decide +kernel
theorem dX8_mixCounts_124 : decode cX8_mixCounts 124 = .ok (.lload_n 3, 1) := by decide +kernel
theorem dX8_mixCounts_125 : decode cX8_mixCounts 125 = .ok (.lreturn, 1) := by decide +kernel
theorem dX8_mixLots_0 : decode cX8_mixLots 0 = .ok (.lload_n 1, 1) := by decide +kernel
theorem dX8_mixLots_1 : decode cX8_mixLots 1 = .ok (.lstore_n 3, 1) := by decide +kernel
theorem dX8_mixLots_2 : decode cX8_mixLots 2 = .ok (.iconst 0, 1) := by decide +kernel
theorem dX8_mixLots_3 : decode cX8_mixLots 3 = .ok (.istore 5, 2) := by decide +kernel
theorem dX8_mixLots_5 : decode cX8_mixLots 5 = .ok (.iload 5, 2) := by decide +kernel
theorem dX8_mixLots_7 : decode cX8_mixLots 7 = .ok (.aload_n 0, 1) := by decide +kernel
theorem dX8_mixLots_8 : decode cX8_mixLots 8 = .ok (.getfield 10, 3) := by decide +kernel
theorem dX8_mixLots_11 : decode cX8_mixLots 11 = .ok (.getfield 109, 3) := by decide +kernel
theorem dX8_mixLots_14 : decode cX8_mixLots 14 = .ok (.getfield 113, 3) := by decide +kernel
theorem dX8_mixLots_17 : decode cX8_mixLots 17 = .ok (.if_icmp .ge 44, 3) := by decide +kernel
theorem dX8_mixLots_20 : decode cX8_mixLots 20 = .ok (.iconst 0, 1) := by decide +kernel
theorem dX8_mixLots_21 : decode cX8_mixLots 21 = .ok (.istore 6, 2) := by decide +kernel
theorem dX8_mixLots_23 : decode cX8_mixLots 23 = .ok (.iload 6, 2) := by decide +kernel
theorem dX8_mixLots_25 : decode cX8_mixLots 25 = .ok (.iconst 4, 1) := by decide +kernel
theorem dX8_mixLots_26 : decode cX8_mixLots 26 = .ok (.if_icmp .gt 29, 3) := by decide +kernel
theorem dX8_mixLots_29 : decode cX8_mixLots 29 = .ok (.lload_n 3, 1) := by decide +kernel
theorem dX8_mixLots_30 : decode cX8_mixLots 30 = .ok (.aload_n 0, 1) := by decide +kernel
theorem dX8_mixLots_31 : decode cX8_mixLots 31 = .ok (.getfield 10, 3) := by decide +kernel
theorem dX8_mixLots_34 : decode cX8_mixLots 34 = .ok (.getfield 109, 3) := by decide +kernel
theorem dX8_mixLots_37 : decode cX8_mixLots 37 = .ok (.iload 5, 2) := by decide +kernel
theorem dX8_mixLots_39 : decode cX8_mixLots 39 = .ok (.iload 6, 2) := by decide +kernel
theorem dX8_mixLots_41 : decode cX8_mixLots 41 = .ok (.invokevirtual 193, 3) := by decide +kernel
theorem dX8_mixLots_44 : decode cX8_mixLots 44 = .ok (.i2l, 1) := by decide +kernel
theorem dX8_mixLots_45 : decode cX8_mixLots 45 = .ok (.invokestatic 281, 3) := by decide +kernel
theorem dX8_mixLots_48 : decode cX8_mixLots 48 = .ok (.lstore_n 3, 1) := by decide +kernel
theorem dX8_mixLots_49 : decode cX8_mixLots 49 = .ok (.iinc 6 1, 3) := by decide +kernel
theorem dX8_mixLots_52 : decode cX8_mixLots 52 = .ok (.goto (-29), 3) := by decide +kernel
theorem dX8_mixLots_55 : decode cX8_mixLots 55 = .ok (.iinc 5 1, 3) := by decide +kernel
theorem dX8_mixLots_58 : decode cX8_mixLots 58 = .ok (.goto (-53), 3) := by decide +kernel
theorem dX8_mixLots_61 : decode cX8_mixLots 61 = .ok (.lload_n 3, 1) := by decide +kernel
theorem dX8_mixLots_62 : decode cX8_mixLots 62 = .ok (.lreturn, 1) := by decide +kernel
theorem dX8_mixOrders_0 : decode cX8_mixOrders 0 = .ok (.lload_n 1, 1) := by decide +kernel
theorem dX8_mixOrders_1 : decode cX8_mixOrders 1 = .ok (.lstore_n 3, 1) := by decide +kernel
theorem dX8_mixOrders_2 : decode cX8_mixOrders 2 = .ok (.iconst 0, 1) := by decide +kernel
theorem dX8_mixOrders_3 : decode cX8_mixOrders 3 = .ok (.istore 5, 2) := by decide +kernel
theorem dX8_mixOrders_5 : decode cX8_mixOrders 5 = .ok (.iload 5, 2) := by decide +kernel
theorem dX8_mixOrders_7 : decode cX8_mixOrders 7 = .ok (.aload_n 0, 1) := by decide +kernel
theorem dX8_mixOrders_8 : decode cX8_mixOrders 8 = .ok (.getfield 10, 3) := by decide +kernel
theorem dX8_mixOrders_11 : decode cX8_mixOrders 11 = .ok (.getfield 131, 3) := by decide +kernel
theorem dX8_mixOrders_14 : decode cX8_mixOrders 14 = .ok (.getfield 135, 3) := by decide +kernel
theorem dX8_mixOrders_17 : decode cX8_mixOrders 17 = .ok (.if_icmp .ge 103, 3) := by decide +kernel
theorem dX8_mixOrders_20 : decode cX8_mixOrders 20 = .ok (.iconst 0, 1) := by decide +kernel
theorem dX8_mixOrders_21 : decode cX8_mixOrders 21 = .ok (.istore 6, 2) := by decide +kernel
theorem dX8_mixOrders_23 : decode cX8_mixOrders 23 = .ok (.iload 6, 2) := by decide +kernel
theorem dX8_mixOrders_25 : decode cX8_mixOrders 25 = .ok (.iconst 4, 1) := by decide +kernel
theorem dX8_mixOrders_26 : decode cX8_mixOrders 26 = .ok (.if_icmp .gt 29, 3) := by decide +kernel
theorem dX8_mixOrders_29 : decode cX8_mixOrders 29 = .ok (.lload_n 3, 1) := by decide +kernel
theorem dX8_mixOrders_30 : decode cX8_mixOrders 30 = .ok (.aload_n 0, 1) := by decide +kernel
theorem dX8_mixOrders_31 : decode cX8_mixOrders 31 = .ok (.getfield 10, 3) := by decide +kernel
theorem dX8_mixOrders_34 : decode cX8_mixOrders 34 = .ok (.getfield 131, 3) := by decide +kernel
theorem dX8_mixOrders_37 : decode cX8_mixOrders 37 = .ok (.iload 5, 2) := by decide +kernel
theorem dX8_mixOrders_39 : decode cX8_mixOrders 39 = .ok (.iload 6, 2) := by decide +kernel
theorem dX8_mixOrders_41 : decode cX8_mixOrders 41 = .ok (.invokevirtual 196, 3) := by decide +kernel
theorem dX8_mixOrders_44 : decode cX8_mixOrders 44 = .ok (.i2l, 1) := by decide +kernel
theorem dX8_mixOrders_45 : decode cX8_mixOrders 45 = .ok (.invokestatic 281, 3) := by decide +kernel
theorem dX8_mixOrders_48 : decode cX8_mixOrders 48 = .ok (.lstore_n 3, 1) := by decide +kernel
theorem dX8_mixOrders_49 : decode cX8_mixOrders 49 = .ok (.iinc 6 1, 3) := by decide +kernel
theorem dX8_mixOrders_52 : decode cX8_mixOrders 52 = .ok (.goto (-29), 3) := by decide +kernel
theorem dX8_mixOrders_55 : decode cX8_mixOrders 55 = .ok (.iconst 0, 1) := by decide +kernel
theorem dX8_mixOrders_56 : decode cX8_mixOrders 56 = .ok (.istore 6, 2) := by decide +kernel
theorem dX8_mixOrders_58 : decode cX8_mixOrders 58 = .ok (.iload 6, 2) := by decide +kernel
theorem dX8_mixOrders_60 : decode cX8_mixOrders 60 = .ok (.aload_n 0, 1) := by decide +kernel
theorem dX8_mixOrders_61 : decode cX8_mixOrders 61 = .ok (.getfield 10, 3) := by decide +kernel
theorem dX8_mixOrders_64 : decode cX8_mixOrders 64 = .ok (.getfield 109, 3) := by decide +kernel
theorem dX8_mixOrders_67 : decode cX8_mixOrders 67 = .ok (.getfield 113, 3) := by decide +kernel
theorem dX8_mixOrders_70 : decode cX8_mixOrders 70 = .ok (.if_icmp .ge 44, 3) := by decide +kernel
theorem dX8_mixOrders_73 : decode cX8_mixOrders 73 = .ok (.aload_n 0, 1) := by decide +kernel
theorem dX8_mixOrders_74 : decode cX8_mixOrders 74 = .ok (.getfield 10, 3) := by decide +kernel
theorem dX8_mixOrders_77 : decode cX8_mixOrders 77 = .ok (.getfield 131, 3) := by decide +kernel
theorem dX8_mixOrders_80 : decode cX8_mixOrders 80 = .ok (.iload 5, 2) := by decide +kernel
theorem dX8_mixOrders_82 : decode cX8_mixOrders 82 = .ok (.iload 6, 2) := by decide +kernel
theorem dX8_mixOrders_84 : decode cX8_mixOrders 84 = .ok (.invokevirtual 197, 3) := by decide +kernel
theorem dX8_mixOrders_87 : decode cX8_mixOrders 87 = .ok (.istore 7, 2) := by decide +kernel
theorem dX8_mixOrders_89 : decode cX8_mixOrders 89 = .ok (.iload 7, 2) := by decide +kernel
theorem dX8_mixOrders_91 : decode cX8_mixOrders 91 = .ok (.ifCond .le 17, 3) := by decide +kernel
theorem dX8_mixOrders_94 : decode cX8_mixOrders 94 = .ok (.lload_n 3, 1) := by decide +kernel
theorem dX8_mixOrders_95 : decode cX8_mixOrders 95 = .ok (.iload 6, 2) := by decide +kernel
theorem dX8_mixOrders_97 : decode cX8_mixOrders 97 = .ok (.i2l, 1) := by decide +kernel
theorem dX8_mixOrders_98 : decode cX8_mixOrders 98 = .ok (.invokestatic 281, 3) := by decide +kernel
theorem dX8_mixOrders_101 : decode cX8_mixOrders 101 = .ok (.iload 7, 2) := by decide +kernel
theorem dX8_mixOrders_103 : decode cX8_mixOrders 103 = .ok (.i2l, 1) := by decide +kernel
theorem dX8_mixOrders_104 : decode cX8_mixOrders 104 = .ok (.invokestatic 281, 3) := by decide +kernel
theorem dX8_mixOrders_107 : decode cX8_mixOrders 107 = .ok (.lstore_n 3, 1) := by decide +kernel
theorem dX8_mixOrders_108 : decode cX8_mixOrders 108 = .ok (.iinc 6 1, 3) := by decide +kernel
theorem dX8_mixOrders_111 : decode cX8_mixOrders 111 = .ok (.goto (-53), 3) := by decide +kernel
theorem dX8_mixOrders_114 : decode cX8_mixOrders 114 = .ok (.iinc 5 1, 3) := by decide +kernel
theorem dX8_mixOrders_117 : decode cX8_mixOrders 117 = .ok (.goto (-112), 3) := by decide +kernel
theorem dX8_mixOrders_120 : decode cX8_mixOrders 120 = .ok (.lload_n 3, 1) := by decide +kernel
theorem dX8_mixOrders_121 : decode cX8_mixOrders 121 = .ok (.lreturn, 1) := by decide +kernel
theorem dX8_mixTransports_0 : decode cX8_mixTransports 0 = .ok (.lload_n 1, 1) := by decide +kernel
theorem dX8_mixTransports_1 : decode cX8_mixTransports 1 = .ok (.lstore_n 3, 1) := by decide +kernel
theorem dX8_mixTransports_2 : decode cX8_mixTransports 2 = .ok (.iconst 0, 1) := by decide +kernel
theorem dX8_mixTransports_3 : decode cX8_mixTransports 3 = .ok (.istore 5, 2) := by decide +kernel
theorem dX8_mixTransports_5 : decode cX8_mixTransports 5 = .ok (.iload 5, 2) := by decide +kernel
theorem dX8_mixTransports_7 : decode cX8_mixTransports 7 = .ok (.aload_n 0, 1) := by decide +kernel
theorem dX8_mixTransports_8 : decode cX8_mixTransports 8 = .ok (.getfield 10, 3) := by decide +kernel
theorem dX8_mixTransports_11 : decode cX8_mixTransports 11 = .ok (.getfield 183, 3) := by decide +kernel
theorem dX8_mixTransports_14 : decode cX8_mixTransports 14 = .ok (.getfield 187, 3) := by decide +kernel
theorem dX8_mixTransports_17 : decode cX8_mixTransports 17 = .ok (.if_icmp .ge 44, 3) := by decide +kernel
theorem dX8_mixTransports_20 : decode cX8_mixTransports 20 = .ok (.iconst 0, 1) := by decide +kernel
theorem dX8_mixTransports_21 : decode cX8_mixTransports 21 = .ok (.istore 6, 2) := by decide +kernel
theorem dX8_mixTransports_23 : decode cX8_mixTransports 23 = .ok (.iload 6, 2) := by decide +kernel
theorem dX8_mixTransports_25 : decode cX8_mixTransports 25 = .ok (.iconst 5, 1) := by decide +kernel
theorem dX8_mixTransports_26 : decode cX8_mixTransports 26 = .ok (.if_icmp .gt 29, 3) := by decide +kernel
theorem dX8_mixTransports_29 : decode cX8_mixTransports 29 = .ok (.lload_n 3, 1) := by decide +kernel
theorem dX8_mixTransports_30 : decode cX8_mixTransports 30 = .ok (.aload_n 0, 1) := by decide +kernel
theorem dX8_mixTransports_31 : decode cX8_mixTransports 31 = .ok (.getfield 10, 3) := by decide +kernel
theorem dX8_mixTransports_34 : decode cX8_mixTransports 34 = .ok (.getfield 183, 3) := by decide +kernel
theorem dX8_mixTransports_37 : decode cX8_mixTransports 37 = .ok (.iload 5, 2) := by decide +kernel
theorem dX8_mixTransports_39 : decode cX8_mixTransports 39 = .ok (.iload 6, 2) := by decide +kernel
theorem dX8_mixTransports_41 : decode cX8_mixTransports 41 = .ok (.invokevirtual 207, 3) := by decide +kernel
theorem dX8_mixTransports_44 : decode cX8_mixTransports 44 = .ok (.i2l, 1) := by decide +kernel
theorem dX8_mixTransports_45 : decode cX8_mixTransports 45 = .ok (.invokestatic 281, 3) := by decide +kernel
theorem dX8_mixTransports_48 : decode cX8_mixTransports 48 = .ok (.lstore_n 3, 1) := by decide +kernel
theorem dX8_mixTransports_49 : decode cX8_mixTransports 49 = .ok (.iinc 6 1, 3) := by decide +kernel
theorem dX8_mixTransports_52 : decode cX8_mixTransports 52 = .ok (.goto (-29), 3) := by decide +kernel
theorem dX8_mixTransports_55 : decode cX8_mixTransports 55 = .ok (.iinc 5 1, 3) := by decide +kernel
theorem dX8_mixTransports_58 : decode cX8_mixTransports 58 = .ok (.goto (-53), 3) := by decide +kernel
theorem dX8_mixTransports_61 : decode cX8_mixTransports 61 = .ok (.lload_n 3, 1) := by decide +kernel
theorem dX8_mixTransports_62 : decode cX8_mixTransports 62 = .ok (.lreturn, 1) := by decide +kernel
theorem dX8_mixRoutes_0 : decode cX8_mixRoutes 0 = .ok (.lload_n 1, 1) := by decide +kernel
theorem dX8_mixRoutes_1 : decode cX8_mixRoutes 1 = .ok (.lstore_n 3, 1) := by decide +kernel
theorem dX8_mixRoutes_2 : decode cX8_mixRoutes 2 = .ok (.iconst 0, 1) := by decide +kernel
theorem dX8_mixRoutes_3 : decode cX8_mixRoutes 3 = .ok (.istore 5, 2) := by decide +kernel
theorem dX8_mixRoutes_5 : decode cX8_mixRoutes 5 = .ok (.iload 5, 2) := by decide +kernel
theorem dX8_mixRoutes_7 : decode cX8_mixRoutes 7 = .ok (.aload_n 0, 1) := by decide +kernel
theorem dX8_mixRoutes_8 : decode cX8_mixRoutes 8 = .ok (.getfield 10, 3) := by decide +kernel
theorem dX8_mixRoutes_11 : decode cX8_mixRoutes 11 = .ok (.getfield 48, 3) := by decide +kernel
theorem dX8_mixRoutes_14 : decode cX8_mixRoutes 14 = .ok (.getfield 52, 3) := by decide +kernel
theorem dX8_mixRoutes_17 : decode cX8_mixRoutes 17 = .ok (.if_icmp .ge 53, 3) := by decide +kernel
theorem dX8_mixRoutes_20 : decode cX8_mixRoutes 20 = .ok (.iconst 0, 1) := by decide +kernel
theorem dX8_mixRoutes_21 : decode cX8_mixRoutes 21 = .ok (.istore 6, 2) := by decide +kernel
theorem dX8_mixRoutes_23 : decode cX8_mixRoutes 23 = .ok (.iload 6, 2) := by decide +kernel
theorem dX8_mixRoutes_25 : decode cX8_mixRoutes 25 = .ok (.aload_n 0, 1) := by decide +kernel
theorem dX8_mixRoutes_26 : decode cX8_mixRoutes 26 = .ok (.getfield 10, 3) := by decide +kernel
theorem dX8_mixRoutes_29 : decode cX8_mixRoutes 29 = .ok (.getfield 48, 3) := by decide +kernel
theorem dX8_mixRoutes_32 : decode cX8_mixRoutes 32 = .ok (.getfield 52, 3) := by decide +kernel
theorem dX8_mixRoutes_35 : decode cX8_mixRoutes 35 = .ok (.if_icmp .ge 29, 3) := by decide +kernel
theorem dX8_mixRoutes_38 : decode cX8_mixRoutes 38 = .ok (.lload_n 3, 1) := by decide +kernel
theorem dX8_mixRoutes_39 : decode cX8_mixRoutes 39 = .ok (.aload_n 0, 1) := by decide +kernel
theorem dX8_mixRoutes_40 : decode cX8_mixRoutes 40 = .ok (.getfield 10, 3) := by decide +kernel
theorem dX8_mixRoutes_43 : decode cX8_mixRoutes 43 = .ok (.getfield 48, 3) := by decide +kernel
theorem dX8_mixRoutes_46 : decode cX8_mixRoutes 46 = .ok (.iload 5, 2) := by decide +kernel
theorem dX8_mixRoutes_48 : decode cX8_mixRoutes 48 = .ok (.iload 6, 2) := by decide +kernel
theorem dX8_mixRoutes_50 : decode cX8_mixRoutes 50 = .ok (.invokevirtual 65, 3) := by decide +kernel
theorem dX8_mixRoutes_53 : decode cX8_mixRoutes 53 = .ok (.i2l, 1) := by decide +kernel
theorem dX8_mixRoutes_54 : decode cX8_mixRoutes 54 = .ok (.invokestatic 281, 3) := by decide +kernel
theorem dX8_mixRoutes_57 : decode cX8_mixRoutes 57 = .ok (.lstore_n 3, 1) := by decide +kernel
theorem dX8_mixRoutes_58 : decode cX8_mixRoutes 58 = .ok (.iinc 6 1, 3) := by decide +kernel
theorem dX8_mixRoutes_61 : decode cX8_mixRoutes 61 = .ok (.goto (-38), 3) := by decide +kernel
theorem dX8_mixRoutes_64 : decode cX8_mixRoutes 64 = .ok (.iinc 5 1, 3) := by decide +kernel
theorem dX8_mixRoutes_67 : decode cX8_mixRoutes 67 = .ok (.goto (-62), 3) := by decide +kernel
theorem dX8_mixRoutes_70 : decode cX8_mixRoutes 70 = .ok (.lload_n 3, 1) := by decide +kernel
theorem dX8_mixRoutes_71 : decode cX8_mixRoutes 71 = .ok (.lreturn, 1) := by decide +kernel
theorem dX8_mix_0 : decode cX8_mix 0 = .ok (.lload_n 0, 1) := by decide +kernel
theorem dX8_mix_1 : decode cX8_mix 1 = .ok (.ldc2_w 285, 3) := by decide +kernel
theorem dX8_mix_4 : decode cX8_mix 4 = .ok (.lmul, 1) := by decide +kernel
theorem dX8_mix_5 : decode cX8_mix 5 = .ok (.lload_n 2, 1) := by decide +kernel
theorem dX8_mix_6 : decode cX8_mix 6 = .ok (.ladd, 1) := by decide +kernel
theorem dX8_mix_7 : decode cX8_mix 7 = .ok (.lreturn, 1) := by decide +kernel
