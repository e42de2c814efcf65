theorem dX9_reserveAll_0 : decode cX9_reserveAll 0 = .ok (.aload_n 0, 1) := by decide +kernel
theorem dX9_reserveAll_1 : decode cX9_reserveAll 1 = .ok (.getfield 120, 3) := by decide +kernel
theorem dX9_reserveAll_4 : decode cX9_reserveAll 4 = .ok (.newarray .boolean, 2) := by decide +kernel
theorem dX9_reserveAll_6 : decode cX9_reserveAll 6 = .ok (.astore_n 1, 1) := by decide +kernel
theorem dX9_reserveAll_7 : decode cX9_reserveAll 7 = .ok (.iconst 0, 1) := by decide +kernel
theorem dX9_reserveAll_8 : decode cX9_reserveAll 8 = .ok (.istore_n 2, 1) := by decide +kernel
theorem dX9_reserveAll_9 : decode cX9_reserveAll 9 = .ok (.iload_n 2, 1) := by decide +kernel
theorem dX9_reserveAll_10 : decode cX9_reserveAll 10 = .ok (.aload_n 0, 1) := by decide +kernel
theorem dX9_reserveAll_11 : decode cX9_reserveAll 11 = .ok (.getfield 120, 3) := by decide +kernel
theorem dX9_reserveAll_14 : decode cX9_reserveAll 14 = .ok (.if_icmp .ge 72, 3) := by decide +kernel
theorem dX9_reserveAll_86 : decode cX9_reserveAll 86 = .ok (.return_, 1) := by decide +kernel
theorem dX9_pass_0 : decode cX9_pass 0 = .ok (.aload_n 0, 1) := by decide +kernel
theorem dX9_pass_1 : decode cX9_pass 1 = .ok (.dup, 1) := by decide +kernel
theorem dX9_pass_2 : decode cX9_pass 2 = .ok (.getfield 107, 3) := by decide +kernel
theorem dX9_pass_5 : decode cX9_pass 5 = .ok (.iconst 1, 1) := by decide +kernel
theorem dX9_pass_6 : decode cX9_pass 6 = .ok (.iadd, 1) := by decide +kernel
theorem dX9_pass_7 : decode cX9_pass 7 = .ok (.putfield 107, 3) := by decide +kernel
theorem dX9_pass_10 : decode cX9_pass 10 = .ok (.iconst 0, 1) := by decide +kernel
theorem dX9_pass_11 : decode cX9_pass 11 = .ok (.istore_n 1, 1) := by decide +kernel
theorem dX9_pass_12 : decode cX9_pass 12 = .ok (.iload_n 1, 1) := by decide +kernel
theorem dX9_pass_13 : decode cX9_pass 13 = .ok (.aload_n 0, 1) := by decide +kernel
theorem dX9_pass_14 : decode cX9_pass 14 = .ok (.getfield 117, 3) := by decide +kernel
theorem dX9_pass_17 : decode cX9_pass 17 = .ok (.if_icmp .ge 97, 3) := by decide +kernel
theorem dX9_pass_114 : decode cX9_pass 114 = .ok (.iconst 0, 1) := by decide +kernel
theorem dX9_pass_115 : decode cX9_pass 115 = .ok (.istore_n 1, 1) := by decide +kernel
theorem dX9_pass_116 : decode cX9_pass 116 = .ok (.iload_n 1, 1) := by decide +kernel
theorem dX9_pass_117 : decode cX9_pass 117 = .ok (.aload_n 0, 1) := by decide +kernel
theorem dX9_pass_118 : decode cX9_pass 118 = .ok (.getfield 123, 3) := by decide +kernel
theorem dX9_pass_121 : decode cX9_pass 121 = .ok (.if_icmp .ge 145, 3) := by decide +kernel
theorem dX9_pass_266 : decode cX9_pass 266 = .ok (.aload_n 0, 1) := by decide +kernel
theorem dX9_pass_267 : decode cX9_pass 267 = .ok (.invokevirtual 189, 3) := by decide +kernel
theorem dX9_pass_270 : decode cX9_pass 270 = .ok (.iconst 0, 1) := by decide +kernel
theorem dX9_pass_271 : decode cX9_pass 271 = .ok (.istore_n 1, 1) := by decide +kernel
theorem dX9_pass_272 : decode cX9_pass 272 = .ok (.iconst 0, 1) := by decide +kernel
theorem dX9_pass_273 : decode cX9_pass 273 = .ok (.istore_n 2, 1) := by decide +kernel
theorem dX9_pass_274 : decode cX9_pass 274 = .ok (.iload_n 2, 1) := by decide +kernel
theorem dX9_pass_275 : decode cX9_pass 275 = .ok (.aload_n 0, 1) := by decide +kernel
theorem dX9_pass_276 : decode cX9_pass 276 = .ok (.getfield 120, 3) := by decide +kernel
theorem dX9_pass_279 : decode cX9_pass 279 = .ok (.if_icmp .ge 69, 3) := by decide +kernel
theorem dX9_pass_348 : decode cX9_pass 348 = .ok (.aload_n 0, 1) := by decide +kernel
theorem dX9_pass_349 : decode cX9_pass 349 = .ok (.getfield 103, 3) := by decide +kernel
theorem dX9_pass_352 : decode cX9_pass 352 = .ok (.iconst 2, 1) := by decide +kernel
theorem dX9_pass_353 : decode cX9_pass 353 = .ok (.dup2, 1) := by decide +kernel
theorem dX9_pass_354 : decode cX9_pass 354 = .ok (.iaload, 1) := by decide +kernel
theorem dX9_pass_355 : decode cX9_pass 355 = .ok (.iload_n 1, 1) := by decide +kernel
theorem dX9_pass_356 : decode cX9_pass 356 = .ok (.iadd, 1) := by decide +kernel
theorem dX9_pass_357 : decode cX9_pass 357 = .ok (.iastore, 1) := by decide +kernel
theorem dX9_pass_358 : decode cX9_pass 358 = .ok (.iconst 0, 1) := by decide +kernel
theorem dX9_pass_359 : decode cX9_pass 359 = .ok (.istore_n 2, 1) := by decide +kernel
theorem dX9_pass_360 : decode cX9_pass 360 = .ok (.iload_n 2, 1) := by decide +kernel
theorem dX9_pass_361 : decode cX9_pass 361 = .ok (.aload_n 0, 1) := by decide +kernel
theorem dX9_pass_362 : decode cX9_pass 362 = .ok (.getfield 111, 3) := by decide +kernel
theorem dX9_pass_365 : decode cX9_pass 365 = .ok (.if_icmp .ge 31, 3) := by decide +kernel
theorem dX9_pass_396 : decode cX9_pass 396 = .ok (.iconst 0, 1) := by decide +kernel
theorem dX9_pass_397 : decode cX9_pass 397 = .ok (.istore_n 2, 1) := by decide +kernel
theorem dX9_pass_398 : decode cX9_pass 398 = .ok (.iload_n 2, 1) := by decide +kernel
theorem dX9_pass_399 : decode cX9_pass 399 = .ok (.aload_n 0, 1) := by decide +kernel
theorem dX9_pass_400 : decode cX9_pass 400 = .ok (.getfield 117, 3) := by decide +kernel
theorem dX9_pass_403 : decode cX9_pass 403 = .ok (.if_icmp .ge 36, 3) := by decide +kernel
theorem dX9_pass_439 : decode cX9_pass 439 = .ok (.iload_n 1, 1) := by decide +kernel
theorem dX9_pass_440 : decode cX9_pass 440 = .ok (.ireturn, 1) := by decide +kernel
theorem dX10_addItem_0 : decode cX10_addItem 0 = .ok (.aload_n 0, 1) := by decide +kernel
theorem dX10_addItem_1 : decode cX10_addItem 1 = .ok (.iconst 0, 1) := by decide +kernel
theorem dX10_addItem_2 : decode cX10_addItem 2 = .ok (.putfield 22, 3) := by decide +kernel
theorem dX10_addItem_5 : decode cX10_addItem 5 = .ok (.iload_n 1, 1) := by decide +kernel
theorem dX10_addItem_6 : decode cX10_addItem 6 = .ok (.iconst 1, 1) := by decide +kernel
theorem dX10_addItem_7 : decode cX10_addItem 7 = .ok (.bipush 99, 2) := by decide +kernel
theorem dX10_addItem_9 : decode cX10_addItem 9 = .ok (.invokestatic 29, 3) := by decide +kernel
theorem dX10_addItem_12 : decode cX10_addItem 12 = .ok (.ifCond .eq 23, 3) := by decide +kernel
theorem dX10_addItem_15 : decode cX10_addItem 15 = .ok (.iload_n 2, 1) := by decide +kernel
theorem dX10_addItem_16 : decode cX10_addItem 16 = .ok (.iconst 1, 1) := by decide +kernel
theorem dX10_addItem_17 : decode cX10_addItem 17 = .ok (.bipush 99, 2) := by decide +kernel
theorem dX10_addItem_19 : decode cX10_addItem 19 = .ok (.invokestatic 29, 3) := by decide +kernel
theorem dX10_addItem_22 : decode cX10_addItem 22 = .ok (.ifCond .eq 13, 3) := by decide +kernel
theorem dX10_addItem_25 : decode cX10_addItem 25 = .ok (.iload_n 3, 1) := by decide +kernel
theorem dX10_addItem_26 : decode cX10_addItem 26 = .ok (.iconst 1, 1) := by decide +kernel
theorem dX10_addItem_27 : decode cX10_addItem 27 = .ok (.bipush 20, 2) := by decide +kernel
theorem dX10_addItem_29 : decode cX10_addItem 29 = .ok (.invokestatic 29, 3) := by decide +kernel
theorem dX10_addItem_32 : decode cX10_addItem 32 = .ok (.ifCond .ne 9, 3) := by decide +kernel
theorem dX10_addItem_35 : decode cX10_addItem 35 = .ok (.aload_n 0, 1) := by decide +kernel
theorem dX10_addItem_36 : decode cX10_addItem 36 = .ok (.iconst 1, 1) := by decide +kernel
theorem dX10_addItem_37 : decode cX10_addItem 37 = .ok (.invokevirtual 43, 3) := by decide +kernel
theorem dX10_addItem_40 : decode cX10_addItem 40 = .ok (.ireturn, 1) := by decide +kernel
theorem dX10_addItem_41 : decode cX10_addItem 41 = .ok (.aload_n 0, 1) := by decide +kernel
theorem dX10_addItem_42 : decode cX10_addItem 42 = .ok (.getfield 16, 3) := by decide +kernel
theorem dX10_addItem_45 : decode cX10_addItem 45 = .ok (.getfield 26, 3) := by decide +kernel
theorem dX10_addItem_48 : decode cX10_addItem 48 = .ok (.bipush 6, 2) := by decide +kernel
theorem dX10_addItem_50 : decode cX10_addItem 50 = .ok (.if_icmp .ne 9, 3) := by decide +kernel
theorem dX10_addItem_59 : decode cX10_addItem 59 = .ok (.aload_n 0, 1) := by decide +kernel
theorem dX10_addItem_60 : decode cX10_addItem 60 = .ok (.getfield 16, 3) := by decide +kernel
theorem dX10_addItem_63 : decode cX10_addItem 63 = .ok (.getfield 47, 3) := by decide +kernel
theorem dX10_addItem_66 : decode cX10_addItem 66 = .ok (.aload_n 0, 1) := by decide +kernel
theorem dX10_addItem_67 : decode cX10_addItem 67 = .ok (.getfield 16, 3) := by decide +kernel
theorem dX10_addItem_70 : decode cX10_addItem 70 = .ok (.getfield 26, 3) := by decide +kernel
theorem dX10_addItem_73 : decode cX10_addItem 73 = .ok (.iload_n 1, 1) := by decide +kernel
theorem dX10_addItem_74 : decode cX10_addItem 74 = .ok (.iastore, 1) := by decide +kernel
theorem dX10_addItem_75 : decode cX10_addItem 75 = .ok (.aload_n 0, 1) := by decide +kernel
theorem dX10_addItem_76 : decode cX10_addItem 76 = .ok (.getfield 16, 3) := by decide +kernel
theorem dX10_addItem_79 : decode cX10_addItem 79 = .ok (.getfield 51, 3) := by decide +kernel
theorem dX10_addItem_82 : decode cX10_addItem 82 = .ok (.aload_n 0, 1) := by decide +kernel
theorem dX10_addItem_83 : decode cX10_addItem 83 = .ok (.getfield 16, 3) := by decide +kernel
theorem dX10_addItem_86 : decode cX10_addItem 86 = .ok (.getfield 26, 3) := by decide +kernel
theorem dX10_addItem_89 : decode cX10_addItem 89 = .ok (.iload_n 2, 1) := by decide +kernel
theorem dX10_addItem_90 : decode cX10_addItem 90 = .ok (.iastore, 1) := by decide +kernel
theorem dX10_addItem_91 : decode cX10_addItem 91 = .ok (.aload_n 0, 1) := by decide +kernel
theorem dX10_addItem_92 : decode cX10_addItem 92 = .ok (.getfield 16, 3) := by decide +kernel
theorem dX10_addItem_95 : decode cX10_addItem 95 = .ok (.getfield 54, 3) := by decide +kernel
theorem dX10_addItem_98 : decode cX10_addItem 98 = .ok (.aload_n 0, 1) := by decide +kernel
theorem dX10_addItem_99 : decode cX10_addItem 99 = .ok (.getfield 16, 3) := by decide +kernel
theorem dX10_addItem_102 : decode cX10_addItem 102 = .ok (.getfield 26, 3) := by decide +kernel
theorem dX10_addItem_105 : decode cX10_addItem 105 = .ok (.iload_n 3, 1) := by decide +kernel
theorem dX10_addItem_106 : decode cX10_addItem 106 = .ok (.iastore, 1) := by decide +kernel
theorem dX10_addItem_107 : decode cX10_addItem 107 = .ok (.aload_n 0, 1) := by decide +kernel
theorem dX10_addItem_108 : decode cX10_addItem 108 = .ok (.getfield 16, 3) := by decide +kernel
theorem dX10_addItem_111 : decode cX10_addItem 111 = .ok (.dup, 1) := by decide +kernel
theorem dX10_addItem_112 : decode cX10_addItem 112 = .ok (.getfield 26, 3) := by decide +kernel
theorem dX10_addItem_115 : decode cX10_addItem 115 = .ok (.dup_x1, 1) := by decide +kernel
theorem dX10_addItem_116 : decode cX10_addItem 116 = .ok (.iconst 1, 1) := by decide +kernel
theorem dX10_addItem_117 : decode cX10_addItem 117 = .ok (.iadd, 1) := by decide +kernel
theorem dX10_addItem_118 : decode cX10_addItem 118 = .ok (.putfield 26, 3) := by decide +kernel
theorem dX10_addItem_121 : decode cX10_addItem 121 = .ok (.ireturn, 1) := by decide +kernel
theorem dX10_addSite_0 : decode cX10_addSite 0 = .ok (.aload_n 0, 1) := by decide +kernel
theorem dX10_addSite_1 : decode cX10_addSite 1 = .ok (.iconst 0, 1) := by decide +kernel
theorem dX10_addSite_2 : decode cX10_addSite 2 = .ok (.putfield 22, 3) := by decide +kernel
theorem dX10_addSite_5 : decode cX10_addSite 5 = .ok (.iload_n 1, 1) := by decide +kernel
theorem dX10_addSite_6 : decode cX10_addSite 6 = .ok (.iconst 1, 1) := by decide +kernel
theorem dX10_addSite_7 : decode cX10_addSite 7 = .ok (.sipush 9999, 3) := by decide +kernel
theorem dX10_addSite_10 : decode cX10_addSite 10 = .ok (.invokestatic 29, 3) := by decide +kernel
theorem dX10_addSite_13 : decode cX10_addSite 13 = .ok (.ifCond .ne 9, 3) := by decide +kernel
theorem dX10_addSite_16 : decode cX10_addSite 16 = .ok (.aload_n 0, 1) := by decide +kernel
theorem dX10_addSite_17 : decode cX10_addSite 17 = .ok (.iconst 1, 1) := by decide +kernel
theorem dX10_addSite_18 : decode cX10_addSite 18 = .ok (.invokevirtual 43, 3) := by decide +kernel
theorem dX10_addSite_21 : decode cX10_addSite 21 = .ok (.ireturn, 1) := by decide +kernel
theorem dX10_addSite_22 : decode cX10_addSite 22 = .ok (.aload_n 0, 1) := by decide +kernel
theorem dX10_addSite_23 : decode cX10_addSite 23 = .ok (.getfield 16, 3) := by decide +kernel
theorem dX10_addSite_26 : decode cX10_addSite 26 = .ok (.getfield 33, 3) := by decide +kernel
theorem dX10_addSite_29 : decode cX10_addSite 29 = .ok (.iconst 5, 1) := by decide +kernel
theorem dX10_addSite_30 : decode cX10_addSite 30 = .ok (.if_icmp .ne 9, 3) := by decide +kernel
theorem dX10_addSite_39 : decode cX10_addSite 39 = .ok (.aload_n 0, 1) := by decide +kernel
theorem dX10_addSite_40 : decode cX10_addSite 40 = .ok (.getfield 16, 3) := by decide +kernel
theorem dX10_addSite_43 : decode cX10_addSite 43 = .ok (.getfield 57, 3) := by decide +kernel
theorem dX10_addSite_46 : decode cX10_addSite 46 = .ok (.aload_n 0, 1) := by decide +kernel
theorem dX10_addSite_47 : decode cX10_addSite 47 = .ok (.getfield 16, 3) := by decide +kernel
theorem dX10_addSite_50 : decode cX10_addSite 50 = .ok (.getfield 33, 3) := by decide +kernel
theorem dX10_addSite_53 : decode cX10_addSite 53 = .ok (.iload_n 1, 1) := by decide +kernel
theorem dX10_addSite_54 : decode cX10_addSite 54 = .ok (.iastore, 1) := by decide +kernel
theorem dX10_addSite_55 : decode cX10_addSite 55 = .ok (.aload_n 0, 1) := by decide +kernel
theorem dX10_addSite_56 : decode cX10_addSite 56 = .ok (.getfield 16, 3) := by decide +kernel
theorem dX10_addSite_59 : decode cX10_addSite 59 = .ok (.dup, 1) := by decide +kernel
theorem dX10_addSite_60 : decode cX10_addSite 60 = .ok (.getfield 33, 3) := by decide +kernel
theorem dX10_addSite_63 : decode cX10_addSite 63 = .ok (.dup_x1, 1) := by decide +kernel
theorem dX10_addSite_64 : decode cX10_addSite 64 = .ok (.iconst 1, 1) := by decide +kernel
theorem dX10_addSite_65 : decode cX10_addSite 65 = .ok (.iadd, 1) := by decide +kernel
theorem dX10_addSite_66 : decode cX10_addSite 66 = .ok (.putfield 33, 3) := by decide +kernel
theorem dX10_addSite_69 : decode cX10_addSite 69 = .ok (.ireturn, 1) := by decide +kernel
theorem dX10_reserveAnew_0 : decode cX10_reserveAnew 0 = .ok (.aload_n 0, 1) := by decide +kernel
theorem dX10_reserveAnew_1 : decode cX10_reserveAnew 1 = .ok (.iconst 0, 1) := by decide +kernel
theorem dX10_reserveAnew_2 : decode cX10_reserveAnew 2 = .ok (.putfield 22, 3) := by decide +kernel
theorem dX10_reserveAnew_5 : decode cX10_reserveAnew 5 = .ok (.iconst 0, 1) := by decide +kernel
theorem dX10_reserveAnew_6 : decode cX10_reserveAnew 6 = .ok (.istore_n 1, 1) := by decide +kernel
theorem dX10_reserveAnew_7 : decode cX10_reserveAnew 7 = .ok (.iload_n 1, 1) := by decide +kernel
theorem dX10_reserveAnew_8 : decode cX10_reserveAnew 8 = .ok (.aload_n 0, 1) := by decide +kernel
theorem dX10_reserveAnew_9 : decode cX10_reserveAnew 9 = .ok (.getfield 16, 3) := by decide +kernel
theorem dX10_reserveAnew_12 : decode cX10_reserveAnew 12 = .ok (.getfield 98, 3) := by decide +kernel
theorem dX10_reserveAnew_15 : decode cX10_reserveAnew 15 = .ok (.if_icmp .ge 30, 3) := by decide +kernel
theorem dX10_reserveAnew_45 : decode cX10_reserveAnew 45 = .ok (.aload_n 0, 1) := by decide +kernel
theorem dX10_reserveAnew_46 : decode cX10_reserveAnew 46 = .ok (.getfield 16, 3) := by decide +kernel
theorem dX10_reserveAnew_49 : decode cX10_reserveAnew 49 = .ok (.invokevirtual 135, 3) := by decide +kernel
theorem dX10_reserveAnew_52 : decode cX10_reserveAnew 52 = .ok (.iconst 0, 1) := by decide +kernel
theorem dX10_reserveAnew_53 : decode cX10_reserveAnew 53 = .ok (.istore_n 1, 1) := by decide +kernel
theorem dX10_reserveAnew_54 : decode cX10_reserveAnew 54 = .ok (.iconst 0, 1) := by decide +kernel
theorem dX10_reserveAnew_55 : decode cX10_reserveAnew 55 = .ok (.istore_n 2, 1) := by decide +kernel
theorem dX10_reserveAnew_56 : decode cX10_reserveAnew 56 = .ok (.iload_n 2, 1) := by decide +kernel
theorem dX10_reserveAnew_57 : decode cX10_reserveAnew 57 = .ok (.aload_n 0, 1) := by decide +kernel
theorem dX10_reserveAnew_58 : decode cX10_reserveAnew 58 = .ok (.getfield 16, 3) := by decide +kernel
theorem dX10_reserveAnew_61 : decode cX10_reserveAnew 61 = .ok (.getfield 98, 3) := by decide +kernel
theorem dX10_reserveAnew_64 : decode cX10_reserveAnew 64 = .ok (.if_icmp .ge 20, 3) := by decide +kernel
theorem dX10_reserveAnew_84 : decode cX10_reserveAnew 84 = .ok (.iload_n 1, 1) := by decide +kernel
theorem dX10_reserveAnew_85 : decode cX10_reserveAnew 85 = .ok (.ireturn, 1) := by decide +kernel
theorem dX10_pass_0 : decode cX10_pass 0 = .ok (.aload_n 0, 1) := by decide +kernel
theorem dX10_pass_1 : decode cX10_pass 1 = .ok (.iconst 0, 1) := by decide +kernel
theorem dX10_pass_2 : decode cX10_pass 2 = .ok (.putfield 22, 3) := by decide +kernel
theorem dX10_pass_5 : decode cX10_pass 5 = .ok (.iload_n 1, 1) := by decide +kernel
theorem dX10_pass_6 : decode cX10_pass 6 = .ok (.iconst 1, 1) := by decide +kernel
theorem dX10_pass_7 : decode cX10_pass 7 = .ok (.bipush 30, 2) := by decide +kernel
theorem dX10_pass_9 : decode cX10_pass 9 = .ok (.invokestatic 29, 3) := by decide +kernel
theorem dX10_pass_12 : decode cX10_pass 12 = .ok (.ifCond .ne 9, 3) := by decide +kernel
theorem dX10_pass_15 : decode cX10_pass 15 = .ok (.aload_n 0, 1) := by decide +kernel
theorem dX10_pass_16 : decode cX10_pass 16 = .ok (.iconst 1, 1) := by decide +kernel
theorem dX10_pass_17 : decode cX10_pass 17 = .ok (.invokevirtual 43, 3) := by decide +kernel
theorem dX10_pass_20 : decode cX10_pass 20 = .ok (.ireturn, 1) := by decide +kernel
theorem dX10_pass_21 : decode cX10_pass 21 = .ok (.iconst 0, 1) := by decide +kernel
theorem dX10_pass_22 : decode cX10_pass 22 = .ok (.istore_n 2, 1) := by decide +kernel
theorem dX10_pass_23 : decode cX10_pass 23 = .ok (.iload_n 2, 1) := by decide +kernel
theorem dX10_pass_24 : decode cX10_pass 24 = .ok (.iload_n 1, 1) := by decide +kernel
theorem dX10_pass_25 : decode cX10_pass 25 = .ok (.if_icmp .ge 17, 3) := by decide +kernel
theorem dX10_pass_28 : decode cX10_pass 28 = .ok (.aload_n 0, 1) := by decide +kernel
theorem dX10_pass_29 : decode cX10_pass 29 = .ok (.getfield 16, 3) := by decide +kernel
theorem dX10_pass_32 : decode cX10_pass 32 = .ok (.invokevirtual 144, 3) := by decide +kernel
theorem dX10_pass_35 : decode cX10_pass 35 = .ok (.pop, 1) := by decide +kernel
theorem dX10_pass_36 : decode cX10_pass 36 = .ok (.iinc 2 1, 3) := by decide +kernel
theorem dX10_pass_39 : decode cX10_pass 39 = .ok (.goto (-16), 3) := by decide +kernel
theorem dX10_pass_42 : decode cX10_pass 42 = .ok (.aload_n 0, 1) := by decide +kernel
theorem dX10_pass_43 : decode cX10_pass 43 = .ok (.getfield 16, 3) := by decide +kernel
theorem dX10_pass_46 : decode cX10_pass 46 = .ok (.getfield 91, 3) := by decide +kernel
theorem dX10_pass_49 : decode cX10_pass 49 = .ok (.ireturn, 1) := by decide +kernel
theorem dX10_account_0 : decode cX10_account 0 = .ok (.aload_n 0, 1) := by decide +kernel
theorem dX10_account_1 : decode cX10_account 1 = .ok (.iconst 0, 1) := by decide +kernel
theorem dX10_account_2 : decode cX10_account 2 = .ok (.putfield 22, 3) := by decide +kernel
theorem dX10_account_5 : decode cX10_account 5 = .ok (.iload_n 1, 1) := by decide +kernel
theorem dX10_account_6 : decode cX10_account 6 = .ok (.iconst 0, 1) := by decide +kernel
theorem dX10_account_7 : decode cX10_account 7 = .ok (.iconst 4, 1) := by decide +kernel
theorem dX10_account_8 : decode cX10_account 8 = .ok (.invokestatic 29, 3) := by decide +kernel
theorem dX10_account_11 : decode cX10_account 11 = .ok (.ifCond .eq 15, 3) := by decide +kernel
theorem dX10_account_14 : decode cX10_account 14 = .ok (.aload_n 0, 1) := by decide +kernel
theorem dX10_account_15 : decode cX10_account 15 = .ok (.getfield 16, 3) := by decide +kernel
theorem dX10_account_18 : decode cX10_account 18 = .ok (.getfield 88, 3) := by decide +kernel
theorem dX10_account_21 : decode cX10_account 21 = .ok (.iload_n 1, 1) := by decide +kernel
theorem dX10_account_22 : decode cX10_account 22 = .ok (.iaload, 1) := by decide +kernel
theorem dX10_account_23 : decode cX10_account 23 = .ok (.goto 8, 3) := by decide +kernel
theorem dX10_account_26 : decode cX10_account 26 = .ok (.aload_n 0, 1) := by decide +kernel
theorem dX10_account_27 : decode cX10_account 27 = .ok (.iconst 1, 1) := by decide +kernel
theorem dX10_account_28 : decode cX10_account 28 = .ok (.invokevirtual 43, 3) := by decide +kernel
theorem dX10_account_31 : decode cX10_account 31 = .ok (.ireturn, 1) := by decide +kernel
theorem dX10_punctuality_0 : decode cX10_punctuality 0 = .ok (.aload_n 0, 1) := by decide +kernel
theorem dX10_punctuality_1 : decode cX10_punctuality 1 = .ok (.iconst 0, 1) := by decide +kernel
theorem dX10_punctuality_2 : decode cX10_punctuality 2 = .ok (.putfield 22, 3) := by decide +kernel
theorem dX10_punctuality_5 : decode cX10_punctuality 5 = .ok (.iconst 0, 1) := by decide +kernel
theorem dX10_punctuality_6 : decode cX10_punctuality 6 = .ok (.istore_n 1, 1) := by decide +kernel
theorem dX10_punctuality_7 : decode cX10_punctuality 7 = .ok (.iconst 0, 1) := by decide +kernel
theorem dX10_punctuality_8 : decode cX10_punctuality 8 = .ok (.istore_n 2, 1) := by decide +kernel
theorem dX10_punctuality_9 : decode cX10_punctuality 9 = .ok (.iconst 0, 1) := by decide +kernel
theorem dX10_punctuality_10 : decode cX10_punctuality 10 = .ok (.istore_n 3, 1) := by decide +kernel
theorem dX10_punctuality_11 : decode cX10_punctuality 11 = .ok (.iload_n 3, 1) := by decide +kernel
theorem dX10_punctuality_12 : decode cX10_punctuality 12 = .ok (.aload_n 0, 1) := by decide +kernel
theorem dX10_punctuality_13 : decode cX10_punctuality 13 = .ok (.getfield 16, 3) := by decide +kernel
theorem dX10_punctuality_16 : decode cX10_punctuality 16 = .ok (.getfield 98, 3) := by decide +kernel
theorem dX10_punctuality_19 : decode cX10_punctuality 19 = .ok (.if_icmp .ge 57, 3) := by decide +kernel
theorem dX10_punctuality_76 : decode cX10_punctuality 76 = .ok (.iload_n 1, 1) := by decide +kernel
theorem dX10_punctuality_77 : decode cX10_punctuality 77 = .ok (.ifCond .ne 7, 3) := by decide +kernel
theorem dX10_punctuality_80 : decode cX10_punctuality 80 = .ok (.dconst 1, 1) := by decide +kernel
theorem dX10_punctuality_81 : decode cX10_punctuality 81 = .ok (.goto 8, 3) := by decide +kernel
theorem dX10_punctuality_89 : decode cX10_punctuality 89 = .ok (.dreturn, 1) := by decide +kernel
theorem dX10_digest_0 : decode cX10_digest 0 = .ok (.aload_n 0, 1) := by decide +kernel
theorem dX10_digest_1 : decode cX10_digest 1 = .ok (.iconst 0, 1) := by decide +kernel
theorem dX10_digest_2 : decode cX10_digest 2 = .ok (.putfield 22, 3) := by decide +kernel
theorem dX10_digest_5 : decode cX10_digest 5 = .ok (.ldc2_w 250, 3) := by decide +kernel
theorem dX10_digest_8 : decode cX10_digest 8 = .ok (.aload_n 0, 1) := by decide +kernel
theorem dX10_digest_9 : decode cX10_digest 9 = .ok (.getfield 16, 3) := by decide +kernel
theorem dX10_digest_12 : decode cX10_digest 12 = .ok (.getfield 91, 3) := by decide +kernel
theorem dX10_digest_15 : decode cX10_digest 15 = .ok (.i2l, 1) := by decide +kernel
theorem dX10_digest_16 : decode cX10_digest 16 = .ok (.ladd, 1) := by decide +kernel
theorem dX10_digest_17 : decode cX10_digest 17 = .ok (.ldc2_w 252, 3) := by decide +kernel
theorem dX10_digest_20 : decode cX10_digest 20 = .ok (.lmul, 1) := by decide +kernel
theorem dX10_digest_21 : decode cX10_digest 21 = .ok (.aload_n 0, 1) := by decide +kernel
theorem dX10_digest_22 : decode cX10_digest 22 = .ok (.getfield 16, 3) := by decide +kernel
theorem dX10_digest_25 : decode cX10_digest 25 = .ok (.getfield 26, 3) := by decide +kernel
theorem dX10_digest_28 : decode cX10_digest 28 = .ok (.i2l, 1) := by decide +kernel
theorem dX10_digest_29 : decode cX10_digest 29 = .ok (.ladd, 1) := by decide +kernel
theorem dX10_digest_30 : decode cX10_digest 30 = .ok (.ldc2_w 252, 3) := by decide +kernel
theorem dX10_digest_33 : decode cX10_digest 33 = .ok (.lmul, 1) := by decide +kernel
theorem dX10_digest_34 : decode cX10_digest 34 = .ok (.aload_n 0, 1) := by decide +kernel
theorem dX10_digest_35 : decode cX10_digest 35 = .ok (.getfield 16, 3) := by decide +kernel
theorem dX10_digest_38 : decode cX10_digest 38 = .ok (.getfield 33, 3) := by decide +kernel
theorem dX10_digest_41 : decode cX10_digest 41 = .ok (.i2l, 1) := by decide +kernel
theorem dX10_digest_42 : decode cX10_digest 42 = .ok (.ladd, 1) := by decide +kernel
theorem dX10_digest_43 : decode cX10_digest 43 = .ok (.ldc2_w 252, 3) := by decide +kernel
theorem dX10_digest_46 : decode cX10_digest 46 = .ok (.lmul, 1) := by decide +kernel
theorem dX10_digest_47 : decode cX10_digest 47 = .ok (.aload_n 0, 1) := by decide +kernel
theorem dX10_digest_48 : decode cX10_digest 48 = .ok (.getfield 16, 3) := by decide +kernel
theorem dX10_digest_51 : decode cX10_digest 51 = .ok (.getfield 82, 3) := by decide +kernel
theorem dX10_digest_54 : decode cX10_digest 54 = .ok (.i2l, 1) := by decide +kernel
theorem dX10_digest_55 : decode cX10_digest 55 = .ok (.ladd, 1) := by decide +kernel
theorem dX10_digest_56 : decode cX10_digest 56 = .ok (.ldc2_w 252, 3) := by decide +kernel
theorem dX10_digest_59 : decode cX10_digest 59 = .ok (.lmul, 1) := by decide +kernel
theorem dX10_digest_60 : decode cX10_digest 60 = .ok (.aload_n 0, 1) := by decide +kernel
theorem dX10_digest_61 : decode cX10_digest 61 = .ok (.getfield 16, 3) := by decide +kernel
theorem dX10_digest_64 : decode cX10_digest 64 = .ok (.getfield 98, 3) := by decide +kernel
theorem dX10_digest_67 : decode cX10_digest 67 = .ok (.i2l, 1) := by decide +kernel
theorem dX10_digest_68 : decode cX10_digest 68 = .ok (.ladd, 1) := by decide +kernel
theorem dX10_digest_69 : decode cX10_digest 69 = .ok (.lstore_n 1, 1) := by decide +kernel
theorem dX10_digest_70 : decode cX10_digest 70 = .ok (.lload_n 1, 1) := by decide +kernel
theorem dX10_digest_71 : decode cX10_digest 71 = .ok (.ldc2_w 252, 3) := by decide +kernel
theorem dX10_digest_74 : decode cX10_digest 74 = .ok (.lmul, 1) := by decide +kernel
theorem dX10_digest_75 : decode cX10_digest 75 = .ok (.aload_n 0, 1) := by decide +kernel
theorem dX10_digest_76 : decode cX10_digest 76 = .ok (.getfield 16, 3) := by decide +kernel
theorem dX10_digest_79 : decode cX10_digest 79 = .ok (.getfield 158, 3) := by decide +kernel
theorem dX10_digest_82 : decode cX10_digest 82 = .ok (.i2l, 1) := by decide +kernel
theorem dX10_digest_83 : decode cX10_digest 83 = .ok (.ladd, 1) := by decide +kernel
theorem dX10_digest_84 : decode cX10_digest 84 = .ok (.lstore_n 1, 1) := by decide +kernel
theorem dX10_digest_85 : decode cX10_digest 85 = .ok (.iconst 0, 1) := by decide +kernel
theorem dX10_digest_86 : decode cX10_digest 86 = .ok (.istore_n 3, 1) := by decide +kernel
theorem dX10_digest_87 : decode cX10_digest 87 = .ok (.iload_n 3, 1) := by decide +kernel
theorem dX10_digest_88 : decode cX10_digest 88 = .ok (.iconst 5, 1) := by decide +kernel
theorem dX10_digest_89 : decode cX10_digest 89 = .ok (.if_icmp .ge 26, 3) := by decide +kernel
theorem dX10_digest_92 : decode cX10_digest 92 = .ok (.lload_n 1, 1) := by decide +kernel
theorem dX10_digest_93 : decode cX10_digest 93 = .ok (.ldc2_w 252, 3) := by decide +kernel
theorem dX10_digest_96 : decode cX10_digest 96 = .ok (.lmul, 1) := by decide +kernel
theorem dX10_digest_97 : decode cX10_digest 97 = .ok (.aload_n 0, 1) := by decide +kernel
theorem dX10_digest_98 : decode cX10_digest 98 = .ok (.getfield 16, 3) := by decide +kernel
theorem dX10_digest_101 : decode cX10_digest 101 = .ok (.getfield 88, 3) := by decide +kernel
theorem dX10_digest_104 : decode cX10_digest 104 = .ok (.iload_n 3, 1) := by decide +kernel
theorem dX10_digest_105 : decode cX10_digest 105 = .ok (.iaload, 1) := by decide +kernel
theorem dX10_digest_106 : decode cX10_digest 106 = .ok (.i2l, 1) := by decide +kernel
theorem dX10_digest_107 : decode cX10_digest 107 = .ok (.ladd, 1) := by decide +kernel
theorem dX10_digest_108 : decode cX10_digest 108 = .ok (.lstore_n 1, 1) := by decide +kernel
theorem dX10_digest_109 : decode cX10_digest 109 = .ok (.iinc 3 1, 3) := by decide +kernel
theorem dX10_digest_112 : decode cX10_digest 112 = .ok (.goto (-25), 3) := by decide +kernel
theorem dX10_digest_115 : decode cX10_digest 115 = .ok (.iconst 0, 1) := by decide +kernel
theorem dX10_digest_116 : decode cX10_digest 116 = .ok (.istore_n 3, 1) := by decide +kernel
theorem dX10_digest_117 : decode cX10_digest 117 = .ok (.iload_n 3, 1) := by decide +kernel
theorem dX10_digest_118 : decode cX10_digest 118 = .ok (.aload_n 0, 1) := by decide +kernel
theorem dX10_digest_119 : decode cX10_digest 119 = .ok (.getfield 16, 3) := by decide +kernel
theorem dX10_digest_122 : decode cX10_digest 122 = .ok (.getfield 82, 3) := by decide +kernel
theorem dX10_digest_125 : decode cX10_digest 125 = .ok (.if_icmp .ge 39, 3) := by decide +kernel
theorem dX10_digest_164 : decode cX10_digest 164 = .ok (.iconst 0, 1) := by decide +kernel
theorem dX10_digest_165 : decode cX10_digest 165 = .ok (.istore_n 3, 1) := by decide +kernel
theorem dX10_digest_166 : decode cX10_digest 166 = .ok (.iload_n 3, 1) := by decide +kernel
theorem dX10_digest_167 : decode cX10_digest 167 = .ok (.aload_n 0, 1) := by decide +kernel
theorem dX10_digest_168 : decode cX10_digest 168 = .ok (.getfield 16, 3) := by decide +kernel
theorem dX10_digest_171 : decode cX10_digest 171 = .ok (.getfield 98, 3) := by decide +kernel
theorem dX10_digest_174 : decode cX10_digest 174 = .ok (.if_icmp .ge 111, 3) := by decide +kernel
theorem dX10_digest_285 : decode cX10_digest 285 = .ok (.iconst 0, 1) := by decide +kernel
theorem dX10_digest_286 : decode cX10_digest 286 = .ok (.istore_n 3, 1) := by decide +kernel
theorem dX10_digest_287 : decode cX10_digest 287 = .ok (.iload_n 3, 1) := by decide +kernel
theorem dX10_digest_288 : decode cX10_digest 288 = .ok (.aload_n 0, 1) := by decide +kernel
theorem dX10_digest_289 : decode cX10_digest 289 = .ok (.getfield 16, 3) := by decide +kernel
theorem dX10_digest_292 : decode cX10_digest 292 = .ok (.getfield 158, 3) := by decide +kernel
theorem dX10_digest_295 : decode cX10_digest 295 = .ok (.if_icmp .ge 40, 3) := by decide +kernel
theorem dX10_digest_335 : decode cX10_digest 335 = .ok (.iconst 0, 1) := by decide +kernel
theorem dX10_digest_336 : decode cX10_digest 336 = .ok (.istore_n 3, 1) := by decide +kernel
theorem dX10_digest_337 : decode cX10_digest 337 = .ok (.iload_n 3, 1) := by decide +kernel
theorem dX10_digest_338 : decode cX10_digest 338 = .ok (.aload_n 0, 1) := by decide +kernel
theorem dX10_digest_339 : decode cX10_digest 339 = .ok (.getfield 16, 3) := by decide +kernel
theorem dX10_digest_342 : decode cX10_digest 342 = .ok (.getfield 33, 3) := by decide +kernel
theorem dX10_digest_345 : decode cX10_digest 345 = .ok (.if_icmp .ge 52, 3) := by decide +kernel
theorem dX10_digest_397 : decode cX10_digest 397 = .ok (.iconst 0, 1) := by decide +kernel
theorem dX10_digest_398 : decode cX10_digest 398 = .ok (.istore_n 3, 1) := by decide +kernel
theorem dX10_digest_399 : decode cX10_digest 399 = .ok (.iload_n 3, 1) := by decide +kernel
theorem dX10_digest_400 : decode cX10_digest 400 = .ok (.aload_n 0, 1) := by decide +kernel
theorem dX10_digest_401 : decode cX10_digest 401 = .ok (.getfield 16, 3) := by decide +kernel
theorem dX10_digest_404 : decode cX10_digest 404 = .ok (.getfield 26, 3) := by decide +kernel
theorem dX10_digest_407 : decode cX10_digest 407 = .ok (.if_icmp .ge 177, 3) := by decide +kernel
theorem dX10_digest_584 : decode cX10_digest 584 = .ok (.iconst 0, 1) := by decide +kernel
theorem dX10_digest_585 : decode cX10_digest 585 = .ok (.istore_n 3, 1) := by decide +kernel
theorem dX10_digest_586 : decode cX10_digest 586 = .ok (.iload_n 3, 1) := by decide +kernel
theorem dX10_digest_587 : decode cX10_digest 587 = .ok (.aload_n 0, 1) := by decide +kernel
theorem dX10_digest_588 : decode cX10_digest 588 = .ok (.getfield 16, 3) := by decide +kernel
theorem dX10_digest_591 : decode cX10_digest 591 = .ok (.getfield 26, 3) := by decide +kernel
theorem dX10_digest_594 : decode cX10_digest 594 = .ok (.if_icmp .ge 102, 3) := by decide +kernel
theorem dX10_digest_696 : decode cX10_digest 696 = .ok (.iconst 0, 1) := by decide +kernel
theorem dX10_digest_697 : decode cX10_digest 697 = .ok (.istore_n 3, 1) := by decide +kernel
theorem dX10_digest_698 : decode cX10_digest 698 = .ok (.iload_n 3, 1) := by decide +kernel
theorem dX10_digest_699 : decode cX10_digest 699 = .ok (.aload_n 0, 1) := by decide +kernel
theorem dX10_digest_700 : decode cX10_digest 700 = .ok (.getfield 16, 3) := by decide +kernel
theorem dX10_digest_703 : decode cX10_digest 703 = .ok (.getfield 33, 3) := by decide +kernel
theorem dX10_digest_706 : decode cX10_digest 706 = .ok (.if_icmp .ge 25, 3) := by decide +kernel
theorem dX10_digest_731 : decode cX10_digest 731 = .ok (.lload_n 1, 1) := by decide +kernel
theorem dX10_digest_732 : decode cX10_digest 732 = .ok (.lreturn, 1) := by decide +kernel
