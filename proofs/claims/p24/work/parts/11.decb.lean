theorem dX2_refuseLeft_7 : decode cX2_refuseLeft 7 = .ok (.new 37, 3) := by decide +kernel
theorem dX2_refuseLeft_10 : decode cX2_refuseLeft 10 = .ok (.dup, 1) := by decide +kernel
theorem dX2_refuseLeft_11 : decode cX2_refuseLeft 11 = .ok (.ldc 164, 2) := by decide +kernel
theorem dX2_refuseLeft_13 : decode cX2_refuseLeft 13 = .ok (.invokespecial 41, 3) := by decide +kernel
theorem dX2_refuseLeft_16 : decode cX2_refuseLeft 16 = .ok (.athrow, 1) := by decide +kernel
theorem dX2_refuseLeft_17 : decode cX2_refuseLeft 17 = .ok (.return_, 1) := by decide +kernel
theorem dX2_isPurchaseMonth_0 : decode cX2_isPurchaseMonth 0 = .ok (.iload_n 0, 1) := by decide +kernel
theorem dX2_isPurchaseMonth_1 : decode cX2_isPurchaseMonth 1 = .ok (.bipush 6, 2) := by decide +kernel
theorem dX2_isPurchaseMonth_3 : decode cX2_isPurchaseMonth 3 = .ok (.irem, 1) := by decide +kernel
theorem dX2_isPurchaseMonth_4 : decode cX2_isPurchaseMonth 4 = .ok (.iconst 5, 1) := by decide +kernel
theorem dX2_isPurchaseMonth_5 : decode cX2_isPurchaseMonth 5 = .ok (.if_icmp .ne 7, 3) := by decide +kernel
theorem dX2_isPurchaseMonth_8 : decode cX2_isPurchaseMonth 8 = .ok (.iconst 1, 1) := by decide +kernel
theorem dX2_isPurchaseMonth_9 : decode cX2_isPurchaseMonth 9 = .ok (.goto 4, 3) := by decide +kernel
theorem dX2_isPurchaseMonth_12 : decode cX2_isPurchaseMonth 12 = .ok (.iconst 0, 1) := by decide +kernel
theorem dX2_isPurchaseMonth_13 : decode cX2_isPurchaseMonth 13 = .ok (.ireturn, 1) := by decide +kernel
theorem dX2_buyForAll_0 : decode cX2_buyForAll 0 = .ok (.iconst 0, 1) := by decide +kernel
theorem dX2_buyForAll_1 : decode cX2_buyForAll 1 = .ok (.istore_n 1, 1) := by decide +kernel
theorem dX2_buyForAll_2 : decode cX2_buyForAll 2 = .ok (.iload_n 1, 1) := by decide +kernel
theorem dX2_buyForAll_3 : decode cX2_buyForAll 3 = .ok (.aload_n 0, 1) := by decide +kernel
theorem dX2_buyForAll_4 : decode cX2_buyForAll 4 = .ok (.getfield 11, 3) := by decide +kernel
theorem dX2_buyForAll_7 : decode cX2_buyForAll 7 = .ok (.arraylength, 1) := by decide +kernel
theorem dX2_buyForAll_8 : decode cX2_buyForAll 8 = .ok (.if_icmp .ge 43, 3) := by decide +kernel
theorem dX2_buyForAll_11 : decode cX2_buyForAll 11 = .ok (.aload_n 0, 1) := by decide +kernel
theorem dX2_buyForAll_12 : decode cX2_buyForAll 12 = .ok (.getfield 11, 3) := by decide +kernel
theorem dX2_buyForAll_15 : decode cX2_buyForAll 15 = .ok (.iload_n 1, 1) := by decide +kernel
theorem dX2_buyForAll_16 : decode cX2_buyForAll 16 = .ok (.aaload, 1) := by decide +kernel
theorem dX2_buyForAll_17 : decode cX2_buyForAll 17 = .ok (.astore_n 2, 1) := by decide +kernel
theorem dX2_buyForAll_18 : decode cX2_buyForAll 18 = .ok (.aload_n 2, 1) := by decide +kernel
theorem dX2_buyForAll_19 : decode cX2_buyForAll 19 = .ok (.ifnull 26, 3) := by decide +kernel
theorem dX2_buyForAll_22 : decode cX2_buyForAll 22 = .ok (.aload_n 2, 1) := by decide +kernel
theorem dX2_buyForAll_23 : decode cX2_buyForAll 23 = .ok (.getfield 160, 3) := by decide +kernel
theorem dX2_buyForAll_26 : decode cX2_buyForAll 26 = .ok (.ifCond .ne 19, 3) := by decide +kernel
theorem dX2_buyForAll_29 : decode cX2_buyForAll 29 = .ok (.aload_n 2, 1) := by decide +kernel
theorem dX2_buyForAll_30 : decode cX2_buyForAll 30 = .ok (.aload_n 0, 1) := by decide +kernel
theorem dX2_buyForAll_31 : decode cX2_buyForAll 31 = .ok (.getfield 19, 3) := by decide +kernel
theorem dX2_buyForAll_34 : decode cX2_buyForAll 34 = .ok (.aload_n 0, 1) := by decide +kernel
theorem dX2_buyForAll_35 : decode cX2_buyForAll 35 = .ok (.getfield 22, 3) := by decide +kernel
theorem dX2_buyForAll_38 : decode cX2_buyForAll 38 = .ok (.aload_n 0, 1) := by decide +kernel
theorem dX2_buyForAll_39 : decode cX2_buyForAll 39 = .ok (.getfield 26, 3) := by decide +kernel
theorem dX2_buyForAll_42 : decode cX2_buyForAll 42 = .ok (.invokevirtual 166, 3) := by decide +kernel
theorem dX2_buyForAll_45 : decode cX2_buyForAll 45 = .ok (.iinc 1 1, 3) := by decide +kernel
theorem dX2_buyForAll_48 : decode cX2_buyForAll 48 = .ok (.goto (-46), 3) := by decide +kernel
theorem dX2_buyForAll_51 : decode cX2_buyForAll 51 = .ok (.return_, 1) := by decide +kernel
theorem dJ9_max_7cf53_0 : decode cJ9_max_7cf53 0 = .ok (.iload_n 0, 1) := by decide +kernel
theorem dJ9_max_7cf53_1 : decode cJ9_max_7cf53 1 = .ok (.iload_n 1, 1) := by decide +kernel
theorem dJ9_max_7cf53_2 : decode cJ9_max_7cf53 2 = .ok (.if_icmp .lt 7, 3) := by decide +kernel
theorem dJ9_max_7cf53_5 : decode cJ9_max_7cf53 5 = .ok (.iload_n 0, 1) := by decide +kernel
theorem dJ9_max_7cf53_6 : decode cJ9_max_7cf53 6 = .ok (.goto 4, 3) := by decide +kernel
theorem dJ9_max_7cf53_9 : decode cJ9_max_7cf53 9 = .ok (.iload_n 1, 1) := by decide +kernel
theorem dJ9_max_7cf53_10 : decode cJ9_max_7cf53 10 = .ok (.ireturn, 1) := by decide +kernel
theorem dJ9_min_7cf53_0 : decode cJ9_min_7cf53 0 = .ok (.iload_n 0, 1) := by decide +kernel
theorem dJ9_min_7cf53_1 : decode cJ9_min_7cf53 1 = .ok (.iload_n 1, 1) := by decide +kernel
theorem dJ9_min_7cf53_2 : decode cJ9_min_7cf53 2 = .ok (.if_icmp .gt 7, 3) := by decide +kernel
theorem dJ9_min_7cf53_5 : decode cJ9_min_7cf53 5 = .ok (.iload_n 0, 1) := by decide +kernel
theorem dJ9_min_7cf53_6 : decode cJ9_min_7cf53 6 = .ok (.goto 4, 3) := by decide +kernel
theorem dJ9_min_7cf53_9 : decode cJ9_min_7cf53 9 = .ok (.iload_n 1, 1) := by decide +kernel
theorem dJ9_min_7cf53_10 : decode cJ9_min_7cf53 10 = .ok (.ireturn, 1) := by decide +kernel
theorem dJ9_min_f86c9_0 : decode cJ9_min_f86c9 0 = .ok (.lload_n 0, 1) := by decide +kernel
theorem dJ9_min_f86c9_1 : decode cJ9_min_f86c9 1 = .ok (.lload_n 2, 1) := by decide +kernel
theorem dJ9_min_f86c9_2 : decode cJ9_min_f86c9 2 = .ok (.lcmp, 1) := by decide +kernel
theorem dJ9_min_f86c9_3 : decode cJ9_min_f86c9 3 = .ok (.ifCond .gt 7, 3) := by decide +kernel
theorem dJ9_min_f86c9_6 : decode cJ9_min_f86c9 6 = .ok (.lload_n 0, 1) := by decide +kernel
theorem dJ9_min_f86c9_7 : decode cJ9_min_f86c9 7 = .ok (.goto 4, 3) := by decide +kernel
theorem dJ9_min_f86c9_10 : decode cJ9_min_f86c9 10 = .ok (.lload_n 2, 1) := by decide +kernel
theorem dJ9_min_f86c9_11 : decode cJ9_min_f86c9 11 = .ok (.lreturn, 1) := by decide +kernel
theorem dL_cell_0 : decode cL_cell 0 = .ok (.iload_n 1, 1) := by decide +kernel
theorem dL_cell_1 : decode cL_cell 1 = .ok (.aload_n 0, 1) := by decide +kernel
theorem dL_cell_2 : decode cL_cell 2 = .ok (.arraylength, 1) := by decide +kernel
theorem dL_cell_3 : decode cL_cell 3 = .ok (.if_icmp .ge 9, 3) := by decide +kernel
theorem dL_cell_6 : decode cL_cell 6 = .ok (.aload_n 0, 1) := by decide +kernel
theorem dL_cell_7 : decode cL_cell 7 = .ok (.iload_n 1, 1) := by decide +kernel
theorem dL_cell_8 : decode cL_cell 8 = .ok (.iaload, 1) := by decide +kernel
theorem dL_cell_9 : decode cL_cell 9 = .ok (.goto 15, 3) := by decide +kernel
theorem dL_cell_12 : decode cL_cell 12 = .ok (.ldc2_w 7, 3) := by decide +kernel
theorem dL_cell_15 : decode cL_cell 15 = .ok (.iload_n 1, 1) := by decide +kernel
theorem dL_cell_16 : decode cL_cell 16 = .ok (.bipush 19, 2) := by decide +kernel
theorem dL_cell_18 : decode cL_cell 18 = .ok (.iadd, 1) := by decide +kernel
theorem dL_cell_19 : decode cL_cell 19 = .ok (.i2l, 1) := by decide +kernel
theorem dL_cell_20 : decode cL_cell 20 = .ok (.lmul, 1) := by decide +kernel
theorem dL_cell_21 : decode cL_cell 21 = .ok (.iconst 5, 1) := by decide +kernel
theorem dL_cell_22 : decode cL_cell 22 = .ok (.lushr, 1) := by decide +kernel
theorem dL_cell_23 : decode cL_cell 23 = .ok (.l2i, 1) := by decide +kernel
theorem dL_cell_24 : decode cL_cell 24 = .ok (.ireturn, 1) := by decide +kernel
theorem dL_some_0 : decode cL_some 0 = .ok (.iload_n 0, 1) := by decide +kernel
theorem dL_some_1 : decode cL_some 1 = .ok (.iconst 2, 1) := by decide +kernel
theorem dL_some_2 : decode cL_some 2 = .ok (.iushr, 1) := by decide +kernel
theorem dL_some_3 : decode cL_some 3 = .ok (.iload_n 1, 1) := by decide +kernel
theorem dL_some_4 : decode cL_some 4 = .ok (.irem, 1) := by decide +kernel
theorem dL_some_5 : decode cL_some 5 = .ok (.ireturn, 1) := by decide +kernel
theorem dL_counted_0 : decode cL_counted 0 = .ok (.lconst 0, 1) := by decide +kernel
theorem dL_counted_1 : decode cL_counted 1 = .ok (.lstore 5, 2) := by decide +kernel
theorem dL_counted_3 : decode cL_counted 3 = .ok (.iconst 0, 1) := by decide +kernel
theorem dL_counted_4 : decode cL_counted 4 = .ok (.istore 7, 2) := by decide +kernel
theorem dL_counted_6 : decode cL_counted 6 = .ok (.iload 7, 2) := by decide +kernel
theorem dL_counted_8 : decode cL_counted 8 = .ok (.bipush 10, 2) := by decide +kernel
theorem dL_counted_10 : decode cL_counted 10 = .ok (.if_icmp .ge 56, 3) := by decide +kernel
theorem dL_counted_13 : decode cL_counted 13 = .ok (.lload 5, 2) := by decide +kernel
theorem dL_counted_15 : decode cL_counted 15 = .ok (.bipush 6, 2) := by decide +kernel
theorem dL_counted_17 : decode cL_counted 17 = .ok (.iload 7, 2) := by decide +kernel
theorem dL_counted_19 : decode cL_counted 19 = .ok (.imul, 1) := by decide +kernel
theorem dL_counted_20 : decode cL_counted 20 = .ok (.iconst 5, 1) := by decide +kernel
theorem dL_counted_21 : decode cL_counted 21 = .ok (.iadd, 1) := by decide +kernel
theorem dL_counted_22 : decode cL_counted 22 = .ok (.bipush 12, 2) := by decide +kernel
theorem dL_counted_24 : decode cL_counted 24 = .ok (.idiv, 1) := by decide +kernel
theorem dL_counted_25 : decode cL_counted 25 = .ok (.iload 4, 2) := by decide +kernel
theorem dL_counted_27 : decode cL_counted 27 = .ok (.if_icmp .ne 29, 3) := by decide +kernel
theorem dL_counted_30 : decode cL_counted 30 = .ok (.aload_n 1, 1) := by decide +kernel
theorem dL_counted_31 : decode cL_counted 31 = .ok (.bipush 10, 2) := by decide +kernel
theorem dL_counted_33 : decode cL_counted 33 = .ok (.iload_n 3, 1) := by decide +kernel
theorem dL_counted_34 : decode cL_counted 34 = .ok (.imul, 1) := by decide +kernel
theorem dL_counted_35 : decode cL_counted 35 = .ok (.iload 7, 2) := by decide +kernel
theorem dL_counted_37 : decode cL_counted 37 = .ok (.iadd, 1) := by decide +kernel
theorem dL_counted_38 : decode cL_counted 38 = .ok (.iaload, 1) := by decide +kernel
theorem dL_counted_39 : decode cL_counted 39 = .ok (.i2l, 1) := by decide +kernel
theorem dL_counted_40 : decode cL_counted 40 = .ok (.aload_n 0, 1) := by decide +kernel
theorem dL_counted_41 : decode cL_counted 41 = .ok (.aload_n 2, 1) := by decide +kernel
theorem dL_counted_42 : decode cL_counted 42 = .ok (.bipush 10, 2) := by decide +kernel
theorem dL_counted_44 : decode cL_counted 44 = .ok (.iload_n 3, 1) := by decide +kernel
theorem dL_counted_45 : decode cL_counted 45 = .ok (.imul, 1) := by decide +kernel
theorem dL_counted_46 : decode cL_counted 46 = .ok (.iload 7, 2) := by decide +kernel
theorem dL_counted_48 : decode cL_counted 48 = .ok (.iadd, 1) := by decide +kernel
theorem dL_counted_49 : decode cL_counted 49 = .ok (.iaload, 1) := by decide +kernel
theorem dL_counted_50 : decode cL_counted 50 = .ok (.iaload, 1) := by decide +kernel
theorem dL_counted_51 : decode cL_counted 51 = .ok (.i2l, 1) := by decide +kernel
theorem dL_counted_52 : decode cL_counted 52 = .ok (.lmul, 1) := by decide +kernel
theorem dL_counted_53 : decode cL_counted 53 = .ok (.goto 4, 3) := by decide +kernel
theorem dL_counted_56 : decode cL_counted 56 = .ok (.lconst 0, 1) := by decide +kernel
theorem dL_counted_57 : decode cL_counted 57 = .ok (.ladd, 1) := by decide +kernel
theorem dL_counted_58 : decode cL_counted 58 = .ok (.lstore 5, 2) := by decide +kernel
theorem dL_counted_60 : decode cL_counted 60 = .ok (.iinc 7 1, 3) := by decide +kernel
theorem dL_counted_63 : decode cL_counted 63 = .ok (.goto (-57), 3) := by decide +kernel
theorem dL_counted_66 : decode cL_counted 66 = .ok (.lload 5, 2) := by decide +kernel
theorem dL_counted_68 : decode cL_counted 68 = .ok (.lreturn, 1) := by decide +kernel
theorem dL_buys_0 : decode cL_buys 0 = .ok (.aload_n 0, 1) := by decide +kernel
theorem dL_buys_1 : decode cL_buys 1 = .ok (.iconst 0, 1) := by decide +kernel
theorem dL_buys_2 : decode cL_buys 2 = .ok (.iaload, 1) := by decide +kernel
theorem dL_buys_3 : decode cL_buys 3 = .ok (.iconst 1, 1) := by decide +kernel
theorem dL_buys_4 : decode cL_buys 4 = .ok (.isub, 1) := by decide +kernel
theorem dL_buys_5 : decode cL_buys 5 = .ok (.istore 9, 2) := by decide +kernel
theorem dL_buys_7 : decode cL_buys 7 = .ok (.aload_n 1, 1) := by decide +kernel
theorem dL_buys_8 : decode cL_buys 8 = .ok (.aload_n 2, 1) := by decide +kernel
theorem dL_buys_9 : decode cL_buys 9 = .ok (.bipush 12, 2) := by decide +kernel
theorem dL_buys_11 : decode cL_buys 11 = .ok (.iload 8, 2) := by decide +kernel
theorem dL_buys_13 : decode cL_buys 13 = .ok (.iadd, 1) := by decide +kernel
theorem dL_buys_14 : decode cL_buys 14 = .ok (.iaload, 1) := by decide +kernel
theorem dL_buys_15 : decode cL_buys 15 = .ok (.iaload, 1) := by decide +kernel
theorem dL_buys_16 : decode cL_buys 16 = .ok (.istore 10, 2) := by decide +kernel
theorem dL_buys_18 : decode cL_buys 18 = .ok (.iconst 1, 1) := by decide +kernel
theorem dL_buys_19 : decode cL_buys 19 = .ok (.istore 11, 2) := by decide +kernel
theorem dL_buys_21 : decode cL_buys 21 = .ok (.bipush 100, 2) := by decide +kernel
theorem dL_buys_23 : decode cL_buys 23 = .ok (.iload 11, 2) := by decide +kernel
theorem dL_buys_25 : decode cL_buys 25 = .ok (.imul, 1) := by decide +kernel
theorem dL_buys_26 : decode cL_buys 26 = .ok (.bipush 85, 2) := by decide +kernel
theorem dL_buys_28 : decode cL_buys 28 = .ok (.iload 10, 2) := by decide +kernel
theorem dL_buys_30 : decode cL_buys 30 = .ok (.aload_n 1, 1) := by decide +kernel
theorem dL_buys_31 : decode cL_buys 31 = .ok (.iload 9, 2) := by decide +kernel
theorem dL_buys_33 : decode cL_buys 33 = .ok (.iaload, 1) := by decide +kernel
theorem dL_buys_34 : decode cL_buys 34 = .ok (.if_icmp .ge 8, 3) := by decide +kernel
theorem dL_buys_37 : decode cL_buys 37 = .ok (.iload 10, 2) := by decide +kernel
theorem dL_buys_39 : decode cL_buys 39 = .ok (.goto 7, 3) := by decide +kernel
theorem dL_buys_42 : decode cL_buys 42 = .ok (.aload_n 1, 1) := by decide +kernel
theorem dL_buys_43 : decode cL_buys 43 = .ok (.iload 9, 2) := by decide +kernel
theorem dL_buys_45 : decode cL_buys 45 = .ok (.iaload, 1) := by decide +kernel
theorem dL_buys_46 : decode cL_buys 46 = .ok (.imul, 1) := by decide +kernel
theorem dL_buys_47 : decode cL_buys 47 = .ok (.if_icmp .ge 9, 3) := by decide +kernel
theorem dL_buys_50 : decode cL_buys 50 = .ok (.iinc 11 1, 3) := by decide +kernel
theorem dL_buys_53 : decode cL_buys 53 = .ok (.goto (-32), 3) := by decide +kernel
theorem dL_buys_56 : decode cL_buys 56 = .ok (.bipush 10, 2) := by decide +kernel
theorem dL_buys_58 : decode cL_buys 58 = .ok (.iload 8, 2) := by decide +kernel
theorem dL_buys_60 : decode cL_buys 60 = .ok (.imul, 1) := by decide +kernel
theorem dL_buys_61 : decode cL_buys 61 = .ok (.iload 9, 2) := by decide +kernel
theorem dL_buys_63 : decode cL_buys 63 = .ok (.bipush 6, 2) := by decide +kernel
theorem dL_buys_65 : decode cL_buys 65 = .ok (.idiv, 1) := by decide +kernel
theorem dL_buys_66 : decode cL_buys 66 = .ok (.iadd, 1) := by decide +kernel
theorem dL_buys_67 : decode cL_buys 67 = .ok (.istore 12, 2) := by decide +kernel
theorem dL_buys_69 : decode cL_buys 69 = .ok (.aload 6, 2) := by decide +kernel
theorem dL_buys_71 : decode cL_buys 71 = .ok (.iload 12, 2) := by decide +kernel
theorem dL_buys_73 : decode cL_buys 73 = .ok (.aload_n 2, 1) := by decide +kernel
theorem dL_buys_74 : decode cL_buys 74 = .ok (.bipush 12, 2) := by decide +kernel
theorem dL_buys_76 : decode cL_buys 76 = .ok (.iload 8, 2) := by decide +kernel
theorem dL_buys_78 : decode cL_buys 78 = .ok (.iadd, 1) := by decide +kernel
theorem dL_buys_79 : decode cL_buys 79 = .ok (.iaload, 1) := by decide +kernel
theorem dL_buys_80 : decode cL_buys 80 = .ok (.iastore, 1) := by decide +kernel
theorem dL_buys_81 : decode cL_buys 81 = .ok (.aload_n 1, 1) := by decide +kernel
theorem dL_buys_82 : decode cL_buys 82 = .ok (.aload_n 3, 1) := by decide +kernel
theorem dL_buys_83 : decode cL_buys 83 = .ok (.aload 6, 2) := by decide +kernel
theorem dL_buys_85 : decode cL_buys 85 = .ok (.iload 8, 2) := by decide +kernel
theorem dL_buys_87 : decode cL_buys 87 = .ok (.iload 9, 2) := by decide +kernel
theorem dL_buys_89 : decode cL_buys 89 = .ok (.bipush 12, 2) := by decide +kernel
theorem dL_buys_91 : decode cL_buys 91 = .ok (.idiv, 1) := by decide +kernel
theorem dL_buys_92 : decode cL_buys 92 = .ok (.invokestatic 9, 3) := by decide +kernel
theorem dL_buys_95 : decode cL_buys 95 = .ok (.lstore 13, 2) := by decide +kernel
theorem dL_buys_97 : decode cL_buys 97 = .ok (.ldc 15, 2) := by decide +kernel
theorem dL_buys_99 : decode cL_buys 99 = .ok (.istore 15, 2) := by decide +kernel
theorem dL_buys_101 : decode cL_buys 101 = .ok (.iload 15, 2) := by decide +kernel
theorem dL_buys_103 : decode cL_buys 103 = .ok (.ifCond .le 106, 3) := by decide +kernel
theorem dL_buys_106 : decode cL_buys 106 = .ok (.aload_n 2, 1) := by decide +kernel
theorem dL_buys_107 : decode cL_buys 107 = .ok (.bipush 8, 2) := by decide +kernel
theorem dL_buys_109 : decode cL_buys 109 = .ok (.iload 8, 2) := by decide +kernel
theorem dL_buys_111 : decode cL_buys 111 = .ok (.iadd, 1) := by decide +kernel
theorem dL_buys_112 : decode cL_buys 112 = .ok (.iaload, 1) := by decide +kernel
theorem dL_buys_113 : decode cL_buys 113 = .ok (.i2l, 1) := by decide +kernel
theorem dL_buys_114 : decode cL_buys 114 = .ok (.iload 15, 2) := by decide +kernel
theorem dL_buys_116 : decode cL_buys 116 = .ok (.i2l, 1) := by decide +kernel
theorem dL_buys_117 : decode cL_buys 117 = .ok (.iload 11, 2) := by decide +kernel
theorem dL_buys_119 : decode cL_buys 119 = .ok (.i2l, 1) := by decide +kernel
theorem dL_buys_120 : decode cL_buys 120 = .ok (.lmul, 1) := by decide +kernel
theorem dL_buys_121 : decode cL_buys 121 = .ok (.lcmp, 1) := by decide +kernel
theorem dL_buys_122 : decode cL_buys 122 = .ok (.ifCond .lt 77, 3) := by decide +kernel
theorem dL_buys_125 : decode cL_buys 125 = .ok (.lload 13, 2) := by decide +kernel
theorem dL_buys_127 : decode cL_buys 127 = .ok (.iload 15, 2) := by decide +kernel
theorem dL_buys_129 : decode cL_buys 129 = .ok (.i2l, 1) := by decide +kernel
theorem dL_buys_130 : decode cL_buys 130 = .ok (.iload 10, 2) := by decide +kernel
theorem dL_buys_132 : decode cL_buys 132 = .ok (.i2l, 1) := by decide +kernel
theorem dL_buys_133 : decode cL_buys 133 = .ok (.lmul, 1) := by decide +kernel
theorem dL_buys_134 : decode cL_buys 134 = .ok (.ladd, 1) := by decide +kernel
theorem dL_buys_135 : decode cL_buys 135 = .ok (.aload_n 0, 1) := by decide +kernel
theorem dL_buys_136 : decode cL_buys 136 = .ok (.iconst 2, 1) := by decide +kernel
theorem dL_buys_137 : decode cL_buys 137 = .ok (.iaload, 1) := by decide +kernel
theorem dL_buys_138 : decode cL_buys 138 = .ok (.i2l, 1) := by decide +kernel
theorem dL_buys_139 : decode cL_buys 139 = .ok (.lcmp, 1) := by decide +kernel
theorem dL_buys_140 : decode cL_buys 140 = .ok (.ifCond .gt 59, 3) := by decide +kernel
theorem dL_buys_143 : decode cL_buys 143 = .ok (.aload_n 2, 1) := by decide +kernel
theorem dL_buys_144 : decode cL_buys 144 = .ok (.bipush 8, 2) := by decide +kernel
theorem dL_buys_146 : decode cL_buys 146 = .ok (.iload 8, 2) := by decide +kernel
theorem dL_buys_148 : decode cL_buys 148 = .ok (.iadd, 1) := by decide +kernel
theorem dL_buys_149 : decode cL_buys 149 = .ok (.dup2, 1) := by decide +kernel
theorem dL_buys_150 : decode cL_buys 150 = .ok (.iaload, 1) := by decide +kernel
theorem dL_buys_151 : decode cL_buys 151 = .ok (.iload 15, 2) := by decide +kernel
theorem dL_buys_153 : decode cL_buys 153 = .ok (.iload 11, 2) := by decide +kernel
theorem dL_buys_155 : decode cL_buys 155 = .ok (.imul, 1) := by decide +kernel
theorem dL_buys_156 : decode cL_buys 156 = .ok (.isub, 1) := by decide +kernel
theorem dL_buys_157 : decode cL_buys 157 = .ok (.iastore, 1) := by decide +kernel
theorem dL_buys_158 : decode cL_buys 158 = .ok (.aload 7, 2) := by decide +kernel
theorem dL_buys_160 : decode cL_buys 160 = .ok (.iconst 4, 1) := by decide +kernel
theorem dL_buys_161 : decode cL_buys 161 = .ok (.iload 8, 2) := by decide +kernel
theorem dL_buys_163 : decode cL_buys 163 = .ok (.iadd, 1) := by decide +kernel
theorem dL_buys_164 : decode cL_buys 164 = .ok (.dup2, 1) := by decide +kernel
theorem dL_buys_165 : decode cL_buys 165 = .ok (.laload, 1) := by decide +kernel
theorem dL_buys_166 : decode cL_buys 166 = .ok (.iload 15, 2) := by decide +kernel
theorem dL_buys_168 : decode cL_buys 168 = .ok (.i2l, 1) := by decide +kernel
theorem dL_buys_169 : decode cL_buys 169 = .ok (.iload 11, 2) := by decide +kernel
theorem dL_buys_171 : decode cL_buys 171 = .ok (.i2l, 1) := by decide +kernel
theorem dL_buys_172 : decode cL_buys 172 = .ok (.lmul, 1) := by decide +kernel
theorem dL_buys_173 : decode cL_buys 173 = .ok (.ladd, 1) := by decide +kernel
theorem dL_buys_174 : decode cL_buys 174 = .ok (.lastore, 1) := by decide +kernel
theorem dL_buys_175 : decode cL_buys 175 = .ok (.lload 13, 2) := by decide +kernel
theorem dL_buys_177 : decode cL_buys 177 = .ok (.iload 15, 2) := by decide +kernel
theorem dL_buys_179 : decode cL_buys 179 = .ok (.i2l, 1) := by decide +kernel
theorem dL_buys_180 : decode cL_buys 180 = .ok (.iload 10, 2) := by decide +kernel
theorem dL_buys_182 : decode cL_buys 182 = .ok (.i2l, 1) := by decide +kernel
theorem dL_buys_183 : decode cL_buys 183 = .ok (.lmul, 1) := by decide +kernel
theorem dL_buys_184 : decode cL_buys 184 = .ok (.ladd, 1) := by decide +kernel
theorem dL_buys_185 : decode cL_buys 185 = .ok (.lstore 13, 2) := by decide +kernel
theorem dL_buys_187 : decode cL_buys 187 = .ok (.aload_n 3, 1) := by decide +kernel
theorem dL_buys_188 : decode cL_buys 188 = .ok (.iload 12, 2) := by decide +kernel
theorem dL_buys_190 : decode cL_buys 190 = .ok (.dup2, 1) := by decide +kernel
theorem dL_buys_191 : decode cL_buys 191 = .ok (.iaload, 1) := by decide +kernel
theorem dL_buys_192 : decode cL_buys 192 = .ok (.iload 15, 2) := by decide +kernel
theorem dL_buys_194 : decode cL_buys 194 = .ok (.iadd, 1) := by decide +kernel
theorem dL_buys_195 : decode cL_buys 195 = .ok (.iastore, 1) := by decide +kernel
theorem dL_buys_196 : decode cL_buys 196 = .ok (.goto (-90), 3) := by decide +kernel
theorem dL_buys_199 : decode cL_buys 199 = .ok (.iload 15, 2) := by decide +kernel
theorem dL_buys_201 : decode cL_buys 201 = .ok (.bipush 10, 2) := by decide +kernel
theorem dL_buys_203 : decode cL_buys 203 = .ok (.idiv, 1) := by decide +kernel
theorem dL_buys_204 : decode cL_buys 204 = .ok (.istore 15, 2) := by decide +kernel
theorem dL_buys_206 : decode cL_buys 206 = .ok (.goto (-105), 3) := by decide +kernel
theorem dL_buys_209 : decode cL_buys 209 = .ok (.aload 4, 2) := by decide +kernel
theorem dL_buys_211 : decode cL_buys 211 = .ok (.iload 12, 2) := by decide +kernel
theorem dL_buys_213 : decode cL_buys 213 = .ok (.aload_n 3, 1) := by decide +kernel
theorem dL_buys_214 : decode cL_buys 214 = .ok (.iload 12, 2) := by decide +kernel
theorem dL_buys_216 : decode cL_buys 216 = .ok (.iaload, 1) := by decide +kernel
theorem dL_buys_217 : decode cL_buys 217 = .ok (.iastore, 1) := by decide +kernel
theorem dL_buys_218 : decode cL_buys 218 = .ok (.aload 5, 2) := by decide +kernel
theorem dL_buys_220 : decode cL_buys 220 = .ok (.iload 12, 2) := by decide +kernel
theorem dL_buys_222 : decode cL_buys 222 = .ok (.iload 11, 2) := by decide +kernel
theorem dL_buys_224 : decode cL_buys 224 = .ok (.iastore, 1) := by decide +kernel
theorem dL_buys_225 : decode cL_buys 225 = .ok (.aload_n 2, 1) := by decide +kernel
theorem dL_buys_226 : decode cL_buys 226 = .ok (.bipush 16, 2) := by decide +kernel
theorem dL_buys_228 : decode cL_buys 228 = .ok (.iload 8, 2) := by decide +kernel
theorem dL_buys_230 : decode cL_buys 230 = .ok (.iadd, 1) := by decide +kernel
theorem dL_buys_231 : decode cL_buys 231 = .ok (.dup2, 1) := by decide +kernel
theorem dL_buys_232 : decode cL_buys 232 = .ok (.iaload, 1) := by decide +kernel
theorem dL_buys_233 : decode cL_buys 233 = .ok (.iconst 1, 1) := by decide +kernel
theorem dL_buys_234 : decode cL_buys 234 = .ok (.iadd, 1) := by decide +kernel
theorem dL_buys_235 : decode cL_buys 235 = .ok (.iastore, 1) := by decide +kernel
theorem dL_buys_236 : decode cL_buys 236 = .ok (.aload_n 1, 1) := by decide +kernel
theorem dL_buys_237 : decode cL_buys 237 = .ok (.iload 9, 2) := by decide +kernel
theorem dL_buys_239 : decode cL_buys 239 = .ok (.iaload, 1) := by decide +kernel
theorem dL_buys_240 : decode cL_buys 240 = .ok (.iload 10, 2) := by decide +kernel
theorem dL_buys_242 : decode cL_buys 242 = .ok (.if_icmp .ge 7, 3) := by decide +kernel
theorem dL_buys_245 : decode cL_buys 245 = .ok (.iconst 1, 1) := by decide +kernel
theorem dL_buys_246 : decode cL_buys 246 = .ok (.goto 4, 3) := by decide +kernel
theorem dL_buys_249 : decode cL_buys 249 = .ok (.iconst 0, 1) := by decide +kernel
theorem dL_buys_250 : decode cL_buys 250 = .ok (.istore 15, 2) := by decide +kernel
theorem dL_buys_252 : decode cL_buys 252 = .ok (.iload 15, 2) := by decide +kernel
theorem dL_buys_254 : decode cL_buys 254 = .ok (.ifCond .ne 14, 3) := by decide +kernel
theorem dL_buys_257 : decode cL_buys 257 = .ok (.aload_n 2, 1) := by decide +kernel
theorem dL_buys_258 : decode cL_buys 258 = .ok (.bipush 16, 2) := by decide +kernel
theorem dL_buys_260 : decode cL_buys 260 = .ok (.iload 8, 2) := by decide +kernel
theorem dL_buys_262 : decode cL_buys 262 = .ok (.iadd, 1) := by decide +kernel
theorem dL_buys_263 : decode cL_buys 263 = .ok (.iaload, 1) := by decide +kernel
theorem dL_buys_264 : decode cL_buys 264 = .ok (.iconst 3, 1) := by decide +kernel
theorem dL_buys_265 : decode cL_buys 265 = .ok (.if_icmp .le 40, 3) := by decide +kernel
theorem dL_buys_268 : decode cL_buys 268 = .ok (.aload_n 2, 1) := by decide +kernel
theorem dL_buys_269 : decode cL_buys 269 = .ok (.bipush 20, 2) := by decide +kernel
theorem dL_buys_271 : decode cL_buys 271 = .ok (.iload 8, 2) := by decide +kernel
theorem dL_buys_273 : decode cL_buys 273 = .ok (.iadd, 1) := by decide +kernel
theorem dL_buys_274 : decode cL_buys 274 = .ok (.dup2, 1) := by decide +kernel
theorem dL_buys_275 : decode cL_buys 275 = .ok (.iaload, 1) := by decide +kernel
theorem dL_buys_276 : decode cL_buys 276 = .ok (.iload 15, 2) := by decide +kernel
theorem dL_buys_278 : decode cL_buys 278 = .ok (.ifCond .eq 7, 3) := by decide +kernel
theorem dL_buys_281 : decode cL_buys 281 = .ok (.iconst 1, 1) := by decide +kernel
theorem dL_buys_282 : decode cL_buys 282 = .ok (.goto 4, 3) := by decide +kernel
theorem dL_buys_285 : decode cL_buys 285 = .ok (.iconst 0, 1) := by decide +kernel
theorem dL_buys_286 : decode cL_buys 286 = .ok (.iadd, 1) := by decide +kernel
theorem dL_buys_287 : decode cL_buys 287 = .ok (.iastore, 1) := by decide +kernel
theorem dL_buys_288 : decode cL_buys 288 = .ok (.aload_n 2, 1) := by decide +kernel
theorem dL_buys_289 : decode cL_buys 289 = .ok (.bipush 12, 2) := by decide +kernel
theorem dL_buys_291 : decode cL_buys 291 = .ok (.iload 8, 2) := by decide +kernel
theorem dL_buys_293 : decode cL_buys 293 = .ok (.iadd, 1) := by decide +kernel
theorem dL_buys_294 : decode cL_buys 294 = .ok (.iload 9, 2) := by decide +kernel
theorem dL_buys_296 : decode cL_buys 296 = .ok (.iastore, 1) := by decide +kernel
theorem dL_buys_297 : decode cL_buys 297 = .ok (.aload_n 2, 1) := by decide +kernel
theorem dL_buys_298 : decode cL_buys 298 = .ok (.bipush 16, 2) := by decide +kernel
theorem dL_buys_300 : decode cL_buys 300 = .ok (.iload 8, 2) := by decide +kernel
theorem dL_buys_302 : decode cL_buys 302 = .ok (.iadd, 1) := by decide +kernel
theorem dL_buys_303 : decode cL_buys 303 = .ok (.iconst 0, 1) := by decide +kernel
theorem dL_buys_304 : decode cL_buys 304 = .ok (.iastore, 1) := by decide +kernel
theorem dL_buys_305 : decode cL_buys 305 = .ok (.return_, 1) := by decide +kernel
theorem dL_isEarly_0 : decode cL_isEarly 0 = .ok (.aload_n 0, 1) := by decide +kernel
theorem dL_isEarly_1 : decode cL_isEarly 1 = .ok (.iconst 0, 1) := by decide +kernel
theorem dL_isEarly_2 : decode cL_isEarly 2 = .ok (.iaload, 1) := by decide +kernel
theorem dL_isEarly_3 : decode cL_isEarly 3 = .ok (.iconst 1, 1) := by decide +kernel
theorem dL_isEarly_4 : decode cL_isEarly 4 = .ok (.isub, 1) := by decide +kernel
theorem dL_isEarly_5 : decode cL_isEarly 5 = .ok (.istore_n 3, 1) := by decide +kernel
theorem dL_isEarly_6 : decode cL_isEarly 6 = .ok (.iload_n 3, 1) := by decide +kernel
theorem dL_isEarly_7 : decode cL_isEarly 7 = .ok (.aload_n 1, 1) := by decide +kernel
theorem dL_isEarly_8 : decode cL_isEarly 8 = .ok (.iload_n 2, 1) := by decide +kernel
theorem dL_isEarly_9 : decode cL_isEarly 9 = .ok (.iaload, 1) := by decide +kernel
theorem dL_isEarly_10 : decode cL_isEarly 10 = .ok (.bipush 24, 2) := by decide +kernel
theorem dL_isEarly_12 : decode cL_isEarly 12 = .ok (.iadd, 1) := by decide +kernel
theorem dL_isEarly_13 : decode cL_isEarly 13 = .ok (.if_icmp .lt 19, 3) := by decide +kernel
theorem dL_isEarly_16 : decode cL_isEarly 16 = .ok (.iload_n 3, 1) := by decide +kernel
theorem dL_isEarly_17 : decode cL_isEarly 17 = .ok (.bipush 6, 2) := by decide +kernel
theorem dL_isEarly_19 : decode cL_isEarly 19 = .ok (.iload_n 2, 1) := by decide +kernel
theorem dL_isEarly_20 : decode cL_isEarly 20 = .ok (.bipush 10, 2) := by decide +kernel
theorem dL_isEarly_22 : decode cL_isEarly 22 = .ok (.irem, 1) := by decide +kernel
theorem dL_isEarly_23 : decode cL_isEarly 23 = .ok (.imul, 1) := by decide +kernel
theorem dL_isEarly_24 : decode cL_isEarly 24 = .ok (.iconst 5, 1) := by decide +kernel
theorem dL_isEarly_25 : decode cL_isEarly 25 = .ok (.iadd, 1) := by decide +kernel
theorem dL_isEarly_26 : decode cL_isEarly 26 = .ok (.bipush 12, 2) := by decide +kernel
theorem dL_isEarly_28 : decode cL_isEarly 28 = .ok (.iadd, 1) := by decide +kernel
theorem dL_isEarly_29 : decode cL_isEarly 29 = .ok (.if_icmp .ge 7, 3) := by decide +kernel
theorem dL_isEarly_32 : decode cL_isEarly 32 = .ok (.iconst 1, 1) := by decide +kernel
theorem dL_isEarly_33 : decode cL_isEarly 33 = .ok (.goto 4, 3) := by decide +kernel
theorem dL_isEarly_36 : decode cL_isEarly 36 = .ok (.iconst 0, 1) := by decide +kernel
theorem dL_isEarly_37 : decode cL_isEarly 37 = .ok (.ireturn, 1) := by decide +kernel
theorem dL_payEach_0 : decode cL_payEach 0 = .ok (.aload_n 1, 1) := by decide +kernel
theorem dL_payEach_1 : decode cL_payEach 1 = .ok (.aload_n 0, 1) := by decide +kernel
theorem dL_payEach_2 : decode cL_payEach 2 = .ok (.iconst 0, 1) := by decide +kernel
theorem dL_payEach_3 : decode cL_payEach 3 = .ok (.iaload, 1) := by decide +kernel
theorem dL_payEach_4 : decode cL_payEach 4 = .ok (.iconst 1, 1) := by decide +kernel
theorem dL_payEach_5 : decode cL_payEach 5 = .ok (.isub, 1) := by decide +kernel
theorem dL_payEach_6 : decode cL_payEach 6 = .ok (.iaload, 1) := by decide +kernel
theorem dL_payEach_7 : decode cL_payEach 7 = .ok (.aload_n 2, 1) := by decide +kernel
theorem dL_payEach_8 : decode cL_payEach 8 = .ok (.iload 4, 2) := by decide +kernel
theorem dL_payEach_10 : decode cL_payEach 10 = .ok (.iaload, 1) := by decide +kernel
theorem dL_payEach_11 : decode cL_payEach 11 = .ok (.isub, 1) := by decide +kernel
theorem dL_payEach_12 : decode cL_payEach 12 = .ok (.istore 5, 2) := by decide +kernel
theorem dL_payEach_14 : decode cL_payEach 14 = .ok (.aload_n 0, 1) := by decide +kernel
theorem dL_payEach_15 : decode cL_payEach 15 = .ok (.aload_n 3, 1) := by decide +kernel
theorem dL_payEach_16 : decode cL_payEach 16 = .ok (.iload 4, 2) := by decide +kernel
theorem dL_payEach_18 : decode cL_payEach 18 = .ok (.invokestatic 16, 3) := by decide +kernel
theorem dL_payEach_21 : decode cL_payEach 21 = .ok (.ifCond .eq 21, 3) := by decide +kernel
theorem dL_payEach_24 : decode cL_payEach 24 = .ok (.aload_n 1, 1) := by decide +kernel
theorem dL_payEach_25 : decode cL_payEach 25 = .ok (.bipush 6, 2) := by decide +kernel
theorem dL_payEach_27 : decode cL_payEach 27 = .ok (.iload 4, 2) := by decide +kernel
theorem dL_payEach_29 : decode cL_payEach 29 = .ok (.bipush 10, 2) := by decide +kernel
theorem dL_payEach_31 : decode cL_payEach 31 = .ok (.irem, 1) := by decide +kernel
theorem dL_payEach_32 : decode cL_payEach 32 = .ok (.imul, 1) := by decide +kernel
theorem dL_payEach_33 : decode cL_payEach 33 = .ok (.iconst 5, 1) := by decide +kernel
theorem dL_payEach_34 : decode cL_payEach 34 = .ok (.iadd, 1) := by decide +kernel
theorem dL_payEach_35 : decode cL_payEach 35 = .ok (.iaload, 1) := by decide +kernel
theorem dL_payEach_36 : decode cL_payEach 36 = .ok (.aload_n 2, 1) := by decide +kernel
theorem dL_payEach_37 : decode cL_payEach 37 = .ok (.iload 4, 2) := by decide +kernel
theorem dL_payEach_39 : decode cL_payEach 39 = .ok (.iaload, 1) := by decide +kernel
theorem dL_payEach_40 : decode cL_payEach 40 = .ok (.isub, 1) := by decide +kernel
theorem dL_payEach_41 : decode cL_payEach 41 = .ok (.ireturn, 1) := by decide +kernel
theorem dL_payEach_42 : decode cL_payEach 42 = .ok (.bipush 15, 2) := by decide +kernel
theorem dL_payEach_44 : decode cL_payEach 44 = .ok (.aload_n 1, 1) := by decide +kernel
theorem dL_payEach_45 : decode cL_payEach 45 = .ok (.aload_n 3, 1) := by decide +kernel
theorem dL_payEach_46 : decode cL_payEach 46 = .ok (.iload 4, 2) := by decide +kernel
theorem dL_payEach_48 : decode cL_payEach 48 = .ok (.iaload, 1) := by decide +kernel
theorem dL_payEach_49 : decode cL_payEach 49 = .ok (.iaload, 1) := by decide +kernel
theorem dL_payEach_50 : decode cL_payEach 50 = .ok (.imul, 1) := by decide +kernel
theorem dL_payEach_51 : decode cL_payEach 51 = .ok (.bipush 100, 2) := by decide +kernel
theorem dL_payEach_53 : decode cL_payEach 53 = .ok (.idiv, 1) := by decide +kernel
theorem dL_payEach_54 : decode cL_payEach 54 = .ok (.istore 6, 2) := by decide +kernel
theorem dL_payEach_56 : decode cL_payEach 56 = .ok (.iload 5, 2) := by decide +kernel
theorem dL_payEach_58 : decode cL_payEach 58 = .ok (.ifCond .gt 7, 3) := by decide +kernel
theorem dL_payEach_61 : decode cL_payEach 61 = .ok (.iconst 0, 1) := by decide +kernel
theorem dL_payEach_62 : decode cL_payEach 62 = .ok (.goto 17, 3) := by decide +kernel
theorem dL_payEach_65 : decode cL_payEach 65 = .ok (.iload 5, 2) := by decide +kernel
theorem dL_payEach_67 : decode cL_payEach 67 = .ok (.iload 6, 2) := by decide +kernel
theorem dL_payEach_69 : decode cL_payEach 69 = .ok (.if_icmp .ge 8, 3) := by decide +kernel
theorem dL_payEach_72 : decode cL_payEach 72 = .ok (.iload 5, 2) := by decide +kernel
theorem dL_payEach_74 : decode cL_payEach 74 = .ok (.goto 5, 3) := by decide +kernel
theorem dL_payEach_77 : decode cL_payEach 77 = .ok (.iload 6, 2) := by decide +kernel
theorem dL_payEach_79 : decode cL_payEach 79 = .ok (.ireturn, 1) := by decide +kernel
theorem dL_begun_0 : decode cL_begun 0 = .ok (.aload_n 0, 1) := by decide +kernel
theorem dL_begun_1 : decode cL_begun 1 = .ok (.iload_n 1, 1) := by decide +kernel
theorem dL_begun_2 : decode cL_begun 2 = .ok (.invokevirtual 20, 3) := by decide +kernel
theorem dL_begun_5 : decode cL_begun 5 = .ok (.ireturn, 1) := by decide +kernel
theorem dL_begun_6 : decode cL_begun 6 = .ok (.astore_n 2, 1) := by decide +kernel
theorem dL_begun_7 : decode cL_begun 7 = .ok (.bipush (-101), 2) := by decide +kernel
theorem dL_begun_9 : decode cL_begun 9 = .ok (.ireturn, 1) := by decide +kernel
theorem dL_begun_10 : decode cL_begun 10 = .ok (.astore_n 2, 1) := by decide +kernel
theorem dL_begun_11 : decode cL_begun 11 = .ok (.bipush (-102), 2) := by decide +kernel
theorem dL_begun_13 : decode cL_begun 13 = .ok (.ireturn, 1) := by decide +kernel
theorem dL_set_0 : decode cL_set 0 = .ok (.iload_n 1, 1) := by decide +kernel
theorem dL_set_1 : decode cL_set 1 = .ok (.ifCond .ne 11, 3) := by decide +kernel
theorem dL_set_4 : decode cL_set 4 = .ok (.aload_n 0, 1) := by decide +kernel
theorem dL_set_5 : decode cL_set 5 = .ok (.iload_n 2, 1) := by decide +kernel
theorem dL_set_6 : decode cL_set 6 = .ok (.invokevirtual 30, 3) := by decide +kernel
theorem dL_set_9 : decode cL_set 9 = .ok (.goto 8, 3) := by decide +kernel
theorem dL_set_12 : decode cL_set 12 = .ok (.aload_n 0, 1) := by decide +kernel
theorem dL_set_13 : decode cL_set 13 = .ok (.iload_n 2, 1) := by decide +kernel
theorem dL_set_14 : decode cL_set 14 = .ok (.invokevirtual 33, 3) := by decide +kernel
theorem dL_set_17 : decode cL_set 17 = .ok (.ireturn, 1) := by decide +kernel
theorem dL_set_18 : decode cL_set 18 = .ok (.astore_n 3, 1) := by decide +kernel
theorem dL_set_19 : decode cL_set 19 = .ok (.bipush (-101), 2) := by decide +kernel
theorem dL_set_21 : decode cL_set 21 = .ok (.ireturn, 1) := by decide +kernel
theorem dL_set_22 : decode cL_set 22 = .ok (.astore_n 3, 1) := by decide +kernel
theorem dL_set_23 : decode cL_set 23 = .ok (.bipush (-102), 2) := by decide +kernel
theorem dL_set_25 : decode cL_set 25 = .ok (.ireturn, 1) := by decide +kernel
theorem dL_act_0 : decode cL_act 0 = .ok (.iload_n 1, 1) := by decide +kernel
theorem dL_act_1 : decode cL_act 1 = .ok (.ifCond .ne 12, 3) := by decide +kernel
theorem dL_act_4 : decode cL_act 4 = .ok (.aload_n 0, 1) := by decide +kernel
theorem dL_act_5 : decode cL_act 5 = .ok (.iload_n 2, 1) := by decide +kernel
theorem dL_act_6 : decode cL_act 6 = .ok (.iload_n 3, 1) := by decide +kernel
theorem dL_act_7 : decode cL_act 7 = .ok (.invokevirtual 36, 3) := by decide +kernel
theorem dL_act_10 : decode cL_act 10 = .ok (.goto 23, 3) := by decide +kernel
theorem dL_act_13 : decode cL_act 13 = .ok (.iload_n 1, 1) := by decide +kernel
theorem dL_act_14 : decode cL_act 14 = .ok (.iconst 1, 1) := by decide +kernel
theorem dL_act_15 : decode cL_act 15 = .ok (.if_icmp .ne 12, 3) := by decide +kernel
theorem dL_act_18 : decode cL_act 18 = .ok (.aload_n 0, 1) := by decide +kernel
theorem dL_act_19 : decode cL_act 19 = .ok (.iload_n 2, 1) := by decide +kernel
theorem dL_act_20 : decode cL_act 20 = .ok (.iload_n 3, 1) := by decide +kernel
theorem dL_act_21 : decode cL_act 21 = .ok (.invokevirtual 40, 3) := by decide +kernel
theorem dL_act_24 : decode cL_act 24 = .ok (.goto 9, 3) := by decide +kernel
theorem dL_act_27 : decode cL_act 27 = .ok (.aload_n 0, 1) := by decide +kernel
theorem dL_act_28 : decode cL_act 28 = .ok (.iload_n 2, 1) := by decide +kernel
theorem dL_act_29 : decode cL_act 29 = .ok (.iload_n 3, 1) := by decide +kernel
theorem dL_act_30 : decode cL_act 30 = .ok (.invokevirtual 43, 3) := by decide +kernel
theorem dL_act_33 : decode cL_act 33 = .ok (.ireturn, 1) := by decide +kernel
theorem dL_act_34 : decode cL_act 34 = .ok (.astore 4, 2) := by decide +kernel
theorem dL_act_36 : decode cL_act 36 = .ok (.bipush (-101), 2) := by decide +kernel
theorem dL_act_38 : decode cL_act 38 = .ok (.ireturn, 1) := by decide +kernel
theorem dL_act_39 : decode cL_act 39 = .ok (.astore 4, 2) := by decide +kernel
theorem dL_act_41 : decode cL_act 41 = .ok (.bipush (-102), 2) := by decide +kernel
theorem dL_act_43 : decode cL_act 43 = .ok (.ireturn, 1) := by decide +kernel
theorem dL_act_44 : decode cL_act 44 = .ok (.astore 4, 2) := by decide +kernel
theorem dL_act_46 : decode cL_act 46 = .ok (.bipush (-103), 2) := by decide +kernel
theorem dL_act_48 : decode cL_act 48 = .ok (.ireturn, 1) := by decide +kernel
theorem dL_leaves_0 : decode cL_leaves 0 = .ok (.aload_n 0, 1) := by decide +kernel
theorem dL_leaves_1 : decode cL_leaves 1 = .ok (.iload_n 1, 1) := by decide +kernel
theorem dL_leaves_2 : decode cL_leaves 2 = .ok (.invokevirtual 48, 3) := by decide +kernel
theorem dL_leaves_5 : decode cL_leaves 5 = .ok (.ireturn, 1) := by decide +kernel
theorem dL_leaves_6 : decode cL_leaves 6 = .ok (.astore_n 2, 1) := by decide +kernel
theorem dL_leaves_7 : decode cL_leaves 7 = .ok (.bipush (-101), 2) := by decide +kernel
theorem dL_leaves_9 : decode cL_leaves 9 = .ok (.ireturn, 1) := by decide +kernel
theorem dL_leaves_10 : decode cL_leaves 10 = .ok (.astore_n 2, 1) := by decide +kernel
theorem dL_leaves_11 : decode cL_leaves 11 = .ok (.bipush (-102), 2) := by decide +kernel
theorem dL_leaves_13 : decode cL_leaves 13 = .ok (.ireturn, 1) := by decide +kernel
theorem dL_of_0 : decode cL_of 0 = .ok (.iload_n 1, 1) := by decide +kernel
theorem dL_of_1 : decode cL_of 1 = .ok (.ifCond .ne 11, 3) := by decide +kernel
theorem dL_of_4 : decode cL_of 4 = .ok (.aload_n 0, 1) := by decide +kernel
theorem dL_of_5 : decode cL_of 5 = .ok (.iload_n 2, 1) := by decide +kernel
theorem dL_of_6 : decode cL_of 6 = .ok (.invokevirtual 51, 3) := by decide +kernel
theorem dL_of_9 : decode cL_of 9 = .ok (.goto 75, 3) := by decide +kernel
theorem dL_of_12 : decode cL_of 12 = .ok (.iload_n 1, 1) := by decide +kernel
theorem dL_of_13 : decode cL_of 13 = .ok (.iconst 1, 1) := by decide +kernel
theorem dL_of_14 : decode cL_of 14 = .ok (.if_icmp .ne 11, 3) := by decide +kernel
theorem dL_of_17 : decode cL_of 17 = .ok (.aload_n 0, 1) := by decide +kernel
theorem dL_of_18 : decode cL_of 18 = .ok (.iload_n 2, 1) := by decide +kernel
theorem dL_of_19 : decode cL_of 19 = .ok (.invokevirtual 54, 3) := by decide +kernel
theorem dL_of_22 : decode cL_of 22 = .ok (.goto 62, 3) := by decide +kernel
theorem dL_of_25 : decode cL_of 25 = .ok (.iload_n 1, 1) := by decide +kernel
theorem dL_of_26 : decode cL_of 26 = .ok (.iconst 2, 1) := by decide +kernel
theorem dL_of_27 : decode cL_of 27 = .ok (.if_icmp .ne 11, 3) := by decide +kernel
theorem dL_of_30 : decode cL_of 30 = .ok (.aload_n 0, 1) := by decide +kernel
theorem dL_of_31 : decode cL_of 31 = .ok (.iload_n 2, 1) := by decide +kernel
theorem dL_of_32 : decode cL_of 32 = .ok (.invokevirtual 57, 3) := by decide +kernel
theorem dL_of_35 : decode cL_of 35 = .ok (.goto 49, 3) := by decide +kernel
theorem dL_of_38 : decode cL_of 38 = .ok (.iload_n 1, 1) := by decide +kernel
theorem dL_of_39 : decode cL_of 39 = .ok (.iconst 3, 1) := by decide +kernel
theorem dL_of_40 : decode cL_of 40 = .ok (.if_icmp .ne 11, 3) := by decide +kernel
theorem dL_of_43 : decode cL_of 43 = .ok (.aload_n 0, 1) := by decide +kernel
theorem dL_of_44 : decode cL_of 44 = .ok (.iload_n 2, 1) := by decide +kernel
theorem dL_of_45 : decode cL_of 45 = .ok (.invokevirtual 60, 3) := by decide +kernel
theorem dL_of_48 : decode cL_of 48 = .ok (.goto 36, 3) := by decide +kernel
theorem dL_of_51 : decode cL_of 51 = .ok (.iload_n 1, 1) := by decide +kernel
theorem dL_of_52 : decode cL_of 52 = .ok (.iconst 4, 1) := by decide +kernel
theorem dL_of_53 : decode cL_of 53 = .ok (.if_icmp .ne 11, 3) := by decide +kernel
theorem dL_of_56 : decode cL_of 56 = .ok (.aload_n 0, 1) := by decide +kernel
theorem dL_of_57 : decode cL_of 57 = .ok (.iload_n 2, 1) := by decide +kernel
theorem dL_of_58 : decode cL_of 58 = .ok (.invokevirtual 63, 3) := by decide +kernel
theorem dL_of_61 : decode cL_of 61 = .ok (.goto 23, 3) := by decide +kernel
theorem dL_of_64 : decode cL_of 64 = .ok (.iload_n 1, 1) := by decide +kernel
theorem dL_of_65 : decode cL_of 65 = .ok (.iconst 5, 1) := by decide +kernel
theorem dL_of_66 : decode cL_of 66 = .ok (.if_icmp .ne 12, 3) := by decide +kernel
theorem dL_of_69 : decode cL_of 69 = .ok (.aload_n 0, 1) := by decide +kernel
theorem dL_of_70 : decode cL_of 70 = .ok (.iload_n 2, 1) := by decide +kernel
theorem dL_of_71 : decode cL_of 71 = .ok (.iload_n 3, 1) := by decide +kernel
theorem dL_of_72 : decode cL_of 72 = .ok (.invokevirtual 66, 3) := by decide +kernel
theorem dL_of_75 : decode cL_of 75 = .ok (.goto 9, 3) := by decide +kernel
theorem dL_of_78 : decode cL_of 78 = .ok (.aload_n 0, 1) := by decide +kernel
theorem dL_of_79 : decode cL_of 79 = .ok (.iload_n 2, 1) := by decide +kernel
theorem dL_of_80 : decode cL_of 80 = .ok (.iload_n 3, 1) := by decide +kernel
theorem dL_of_81 : decode cL_of 81 = .ok (.invokevirtual 69, 3) := by decide +kernel
theorem dL_of_84 : decode cL_of 84 = .ok (.ireturn, 1) := by decide +kernel
theorem dL_of_85 : decode cL_of 85 = .ok (.astore 4, 2) := by decide +kernel
theorem dL_of_87 : decode cL_of 87 = .ok (.bipush (-101), 2) := by decide +kernel
theorem dL_of_89 : decode cL_of 89 = .ok (.ireturn, 1) := by decide +kernel
theorem dL_sum_0 : decode cL_sum 0 = .ok (.iload_n 1, 1) := by decide +kernel
theorem dL_sum_1 : decode cL_sum 1 = .ok (.ifCond .ne 12, 3) := by decide +kernel
theorem dL_sum_4 : decode cL_sum 4 = .ok (.aload_n 0, 1) := by decide +kernel
theorem dL_sum_5 : decode cL_sum 5 = .ok (.iload_n 2, 1) := by decide +kernel
theorem dL_sum_6 : decode cL_sum 6 = .ok (.iload_n 3, 1) := by decide +kernel
theorem dL_sum_7 : decode cL_sum 7 = .ok (.invokevirtual 72, 3) := by decide +kernel
theorem dL_sum_10 : decode cL_sum 10 = .ok (.goto 60, 3) := by decide +kernel
theorem dL_sum_13 : decode cL_sum 13 = .ok (.iload_n 1, 1) := by decide +kernel
theorem dL_sum_14 : decode cL_sum 14 = .ok (.iconst 1, 1) := by decide +kernel
theorem dL_sum_15 : decode cL_sum 15 = .ok (.if_icmp .ne 11, 3) := by decide +kernel
theorem dL_sum_18 : decode cL_sum 18 = .ok (.aload_n 0, 1) := by decide +kernel
theorem dL_sum_19 : decode cL_sum 19 = .ok (.iload_n 2, 1) := by decide +kernel
theorem dL_sum_20 : decode cL_sum 20 = .ok (.invokevirtual 75, 3) := by decide +kernel
theorem dL_sum_23 : decode cL_sum 23 = .ok (.goto 47, 3) := by decide +kernel
theorem dL_sum_26 : decode cL_sum 26 = .ok (.iload_n 1, 1) := by decide +kernel
theorem dL_sum_27 : decode cL_sum 27 = .ok (.iconst 2, 1) := by decide +kernel
theorem dL_sum_28 : decode cL_sum 28 = .ok (.if_icmp .ne 11, 3) := by decide +kernel
theorem dL_sum_31 : decode cL_sum 31 = .ok (.aload_n 0, 1) := by decide +kernel
theorem dL_sum_32 : decode cL_sum 32 = .ok (.iload_n 2, 1) := by decide +kernel
theorem dL_sum_33 : decode cL_sum 33 = .ok (.invokevirtual 79, 3) := by decide +kernel
theorem dL_sum_36 : decode cL_sum 36 = .ok (.goto 34, 3) := by decide +kernel
theorem dL_sum_39 : decode cL_sum 39 = .ok (.iload_n 1, 1) := by decide +kernel
theorem dL_sum_40 : decode cL_sum 40 = .ok (.iconst 3, 1) := by decide +kernel
theorem dL_sum_41 : decode cL_sum 41 = .ok (.if_icmp .ne 11, 3) := by decide +kernel
theorem dL_sum_44 : decode cL_sum 44 = .ok (.aload_n 0, 1) := by decide +kernel
theorem dL_sum_45 : decode cL_sum 45 = .ok (.iload_n 2, 1) := by decide +kernel
theorem dL_sum_46 : decode cL_sum 46 = .ok (.invokevirtual 82, 3) := by decide +kernel
theorem dL_sum_49 : decode cL_sum 49 = .ok (.goto 21, 3) := by decide +kernel
theorem dL_sum_52 : decode cL_sum 52 = .ok (.iload_n 1, 1) := by decide +kernel
theorem dL_sum_53 : decode cL_sum 53 = .ok (.iconst 4, 1) := by decide +kernel
theorem dL_sum_54 : decode cL_sum 54 = .ok (.if_icmp .ne 11, 3) := by decide +kernel
theorem dL_sum_57 : decode cL_sum 57 = .ok (.aload_n 0, 1) := by decide +kernel
theorem dL_sum_58 : decode cL_sum 58 = .ok (.iload_n 2, 1) := by decide +kernel
theorem dL_sum_59 : decode cL_sum 59 = .ok (.invokevirtual 85, 3) := by decide +kernel
theorem dL_sum_62 : decode cL_sum 62 = .ok (.goto 8, 3) := by decide +kernel
theorem dL_sum_65 : decode cL_sum 65 = .ok (.aload_n 0, 1) := by decide +kernel
theorem dL_sum_66 : decode cL_sum 66 = .ok (.iload_n 2, 1) := by decide +kernel
theorem dL_sum_67 : decode cL_sum 67 = .ok (.invokevirtual 88, 3) := by decide +kernel
theorem dL_sum_70 : decode cL_sum 70 = .ok (.lreturn, 1) := by decide +kernel
theorem dL_sum_71 : decode cL_sum 71 = .ok (.astore 4, 2) := by decide +kernel
theorem dL_sum_73 : decode cL_sum 73 = .ok (.ldc2_w 91, 3) := by decide +kernel
theorem dL_sum_76 : decode cL_sum 76 = .ok (.lreturn, 1) := by decide +kernel
theorem dL_goes_0 : decode cL_goes 0 = .ok (.iload_n 1, 1) := by decide +kernel
theorem dL_goes_1 : decode cL_goes 1 = .ok (.ifCond .ne 276, 3) := by decide +kernel
theorem dL_goes_4 : decode cL_goes 4 = .ok (.aload_n 3, 1) := by decide +kernel
theorem dL_goes_5 : decode cL_goes 5 = .ok (.iconst 0, 1) := by decide +kernel
theorem dL_goes_6 : decode cL_goes 6 = .ok (.iaload, 1) := by decide +kernel
theorem dL_goes_7 : decode cL_goes 7 = .ok (.ifCond .le 14, 3) := by decide +kernel
theorem dL_goes_10 : decode cL_goes 10 = .ok (.aload 4, 2) := by decide +kernel
theorem dL_goes_12 : decode cL_goes 12 = .ok (.aload_n 3, 1) := by decide +kernel
theorem dL_goes_13 : decode cL_goes 13 = .ok (.iconst 0, 1) := by decide +kernel
theorem dL_goes_14 : decode cL_goes 14 = .ok (.iaload, 1) := by decide +kernel
theorem dL_goes_15 : decode cL_goes 15 = .ok (.iconst 1, 1) := by decide +kernel
theorem dL_goes_16 : decode cL_goes 16 = .ok (.isub, 1) := by decide +kernel
theorem dL_goes_17 : decode cL_goes 17 = .ok (.iaload, 1) := by decide +kernel
theorem dL_goes_18 : decode cL_goes 18 = .ok (.goto 6, 3) := by decide +kernel
theorem dL_goes_21 : decode cL_goes 21 = .ok (.sipush 1000, 3) := by decide +kernel
theorem dL_goes_24 : decode cL_goes 24 = .ok (.istore 11, 2) := by decide +kernel
theorem dL_goes_26 : decode cL_goes 26 = .ok (.iload_n 2, 1) := by decide +kernel
theorem dL_goes_27 : decode cL_goes 27 = .ok (.bipush 50, 2) := by decide +kernel
theorem dL_goes_29 : decode cL_goes 29 = .ok (.invokestatic 93, 3) := by decide +kernel
theorem dL_goes_32 : decode cL_goes 32 = .ok (.ifCond .ne 16, 3) := by decide +kernel
theorem dL_goes_35 : decode cL_goes 35 = .ok (.ldc 96, 2) := by decide +kernel
theorem dL_goes_37 : decode cL_goes 37 = .ok (.iload_n 2, 1) := by decide +kernel
theorem dL_goes_38 : decode cL_goes 38 = .ok (.iconst 3, 1) := by decide +kernel
theorem dL_goes_39 : decode cL_goes 39 = .ok (.ishr, 1) := by decide +kernel
theorem dL_goes_40 : decode cL_goes 40 = .ok (.iconst 2, 1) := by decide +kernel
theorem dL_goes_41 : decode cL_goes 41 = .ok (.invokestatic 93, 3) := by decide +kernel
theorem dL_goes_44 : decode cL_goes 44 = .ok (.imul, 1) := by decide +kernel
theorem dL_goes_45 : decode cL_goes 45 = .ok (.goto 46, 3) := by decide +kernel
theorem dL_goes_48 : decode cL_goes 48 = .ok (.iload_n 2, 1) := by decide +kernel
theorem dL_goes_49 : decode cL_goes 49 = .ok (.iconst 3, 1) := by decide +kernel
theorem dL_goes_50 : decode cL_goes 50 = .ok (.ishr, 1) := by decide +kernel
theorem dL_goes_51 : decode cL_goes 51 = .ok (.bipush 12, 2) := by decide +kernel
theorem dL_goes_53 : decode cL_goes 53 = .ok (.invokestatic 93, 3) := by decide +kernel
theorem dL_goes_56 : decode cL_goes 56 = .ok (.ifCond .ne 16, 3) := by decide +kernel
theorem dL_goes_59 : decode cL_goes 59 = .ok (.iconst 1, 1) := by decide +kernel
theorem dL_goes_60 : decode cL_goes 60 = .ok (.iload_n 2, 1) := by decide +kernel
theorem dL_goes_61 : decode cL_goes 61 = .ok (.iconst 5, 1) := by decide +kernel
theorem dL_goes_62 : decode cL_goes 62 = .ok (.ishr, 1) := by decide +kernel
theorem dL_goes_63 : decode cL_goes 63 = .ok (.bipush 100, 2) := by decide +kernel
theorem dL_goes_65 : decode cL_goes 65 = .ok (.invokestatic 93, 3) := by decide +kernel
theorem dL_goes_68 : decode cL_goes 68 = .ok (.iadd, 1) := by decide +kernel
theorem dL_goes_69 : decode cL_goes 69 = .ok (.goto 22, 3) := by decide +kernel
theorem dL_goes_72 : decode cL_goes 72 = .ok (.iload 11, 2) := by decide +kernel
theorem dL_goes_74 : decode cL_goes 74 = .ok (.bipush 70, 2) := by decide +kernel
theorem dL_goes_76 : decode cL_goes 76 = .ok (.iload_n 2, 1) := by decide +kernel
theorem dL_goes_77 : decode cL_goes 77 = .ok (.iconst 4, 1) := by decide +kernel
theorem dL_goes_78 : decode cL_goes 78 = .ok (.ishr, 1) := by decide +kernel
theorem dL_goes_79 : decode cL_goes 79 = .ok (.bipush 70, 2) := by decide +kernel
theorem dL_goes_81 : decode cL_goes 81 = .ok (.invokestatic 93, 3) := by decide +kernel
theorem dL_goes_84 : decode cL_goes 84 = .ok (.iadd, 1) := by decide +kernel
theorem dL_goes_85 : decode cL_goes 85 = .ok (.imul, 1) := by decide +kernel
theorem dL_goes_86 : decode cL_goes 86 = .ok (.bipush 100, 2) := by decide +kernel
theorem dL_goes_88 : decode cL_goes 88 = .ok (.idiv, 1) := by decide +kernel
theorem dL_goes_89 : decode cL_goes 89 = .ok (.iconst 1, 1) := by decide +kernel
theorem dL_goes_90 : decode cL_goes 90 = .ok (.iadd, 1) := by decide +kernel
theorem dL_goes_91 : decode cL_goes 91 = .ok (.istore 12, 2) := by decide +kernel
theorem dL_goes_93 : decode cL_goes 93 = .ok (.iload 12, 2) := by decide +kernel
theorem dL_goes_95 : decode cL_goes 95 = .ok (.ldc 97, 2) := by decide +kernel
theorem dL_goes_97 : decode cL_goes 97 = .ok (.if_icmp .le 15, 3) := by decide +kernel
theorem dL_goes_100 : decode cL_goes 100 = .ok (.iload 12, 2) := by decide +kernel
theorem dL_goes_102 : decode cL_goes 102 = .ok (.ldc 96, 2) := by decide +kernel
theorem dL_goes_104 : decode cL_goes 104 = .ok (.if_icmp .eq 8, 3) := by decide +kernel
theorem dL_goes_107 : decode cL_goes 107 = .ok (.ldc 97, 2) := by decide +kernel
theorem dL_goes_109 : decode cL_goes 109 = .ok (.goto 5, 3) := by decide +kernel
theorem dL_goes_112 : decode cL_goes 112 = .ok (.iload 12, 2) := by decide +kernel
theorem dL_goes_114 : decode cL_goes 114 = .ok (.istore 12, 2) := by decide +kernel
theorem dL_goes_116 : decode cL_goes 116 = .ok (.iload 12, 2) := by decide +kernel
theorem dL_goes_118 : decode cL_goes 118 = .ok (.ifCond .le 14, 3) := by decide +kernel
theorem dL_goes_121 : decode cL_goes 121 = .ok (.iload 12, 2) := by decide +kernel
theorem dL_goes_123 : decode cL_goes 123 = .ok (.ldc 96, 2) := by decide +kernel
theorem dL_goes_125 : decode cL_goes 125 = .ok (.if_icmp .ge 7, 3) := by decide +kernel
theorem dL_goes_128 : decode cL_goes 128 = .ok (.iconst 1, 1) := by decide +kernel
theorem dL_goes_129 : decode cL_goes 129 = .ok (.goto 4, 3) := by decide +kernel
theorem dL_goes_132 : decode cL_goes 132 = .ok (.iconst 0, 1) := by decide +kernel
theorem dL_goes_133 : decode cL_goes 133 = .ok (.istore 13, 2) := by decide +kernel
theorem dL_goes_135 : decode cL_goes 135 = .ok (.aload_n 3, 1) := by decide +kernel
theorem dL_goes_136 : decode cL_goes 136 = .ok (.iconst 0, 1) := by decide +kernel
theorem dL_goes_137 : decode cL_goes 137 = .ok (.iaload, 1) := by decide +kernel
theorem dL_goes_138 : decode cL_goes 138 = .ok (.bipush 60, 2) := by decide +kernel
theorem dL_goes_140 : decode cL_goes 140 = .ok (.if_icmp .ge 7, 3) := by decide +kernel
theorem dL_goes_143 : decode cL_goes 143 = .ok (.iconst 1, 1) := by decide +kernel
theorem dL_goes_144 : decode cL_goes 144 = .ok (.goto 4, 3) := by decide +kernel
theorem dL_goes_147 : decode cL_goes 147 = .ok (.iconst 0, 1) := by decide +kernel
theorem dL_goes_148 : decode cL_goes 148 = .ok (.istore 14, 2) := by decide +kernel
theorem dL_goes_150 : decode cL_goes 150 = .ok (.iload 13, 2) := by decide +kernel
theorem dL_goes_152 : decode cL_goes 152 = .ok (.ifCond .eq 85, 3) := by decide +kernel
theorem dL_goes_155 : decode cL_goes 155 = .ok (.iload 14, 2) := by decide +kernel
theorem dL_goes_157 : decode cL_goes 157 = .ok (.ifCond .eq 80, 3) := by decide +kernel
theorem dL_goes_160 : decode cL_goes 160 = .ok (.iconst 0, 1) := by decide +kernel
theorem dL_goes_161 : decode cL_goes 161 = .ok (.istore 15, 2) := by decide +kernel
theorem dL_goes_163 : decode cL_goes 163 = .ok (.iload 15, 2) := by decide +kernel
theorem dL_goes_165 : decode cL_goes 165 = .ok (.aload_n 3, 1) := by decide +kernel
theorem dL_goes_166 : decode cL_goes 166 = .ok (.iconst 1, 1) := by decide +kernel
theorem dL_goes_167 : decode cL_goes 167 = .ok (.iaload, 1) := by decide +kernel
theorem dL_goes_168 : decode cL_goes 168 = .ok (.if_icmp .ge 54, 3) := by decide +kernel
theorem dL_goes_171 : decode cL_goes 171 = .ok (.aload_n 3, 1) := by decide +kernel
theorem dL_goes_172 : decode cL_goes 172 = .ok (.iconst 0, 1) := by decide +kernel
theorem dL_goes_173 : decode cL_goes 173 = .ok (.iaload, 1) := by decide +kernel
theorem dL_goes_174 : decode cL_goes 174 = .ok (.bipush 6, 2) := by decide +kernel
theorem dL_goes_176 : decode cL_goes 176 = .ok (.irem, 1) := by decide +kernel
theorem dL_goes_177 : decode cL_goes 177 = .ok (.ifCond .ne 45, 3) := by decide +kernel
theorem dL_goes_180 : decode cL_goes 180 = .ok (.aload_n 3, 1) := by decide +kernel
theorem dL_goes_181 : decode cL_goes 181 = .ok (.iconst 0, 1) := by decide +kernel
theorem dL_goes_182 : decode cL_goes 182 = .ok (.iaload, 1) := by decide +kernel
theorem dL_goes_183 : decode cL_goes 183 = .ok (.ifCond .le 39, 3) := by decide +kernel
theorem dL_goes_186 : decode cL_goes 186 = .ok (.aload 5, 2) := by decide +kernel
theorem dL_goes_188 : decode cL_goes 188 = .ok (.iconst 4, 1) := by decide +kernel
theorem dL_goes_189 : decode cL_goes 189 = .ok (.iload 15, 2) := by decide +kernel
theorem dL_goes_191 : decode cL_goes 191 = .ok (.iadd, 1) := by decide +kernel
theorem dL_goes_192 : decode cL_goes 192 = .ok (.iaload, 1) := by decide +kernel
theorem dL_goes_193 : decode cL_goes 193 = .ok (.ifCond .ne 23, 3) := by decide +kernel
theorem dL_goes_196 : decode cL_goes 196 = .ok (.aload_n 3, 1) := by decide +kernel
theorem dL_goes_197 : decode cL_goes 197 = .ok (.aload 4, 2) := by decide +kernel
theorem dL_goes_199 : decode cL_goes 199 = .ok (.aload 5, 2) := by decide +kernel
theorem dL_goes_201 : decode cL_goes 201 = .ok (.aload 6, 2) := by decide +kernel
theorem dL_goes_203 : decode cL_goes 203 = .ok (.aload 7, 2) := by decide +kernel
theorem dL_goes_205 : decode cL_goes 205 = .ok (.aload 8, 2) := by decide +kernel
theorem dL_goes_207 : decode cL_goes 207 = .ok (.aload 9, 2) := by decide +kernel
theorem dL_goes_209 : decode cL_goes 209 = .ok (.aload 10, 2) := by decide +kernel
theorem dL_goes_211 : decode cL_goes 211 = .ok (.iload 15, 2) := by decide +kernel
theorem dL_goes_213 : decode cL_goes 213 = .ok (.invokestatic 98, 3) := by decide +kernel
theorem dL_goes_216 : decode cL_goes 216 = .ok (.iinc 15 1, 3) := by decide +kernel
theorem dL_goes_219 : decode cL_goes 219 = .ok (.goto (-56), 3) := by decide +kernel
theorem dL_goes_222 : decode cL_goes 222 = .ok (.aload 4, 2) := by decide +kernel
theorem dL_goes_224 : decode cL_goes 224 = .ok (.aload_n 3, 1) := by decide +kernel
theorem dL_goes_225 : decode cL_goes 225 = .ok (.iconst 0, 1) := by decide +kernel
theorem dL_goes_226 : decode cL_goes 226 = .ok (.iaload, 1) := by decide +kernel
theorem dL_goes_227 : decode cL_goes 227 = .ok (.iload 12, 2) := by decide +kernel
theorem dL_goes_229 : decode cL_goes 229 = .ok (.iastore, 1) := by decide +kernel
theorem dL_goes_230 : decode cL_goes 230 = .ok (.aload_n 3, 1) := by decide +kernel
theorem dL_goes_231 : decode cL_goes 231 = .ok (.iconst 0, 1) := by decide +kernel
theorem dL_goes_232 : decode cL_goes 232 = .ok (.dup2, 1) := by decide +kernel
theorem dL_goes_233 : decode cL_goes 233 = .ok (.iaload, 1) := by decide +kernel
theorem dL_goes_234 : decode cL_goes 234 = .ok (.iconst 1, 1) := by decide +kernel
theorem dL_goes_235 : decode cL_goes 235 = .ok (.iadd, 1) := by decide +kernel
theorem dL_goes_236 : decode cL_goes 236 = .ok (.iastore, 1) := by decide +kernel
theorem dL_goes_237 : decode cL_goes 237 = .ok (.aload_n 0, 1) := by decide +kernel
theorem dL_goes_238 : decode cL_goes 238 = .ok (.iload 12, 2) := by decide +kernel
theorem dL_goes_240 : decode cL_goes 240 = .ok (.invokestatic 102, 3) := by decide +kernel
theorem dL_goes_243 : decode cL_goes 243 = .ok (.iload 13, 2) := by decide +kernel
theorem dL_goes_245 : decode cL_goes 245 = .ok (.ifCond .ne 8, 3) := by decide +kernel
theorem dL_goes_248 : decode cL_goes 248 = .ok (.bipush (-101), 2) := by decide +kernel
theorem dL_goes_250 : decode cL_goes 250 = .ok (.goto 18, 3) := by decide +kernel
theorem dL_goes_253 : decode cL_goes 253 = .ok (.iload 14, 2) := by decide +kernel
theorem dL_goes_255 : decode cL_goes 255 = .ok (.ifCond .eq 11, 3) := by decide +kernel
theorem dL_goes_258 : decode cL_goes 258 = .ok (.aload_n 3, 1) := by decide +kernel
theorem dL_goes_259 : decode cL_goes 259 = .ok (.iconst 0, 1) := by decide +kernel
theorem dL_goes_260 : decode cL_goes 260 = .ok (.iaload, 1) := by decide +kernel
theorem dL_goes_261 : decode cL_goes 261 = .ok (.iconst 1, 1) := by decide +kernel
theorem dL_goes_262 : decode cL_goes 262 = .ok (.isub, 1) := by decide +kernel
theorem dL_goes_263 : decode cL_goes 263 = .ok (.goto 5, 3) := by decide +kernel
theorem dL_goes_266 : decode cL_goes 266 = .ok (.bipush (-102), 2) := by decide +kernel
theorem dL_goes_268 : decode cL_goes 268 = .ok (.if_icmp .ne 7, 3) := by decide +kernel
theorem dL_goes_271 : decode cL_goes 271 = .ok (.iconst 1, 1) := by decide +kernel
theorem dL_goes_272 : decode cL_goes 272 = .ok (.goto 4, 3) := by decide +kernel
theorem dL_goes_275 : decode cL_goes 275 = .ok (.iconst 0, 1) := by decide +kernel
theorem dL_goes_276 : decode cL_goes 276 = .ok (.ireturn, 1) := by decide +kernel
theorem dL_goes_277 : decode cL_goes 277 = .ok (.iload_n 1, 1) := by decide +kernel
theorem dL_goes_278 : decode cL_goes 278 = .ok (.iconst 1, 1) := by decide +kernel
theorem dL_goes_279 : decode cL_goes 279 = .ok (.if_icmp .ne 92, 3) := by decide +kernel
theorem dL_goes_282 : decode cL_goes 282 = .ok (.iload_n 2, 1) := by decide +kernel
theorem dL_goes_283 : decode cL_goes 283 = .ok (.bipush 30, 2) := by decide +kernel
theorem dL_goes_285 : decode cL_goes 285 = .ok (.invokestatic 93, 3) := by decide +kernel
theorem dL_goes_288 : decode cL_goes 288 = .ok (.ifCond .ne 8, 3) := by decide +kernel
theorem dL_goes_291 : decode cL_goes 291 = .ok (.ldc 106, 2) := by decide +kernel
theorem dL_goes_293 : decode cL_goes 293 = .ok (.goto 24, 3) := by decide +kernel
theorem dL_goes_296 : decode cL_goes 296 = .ok (.iload_n 2, 1) := by decide +kernel
theorem dL_goes_297 : decode cL_goes 297 = .ok (.iconst 3, 1) := by decide +kernel
theorem dL_goes_298 : decode cL_goes 298 = .ok (.ishr, 1) := by decide +kernel
theorem dL_goes_299 : decode cL_goes 299 = .ok (.iconst 3, 1) := by decide +kernel
theorem dL_goes_300 : decode cL_goes 300 = .ok (.invokestatic 93, 3) := by decide +kernel
theorem dL_goes_303 : decode cL_goes 303 = .ok (.ifCond .ne 8, 3) := by decide +kernel
theorem dL_goes_306 : decode cL_goes 306 = .ok (.ldc 107, 2) := by decide +kernel
theorem dL_goes_308 : decode cL_goes 308 = .ok (.goto 9, 3) := by decide +kernel
theorem dL_goes_311 : decode cL_goes 311 = .ok (.iload_n 2, 1) := by decide +kernel
theorem dL_goes_312 : decode cL_goes 312 = .ok (.ldc 108, 2) := by decide +kernel
theorem dL_goes_314 : decode cL_goes 314 = .ok (.invokestatic 93, 3) := by decide +kernel
theorem dL_goes_317 : decode cL_goes 317 = .ok (.istore 11, 2) := by decide +kernel
theorem dL_goes_319 : decode cL_goes 319 = .ok (.aload_n 3, 1) := by decide +kernel
theorem dL_goes_320 : decode cL_goes 320 = .ok (.iconst 2, 1) := by decide +kernel
theorem dL_goes_321 : decode cL_goes 321 = .ok (.iaload, 1) := by decide +kernel
theorem dL_goes_322 : decode cL_goes 322 = .ok (.istore 12, 2) := by decide +kernel
theorem dL_goes_324 : decode cL_goes 324 = .ok (.aload_n 3, 1) := by decide +kernel
theorem dL_goes_325 : decode cL_goes 325 = .ok (.iconst 2, 1) := by decide +kernel
theorem dL_goes_326 : decode cL_goes 326 = .ok (.iload 11, 2) := by decide +kernel
theorem dL_goes_328 : decode cL_goes 328 = .ok (.ldc 106, 2) := by decide +kernel
theorem dL_goes_330 : decode cL_goes 330 = .ok (.if_icmp .ge 8, 3) := by decide +kernel
theorem dL_goes_333 : decode cL_goes 333 = .ok (.iload 11, 2) := by decide +kernel
theorem dL_goes_335 : decode cL_goes 335 = .ok (.goto 5, 3) := by decide +kernel
theorem dL_goes_338 : decode cL_goes 338 = .ok (.iload 12, 2) := by decide +kernel
theorem dL_goes_340 : decode cL_goes 340 = .ok (.iastore, 1) := by decide +kernel
theorem dL_goes_341 : decode cL_goes 341 = .ok (.aload_n 0, 1) := by decide +kernel
theorem dL_goes_342 : decode cL_goes 342 = .ok (.iconst 0, 1) := by decide +kernel
theorem dL_goes_343 : decode cL_goes 343 = .ok (.iload 11, 2) := by decide +kernel
theorem dL_goes_345 : decode cL_goes 345 = .ok (.invokestatic 109, 3) := by decide +kernel
theorem dL_goes_348 : decode cL_goes 348 = .ok (.iload 11, 2) := by decide +kernel
theorem dL_goes_350 : decode cL_goes 350 = .ok (.ldc 106, 2) := by decide +kernel
theorem dL_goes_352 : decode cL_goes 352 = .ok (.if_icmp .ge 8, 3) := by decide +kernel
theorem dL_goes_355 : decode cL_goes 355 = .ok (.iload 12, 2) := by decide +kernel
theorem dL_goes_357 : decode cL_goes 357 = .ok (.goto 5, 3) := by decide +kernel
theorem dL_goes_360 : decode cL_goes 360 = .ok (.bipush (-101), 2) := by decide +kernel
theorem dL_goes_362 : decode cL_goes 362 = .ok (.if_icmp .ne 7, 3) := by decide +kernel
theorem dL_goes_365 : decode cL_goes 365 = .ok (.iconst 1, 1) := by decide +kernel
theorem dL_goes_366 : decode cL_goes 366 = .ok (.goto 4, 3) := by decide +kernel
theorem dL_goes_369 : decode cL_goes 369 = .ok (.iconst 0, 1) := by decide +kernel
theorem dL_goes_370 : decode cL_goes 370 = .ok (.ireturn, 1) := by decide +kernel
theorem dL_goes_371 : decode cL_goes 371 = .ok (.iload_n 2, 1) := by decide +kernel
theorem dL_goes_372 : decode cL_goes 372 = .ok (.bipush 30, 2) := by decide +kernel
theorem dL_goes_374 : decode cL_goes 374 = .ok (.invokestatic 93, 3) := by decide +kernel
theorem dL_goes_377 : decode cL_goes 377 = .ok (.ifCond .ne 16, 3) := by decide +kernel
theorem dL_goes_380 : decode cL_goes 380 = .ok (.bipush 16, 2) := by decide +kernel
theorem dL_goes_382 : decode cL_goes 382 = .ok (.iload_n 2, 1) := by decide +kernel
theorem dL_goes_383 : decode cL_goes 383 = .ok (.iconst 3, 1) := by decide +kernel
theorem dL_goes_384 : decode cL_goes 384 = .ok (.ishr, 1) := by decide +kernel
theorem dL_goes_385 : decode cL_goes 385 = .ok (.iconst 2, 1) := by decide +kernel
theorem dL_goes_386 : decode cL_goes 386 = .ok (.invokestatic 93, 3) := by decide +kernel
theorem dL_goes_389 : decode cL_goes 389 = .ok (.imul, 1) := by decide +kernel
theorem dL_goes_390 : decode cL_goes 390 = .ok (.goto 11, 3) := by decide +kernel
theorem dL_goes_393 : decode cL_goes 393 = .ok (.iconst 1, 1) := by decide +kernel
theorem dL_goes_394 : decode cL_goes 394 = .ok (.iload_n 2, 1) := by decide +kernel
theorem dL_goes_395 : decode cL_goes 395 = .ok (.bipush 15, 2) := by decide +kernel
theorem dL_goes_397 : decode cL_goes 397 = .ok (.invokestatic 93, 3) := by decide +kernel
theorem dL_goes_400 : decode cL_goes 400 = .ok (.iadd, 1) := by decide +kernel
theorem dL_goes_401 : decode cL_goes 401 = .ok (.istore 11, 2) := by decide +kernel
theorem dL_goes_403 : decode cL_goes 403 = .ok (.iload 11, 2) := by decide +kernel
theorem dL_goes_405 : decode cL_goes 405 = .ok (.ifCond .le 14, 3) := by decide +kernel
theorem dL_goes_408 : decode cL_goes 408 = .ok (.iload 11, 2) := by decide +kernel
theorem dL_goes_410 : decode cL_goes 410 = .ok (.bipush 16, 2) := by decide +kernel
theorem dL_goes_412 : decode cL_goes 412 = .ok (.if_icmp .ge 7, 3) := by decide +kernel
theorem dL_goes_415 : decode cL_goes 415 = .ok (.iconst 1, 1) := by decide +kernel
theorem dL_goes_416 : decode cL_goes 416 = .ok (.goto 4, 3) := by decide +kernel
theorem dL_goes_419 : decode cL_goes 419 = .ok (.iconst 0, 1) := by decide +kernel
theorem dL_goes_420 : decode cL_goes 420 = .ok (.istore 12, 2) := by decide +kernel
theorem dL_goes_422 : decode cL_goes 422 = .ok (.iload_n 1, 1) := by decide +kernel
theorem dL_goes_423 : decode cL_goes 423 = .ok (.iconst 2, 1) := by decide +kernel
theorem dL_goes_424 : decode cL_goes 424 = .ok (.if_icmp .ne 99, 3) := by decide +kernel
theorem dL_goes_427 : decode cL_goes 427 = .ok (.iload 12, 2) := by decide +kernel
theorem dL_goes_429 : decode cL_goes 429 = .ok (.ifCond .eq 18, 3) := by decide +kernel
theorem dL_goes_432 : decode cL_goes 432 = .ok (.aload_n 3, 1) := by decide +kernel
theorem dL_goes_433 : decode cL_goes 433 = .ok (.iconst 1, 1) := by decide +kernel
theorem dL_goes_434 : decode cL_goes 434 = .ok (.iaload, 1) := by decide +kernel
theorem dL_goes_435 : decode cL_goes 435 = .ok (.iconst 4, 1) := by decide +kernel
theorem dL_goes_436 : decode cL_goes 436 = .ok (.if_icmp .ne 11, 3) := by decide +kernel
theorem dL_goes_439 : decode cL_goes 439 = .ok (.aload_n 3, 1) := by decide +kernel
theorem dL_goes_440 : decode cL_goes 440 = .ok (.iconst 0, 1) := by decide +kernel
theorem dL_goes_441 : decode cL_goes 441 = .ok (.iaload, 1) := by decide +kernel
theorem dL_goes_442 : decode cL_goes 442 = .ok (.ifCond .le 5, 3) := by decide +kernel
theorem dL_goes_445 : decode cL_goes 445 = .ok (.iconst 1, 1) := by decide +kernel
theorem dL_goes_446 : decode cL_goes 446 = .ok (.ireturn, 1) := by decide +kernel
theorem dL_goes_447 : decode cL_goes 447 = .ok (.iload 12, 2) := by decide +kernel
theorem dL_goes_449 : decode cL_goes 449 = .ok (.ifCond .ne 8, 3) := by decide +kernel
theorem dL_goes_452 : decode cL_goes 452 = .ok (.bipush (-101), 2) := by decide +kernel
theorem dL_goes_454 : decode cL_goes 454 = .ok (.goto 17, 3) := by decide +kernel
theorem dL_goes_457 : decode cL_goes 457 = .ok (.aload_n 3, 1) := by decide +kernel
theorem dL_goes_458 : decode cL_goes 458 = .ok (.iconst 0, 1) := by decide +kernel
theorem dL_goes_459 : decode cL_goes 459 = .ok (.iaload, 1) := by decide +kernel
theorem dL_goes_460 : decode cL_goes 460 = .ok (.ifCond .ne 8, 3) := by decide +kernel
theorem dL_goes_463 : decode cL_goes 463 = .ok (.bipush (-102), 2) := by decide +kernel
theorem dL_goes_465 : decode cL_goes 465 = .ok (.goto 6, 3) := by decide +kernel
theorem dL_goes_468 : decode cL_goes 468 = .ok (.aload_n 3, 1) := by decide +kernel
theorem dL_goes_469 : decode cL_goes 469 = .ok (.iconst 1, 1) := by decide +kernel
theorem dL_goes_470 : decode cL_goes 470 = .ok (.iaload, 1) := by decide +kernel
theorem dL_goes_471 : decode cL_goes 471 = .ok (.istore 13, 2) := by decide +kernel
theorem dL_goes_473 : decode cL_goes 473 = .ok (.iload 13, 2) := by decide +kernel
theorem dL_goes_475 : decode cL_goes 475 = .ok (.ifCond .lt 30, 3) := by decide +kernel
theorem dL_goes_478 : decode cL_goes 478 = .ok (.aload 5, 2) := by decide +kernel
theorem dL_goes_480 : decode cL_goes 480 = .ok (.iload 13, 2) := by decide +kernel
theorem dL_goes_482 : decode cL_goes 482 = .ok (.iload 11, 2) := by decide +kernel
theorem dL_goes_484 : decode cL_goes 484 = .ok (.iastore, 1) := by decide +kernel
theorem dL_goes_485 : decode cL_goes 485 = .ok (.aload 5, 2) := by decide +kernel
theorem dL_goes_487 : decode cL_goes 487 = .ok (.bipush 12, 2) := by decide +kernel
theorem dL_goes_489 : decode cL_goes 489 = .ok (.iload 13, 2) := by decide +kernel
theorem dL_goes_491 : decode cL_goes 491 = .ok (.iadd, 1) := by decide +kernel
theorem dL_goes_492 : decode cL_goes 492 = .ok (.aload_n 3, 1) := by decide +kernel
theorem dL_goes_493 : decode cL_goes 493 = .ok (.iconst 0, 1) := by decide +kernel
theorem dL_goes_494 : decode cL_goes 494 = .ok (.iaload, 1) := by decide +kernel
theorem dL_goes_495 : decode cL_goes 495 = .ok (.iconst 1, 1) := by decide +kernel
theorem dL_goes_496 : decode cL_goes 496 = .ok (.isub, 1) := by decide +kernel
theorem dL_goes_497 : decode cL_goes 497 = .ok (.iastore, 1) := by decide +kernel
theorem dL_goes_498 : decode cL_goes 498 = .ok (.aload_n 3, 1) := by decide +kernel
theorem dL_goes_499 : decode cL_goes 499 = .ok (.iconst 1, 1) := by decide +kernel
theorem dL_goes_500 : decode cL_goes 500 = .ok (.dup2, 1) := by decide +kernel
