theorem dX0_init_0 : decode cX0_init 0 = .ok (.aload_n 0, 1) := by decide +kernel
theorem dX0_init_1 : decode cX0_init 1 = .ok (.invokespecial 3, 3) := by decide +kernel
theorem dX0_init_4 : decode cX0_init 4 = .ok (.aload_n 0, 1) := by decide +kernel
theorem dX0_init_5 : decode cX0_init 5 = .ok (.iload_n 1, 1) := by decide +kernel
theorem dX0_init_6 : decode cX0_init 6 = .ok (.putfield 9, 3) := by decide +kernel
theorem dX0_init_9 : decode cX0_init 9 = .ok (.aload_n 0, 1) := by decide +kernel
theorem dX0_init_10 : decode cX0_init 10 = .ok (.iload_n 2, 1) := by decide +kernel
theorem dX0_init_11 : decode cX0_init 11 = .ok (.putfield 15, 3) := by decide +kernel
theorem dX0_init_14 : decode cX0_init 14 = .ok (.aload_n 0, 1) := by decide +kernel
theorem dX0_init_15 : decode cX0_init 15 = .ok (.iload_n 3, 1) := by decide +kernel
theorem dX0_init_16 : decode cX0_init 16 = .ok (.putfield 18, 3) := by decide +kernel
theorem dX0_init_19 : decode cX0_init 19 = .ok (.aload_n 0, 1) := by decide +kernel
theorem dX0_init_20 : decode cX0_init 20 = .ok (.iload 4, 2) := by decide +kernel
theorem dX0_init_22 : decode cX0_init 22 = .ok (.putfield 21, 3) := by decide +kernel
theorem dX0_init_25 : decode cX0_init 25 = .ok (.aload_n 0, 1) := by decide +kernel
theorem dX0_init_26 : decode cX0_init 26 = .ok (.iload 5, 2) := by decide +kernel
theorem dX0_init_28 : decode cX0_init 28 = .ok (.putfield 24, 3) := by decide +kernel
theorem dX0_init_31 : decode cX0_init 31 = .ok (.aload_n 0, 1) := by decide +kernel
theorem dX0_init_32 : decode cX0_init 32 = .ok (.iload 6, 2) := by decide +kernel
theorem dX0_init_34 : decode cX0_init 34 = .ok (.putfield 27, 3) := by decide +kernel
theorem dX0_init_37 : decode cX0_init 37 = .ok (.aload_n 0, 1) := by decide +kernel
theorem dX0_init_38 : decode cX0_init 38 = .ok (.iload 6, 2) := by decide +kernel
theorem dX0_init_40 : decode cX0_init 40 = .ok (.putfield 30, 3) := by decide +kernel
theorem dX0_init_43 : decode cX0_init 43 = .ok (.return_, 1) := by decide +kernel
theorem dX0_isEarly_0 : decode cX0_isEarly 0 = .ok (.iload_n 1, 1) := by decide +kernel
theorem dX0_isEarly_1 : decode cX0_isEarly 1 = .ok (.aload_n 0, 1) := by decide +kernel
theorem dX0_isEarly_2 : decode cX0_isEarly 2 = .ok (.getfield 21, 3) := by decide +kernel
theorem dX0_isEarly_5 : decode cX0_isEarly 5 = .ok (.isub, 1) := by decide +kernel
theorem dX0_isEarly_6 : decode cX0_isEarly 6 = .ok (.bipush 24, 2) := by decide +kernel
theorem dX0_isEarly_8 : decode cX0_isEarly 8 = .ok (.if_icmp .lt 14, 3) := by decide +kernel
theorem dX0_isEarly_11 : decode cX0_isEarly 11 = .ok (.iload_n 1, 1) := by decide +kernel
theorem dX0_isEarly_12 : decode cX0_isEarly 12 = .ok (.aload_n 0, 1) := by decide +kernel
theorem dX0_isEarly_13 : decode cX0_isEarly 13 = .ok (.getfield 9, 3) := by decide +kernel
theorem dX0_isEarly_16 : decode cX0_isEarly 16 = .ok (.isub, 1) := by decide +kernel
theorem dX0_isEarly_17 : decode cX0_isEarly 17 = .ok (.bipush 12, 2) := by decide +kernel
theorem dX0_isEarly_19 : decode cX0_isEarly 19 = .ok (.if_icmp .ge 7, 3) := by decide +kernel
theorem dX0_isEarly_22 : decode cX0_isEarly 22 = .ok (.iconst 1, 1) := by decide +kernel
theorem dX0_isEarly_23 : decode cX0_isEarly 23 = .ok (.goto 4, 3) := by decide +kernel
theorem dX0_isEarly_26 : decode cX0_isEarly 26 = .ok (.iconst 0, 1) := by decide +kernel
theorem dX0_isEarly_27 : decode cX0_isEarly 27 = .ok (.ireturn, 1) := by decide +kernel
theorem dX0_payEach_0 : decode cX0_payEach 0 = .ok (.aload_n 0, 1) := by decide +kernel
theorem dX0_payEach_1 : decode cX0_payEach 1 = .ok (.iload_n 1, 1) := by decide +kernel
theorem dX0_payEach_2 : decode cX0_payEach 2 = .ok (.invokevirtual 33, 3) := by decide +kernel
theorem dX0_payEach_5 : decode cX0_payEach 5 = .ok (.ifCond .eq 14, 3) := by decide +kernel
theorem dX0_payEach_8 : decode cX0_payEach 8 = .ok (.aload_n 0, 1) := by decide +kernel
theorem dX0_payEach_9 : decode cX0_payEach 9 = .ok (.getfield 15, 3) := by decide +kernel
theorem dX0_payEach_12 : decode cX0_payEach 12 = .ok (.aload_n 0, 1) := by decide +kernel
theorem dX0_payEach_13 : decode cX0_payEach 13 = .ok (.getfield 18, 3) := by decide +kernel
theorem dX0_payEach_16 : decode cX0_payEach 16 = .ok (.isub, 1) := by decide +kernel
theorem dX0_payEach_17 : decode cX0_payEach 17 = .ok (.i2l, 1) := by decide +kernel
theorem dX0_payEach_18 : decode cX0_payEach 18 = .ok (.lreturn, 1) := by decide +kernel
theorem dX0_payEach_19 : decode cX0_payEach 19 = .ok (.aload_n 0, 1) := by decide +kernel
theorem dX0_payEach_20 : decode cX0_payEach 20 = .ok (.getfield 24, 3) := by decide +kernel
theorem dX0_payEach_23 : decode cX0_payEach 23 = .ok (.bipush 15, 2) := by decide +kernel
theorem dX0_payEach_25 : decode cX0_payEach 25 = .ok (.imul, 1) := by decide +kernel
theorem dX0_payEach_26 : decode cX0_payEach 26 = .ok (.bipush 100, 2) := by decide +kernel
theorem dX0_payEach_28 : decode cX0_payEach 28 = .ok (.idiv, 1) := by decide +kernel
theorem dX0_payEach_29 : decode cX0_payEach 29 = .ok (.istore_n 3, 1) := by decide +kernel
theorem dX0_payEach_30 : decode cX0_payEach 30 = .ok (.iconst 0, 1) := by decide +kernel
theorem dX0_payEach_31 : decode cX0_payEach 31 = .ok (.iload_n 3, 1) := by decide +kernel
theorem dX0_payEach_32 : decode cX0_payEach 32 = .ok (.iload_n 2, 1) := by decide +kernel
theorem dX0_payEach_33 : decode cX0_payEach 33 = .ok (.aload_n 0, 1) := by decide +kernel
theorem dX0_payEach_34 : decode cX0_payEach 34 = .ok (.getfield 18, 3) := by decide +kernel
theorem dX0_payEach_37 : decode cX0_payEach 37 = .ok (.isub, 1) := by decide +kernel
theorem dX0_payEach_38 : decode cX0_payEach 38 = .ok (.invokestatic 37, 3) := by decide +kernel
theorem dX0_payEach_41 : decode cX0_payEach 41 = .ok (.invokestatic 43, 3) := by decide +kernel
theorem dX0_payEach_44 : decode cX0_payEach 44 = .ok (.i2l, 1) := by decide +kernel
theorem dX0_payEach_45 : decode cX0_payEach 45 = .ok (.lreturn, 1) := by decide +kernel
theorem dX0_gainEach_0 : decode cX0_gainEach 0 = .ok (.iload_n 2, 1) := by decide +kernel
theorem dX0_gainEach_1 : decode cX0_gainEach 1 = .ok (.aload_n 0, 1) := by decide +kernel
theorem dX0_gainEach_2 : decode cX0_gainEach 2 = .ok (.getfield 18, 3) := by decide +kernel
theorem dX0_gainEach_5 : decode cX0_gainEach 5 = .ok (.isub, 1) := by decide +kernel
theorem dX0_gainEach_6 : decode cX0_gainEach 6 = .ok (.i2l, 1) := by decide +kernel
theorem dX0_gainEach_7 : decode cX0_gainEach 7 = .ok (.aload_n 0, 1) := by decide +kernel
theorem dX0_gainEach_8 : decode cX0_gainEach 8 = .ok (.iload_n 1, 1) := by decide +kernel
theorem dX0_gainEach_9 : decode cX0_gainEach 9 = .ok (.iload_n 2, 1) := by decide +kernel
theorem dX0_gainEach_10 : decode cX0_gainEach 10 = .ok (.invokevirtual 46, 3) := by decide +kernel
theorem dX0_gainEach_13 : decode cX0_gainEach 13 = .ok (.lsub, 1) := by decide +kernel
theorem dX0_gainEach_14 : decode cX0_gainEach 14 = .ok (.lreturn, 1) := by decide +kernel
theorem dX1_init_0 : decode cX1_init 0 = .ok (.aload_n 0, 1) := by decide +kernel
theorem dX1_init_1 : decode cX1_init 1 = .ok (.invokespecial 3, 3) := by decide +kernel
theorem dX1_init_4 : decode cX1_init 4 = .ok (.aload_n 0, 1) := by decide +kernel
theorem dX1_init_5 : decode cX1_init 5 = .ok (.bipush 10, 2) := by decide +kernel
theorem dX1_init_7 : decode cX1_init 7 = .ok (.anewarray 9, 3) := by decide +kernel
theorem dX1_init_10 : decode cX1_init 10 = .ok (.putfield 11, 3) := by decide +kernel
theorem dX1_init_13 : decode cX1_init 13 = .ok (.aload_n 0, 1) := by decide +kernel
theorem dX1_init_14 : decode cX1_init 14 = .ok (.iconst 5, 1) := by decide +kernel
theorem dX1_init_15 : decode cX1_init 15 = .ok (.newarray .long, 2) := by decide +kernel
theorem dX1_init_17 : decode cX1_init 17 = .ok (.putfield 17, 3) := by decide +kernel
theorem dX1_init_20 : decode cX1_init 20 = .ok (.aload_n 0, 1) := by decide +kernel
theorem dX1_init_21 : decode cX1_init 21 = .ok (.iload_n 1, 1) := by decide +kernel
theorem dX1_init_22 : decode cX1_init 22 = .ok (.putfield 21, 3) := by decide +kernel
theorem dX1_init_25 : decode cX1_init 25 = .ok (.aload_n 0, 1) := by decide +kernel
theorem dX1_init_26 : decode cX1_init 26 = .ok (.iload_n 2, 1) := by decide +kernel
theorem dX1_init_27 : decode cX1_init 27 = .ok (.putfield 25, 3) := by decide +kernel
theorem dX1_init_30 : decode cX1_init 30 = .ok (.aload_n 0, 1) := by decide +kernel
theorem dX1_init_31 : decode cX1_init 31 = .ok (.iload_n 3, 1) := by decide +kernel
theorem dX1_init_32 : decode cX1_init 32 = .ok (.putfield 28, 3) := by decide +kernel
theorem dX1_init_35 : decode cX1_init 35 = .ok (.return_, 1) := by decide +kernel
theorem dX1_takeSlip_0 : decode cX1_takeSlip 0 = .ok (.iload_n 1, 1) := by decide +kernel
theorem dX1_takeSlip_1 : decode cX1_takeSlip 1 = .ok (.aload_n 0, 1) := by decide +kernel
theorem dX1_takeSlip_2 : decode cX1_takeSlip 2 = .ok (.getfield 21, 3) := by decide +kernel
theorem dX1_takeSlip_5 : decode cX1_takeSlip 5 = .ok (.imul, 1) := by decide +kernel
theorem dX1_takeSlip_6 : decode cX1_takeSlip 6 = .ok (.bipush 100, 2) := by decide +kernel
theorem dX1_takeSlip_8 : decode cX1_takeSlip 8 = .ok (.idiv, 1) := by decide +kernel
theorem dX1_takeSlip_9 : decode cX1_takeSlip 9 = .ok (.istore_n 2, 1) := by decide +kernel
theorem dX1_takeSlip_10 : decode cX1_takeSlip 10 = .ok (.aload_n 0, 1) := by decide +kernel
theorem dX1_takeSlip_11 : decode cX1_takeSlip 11 = .ok (.dup, 1) := by decide +kernel
theorem dX1_takeSlip_12 : decode cX1_takeSlip 12 = .ok (.getfield 31, 3) := by decide +kernel
theorem dX1_takeSlip_15 : decode cX1_takeSlip 15 = .ok (.iload_n 2, 1) := by decide +kernel
theorem dX1_takeSlip_16 : decode cX1_takeSlip 16 = .ok (.i2l, 1) := by decide +kernel
theorem dX1_takeSlip_17 : decode cX1_takeSlip 17 = .ok (.ladd, 1) := by decide +kernel
theorem dX1_takeSlip_18 : decode cX1_takeSlip 18 = .ok (.putfield 31, 3) := by decide +kernel
theorem dX1_takeSlip_21 : decode cX1_takeSlip 21 = .ok (.aload_n 0, 1) := by decide +kernel
theorem dX1_takeSlip_22 : decode cX1_takeSlip 22 = .ok (.dup, 1) := by decide +kernel
theorem dX1_takeSlip_23 : decode cX1_takeSlip 23 = .ok (.getfield 35, 3) := by decide +kernel
theorem dX1_takeSlip_26 : decode cX1_takeSlip 26 = .ok (.iload_n 2, 1) := by decide +kernel
theorem dX1_takeSlip_27 : decode cX1_takeSlip 27 = .ok (.i2l, 1) := by decide +kernel
theorem dX1_takeSlip_28 : decode cX1_takeSlip 28 = .ok (.ladd, 1) := by decide +kernel
theorem dX1_takeSlip_29 : decode cX1_takeSlip 29 = .ok (.putfield 35, 3) := by decide +kernel
theorem dX1_takeSlip_32 : decode cX1_takeSlip 32 = .ok (.iload_n 2, 1) := by decide +kernel
theorem dX1_takeSlip_33 : decode cX1_takeSlip 33 = .ok (.ireturn, 1) := by decide +kernel
theorem dX1_giveBack_0 : decode cX1_giveBack 0 = .ok (.aload_n 0, 1) := by decide +kernel
theorem dX1_giveBack_1 : decode cX1_giveBack 1 = .ok (.getfield 31, 3) := by decide +kernel
theorem dX1_giveBack_4 : decode cX1_giveBack 4 = .ok (.lstore_n 1, 1) := by decide +kernel
theorem dX1_giveBack_5 : decode cX1_giveBack 5 = .ok (.aload_n 0, 1) := by decide +kernel
theorem dX1_giveBack_6 : decode cX1_giveBack 6 = .ok (.dup, 1) := by decide +kernel
theorem dX1_giveBack_7 : decode cX1_giveBack 7 = .ok (.getfield 38, 3) := by decide +kernel
theorem dX1_giveBack_10 : decode cX1_giveBack 10 = .ok (.lload_n 1, 1) := by decide +kernel
theorem dX1_giveBack_11 : decode cX1_giveBack 11 = .ok (.ladd, 1) := by decide +kernel
theorem dX1_giveBack_12 : decode cX1_giveBack 12 = .ok (.putfield 38, 3) := by decide +kernel
theorem dX1_giveBack_15 : decode cX1_giveBack 15 = .ok (.aload_n 0, 1) := by decide +kernel
theorem dX1_giveBack_16 : decode cX1_giveBack 16 = .ok (.lconst 0, 1) := by decide +kernel
theorem dX1_giveBack_17 : decode cX1_giveBack 17 = .ok (.putfield 31, 3) := by decide +kernel
theorem dX1_giveBack_20 : decode cX1_giveBack 20 = .ok (.aload_n 0, 1) := by decide +kernel
theorem dX1_giveBack_21 : decode cX1_giveBack 21 = .ok (.iconst 1, 1) := by decide +kernel
theorem dX1_giveBack_22 : decode cX1_giveBack 22 = .ok (.putfield 41, 3) := by decide +kernel
theorem dX1_giveBack_25 : decode cX1_giveBack 25 = .ok (.lload_n 1, 1) := by decide +kernel
theorem dX1_giveBack_26 : decode cX1_giveBack 26 = .ok (.lreturn, 1) := by decide +kernel
theorem dX1_buyShares_0 : decode cX1_buyShares 0 = .ok (.iload_n 1, 1) := by decide +kernel
theorem dX1_buyShares_1 : decode cX1_buyShares 1 = .ok (.bipush 12, 2) := by decide +kernel
theorem dX1_buyShares_3 : decode cX1_buyShares 3 = .ok (.idiv, 1) := by decide +kernel
theorem dX1_buyShares_4 : decode cX1_buyShares 4 = .ok (.istore 4, 2) := by decide +kernel
theorem dX1_buyShares_6 : decode cX1_buyShares 6 = .ok (.aload_n 0, 1) := by decide +kernel
theorem dX1_buyShares_7 : decode cX1_buyShares 7 = .ok (.getfield 28, 3) := by decide +kernel
theorem dX1_buyShares_10 : decode cX1_buyShares 10 = .ok (.iload_n 2, 1) := by decide +kernel
theorem dX1_buyShares_11 : decode cX1_buyShares 11 = .ok (.invokestatic 45, 3) := by decide +kernel
theorem dX1_buyShares_14 : decode cX1_buyShares 14 = .ok (.invokestatic 51, 3) := by decide +kernel
theorem dX1_buyShares_17 : decode cX1_buyShares 17 = .ok (.istore 5, 2) := by decide +kernel
theorem dX1_buyShares_19 : decode cX1_buyShares 19 = .ok (.aload_n 0, 1) := by decide +kernel
theorem dX1_buyShares_20 : decode cX1_buyShares 20 = .ok (.getfield 31, 3) := by decide +kernel
theorem dX1_buyShares_23 : decode cX1_buyShares 23 = .ok (.iload 5, 2) := by decide +kernel
theorem dX1_buyShares_25 : decode cX1_buyShares 25 = .ok (.i2l, 1) := by decide +kernel
theorem dX1_buyShares_26 : decode cX1_buyShares 26 = .ok (.invokestatic 55, 3) := by decide +kernel
theorem dX1_buyShares_29 : decode cX1_buyShares 29 = .ok (.lstore 6, 2) := by decide +kernel
theorem dX1_buyShares_31 : decode cX1_buyShares 31 = .ok (.iload_n 3, 1) := by decide +kernel
theorem dX1_buyShares_32 : decode cX1_buyShares 32 = .ok (.i2l, 1) := by decide +kernel
theorem dX1_buyShares_33 : decode cX1_buyShares 33 = .ok (.aload_n 0, 1) := by decide +kernel
theorem dX1_buyShares_34 : decode cX1_buyShares 34 = .ok (.iload 4, 2) := by decide +kernel
theorem dX1_buyShares_36 : decode cX1_buyShares 36 = .ok (.invokevirtual 59, 3) := by decide +kernel
theorem dX1_buyShares_39 : decode cX1_buyShares 39 = .ok (.lsub, 1) := by decide +kernel
theorem dX1_buyShares_40 : decode cX1_buyShares 40 = .ok (.aload_n 0, 1) := by decide +kernel
theorem dX1_buyShares_41 : decode cX1_buyShares 41 = .ok (.getfield 28, 3) := by decide +kernel
theorem dX1_buyShares_44 : decode cX1_buyShares 44 = .ok (.i2l, 1) := by decide +kernel
theorem dX1_buyShares_45 : decode cX1_buyShares 45 = .ok (.invokestatic 55, 3) := by decide +kernel
theorem dX1_buyShares_48 : decode cX1_buyShares 48 = .ok (.lstore 8, 2) := by decide +kernel
theorem dX1_buyShares_50 : decode cX1_buyShares 50 = .ok (.lload 6, 2) := by decide +kernel
theorem dX1_buyShares_52 : decode cX1_buyShares 52 = .ok (.lload 8, 2) := by decide +kernel
theorem dX1_buyShares_54 : decode cX1_buyShares 54 = .ok (.invokestatic 63, 3) := by decide +kernel
theorem dX1_buyShares_57 : decode cX1_buyShares 57 = .ok (.l2i, 1) := by decide +kernel
theorem dX1_buyShares_58 : decode cX1_buyShares 58 = .ok (.istore 10, 2) := by decide +kernel
theorem dX1_buyShares_60 : decode cX1_buyShares 60 = .ok (.iload 10, 2) := by decide +kernel
theorem dX1_buyShares_62 : decode cX1_buyShares 62 = .ok (.ifCond .le 75, 3) := by decide +kernel
theorem dX1_buyShares_65 : decode cX1_buyShares 65 = .ok (.aload_n 0, 1) := by decide +kernel
theorem dX1_buyShares_66 : decode cX1_buyShares 66 = .ok (.new 9, 3) := by decide +kernel
theorem dX1_buyShares_69 : decode cX1_buyShares 69 = .ok (.dup, 1) := by decide +kernel
theorem dX1_buyShares_70 : decode cX1_buyShares 70 = .ok (.iload_n 1, 1) := by decide +kernel
theorem dX1_buyShares_71 : decode cX1_buyShares 71 = .ok (.iload_n 2, 1) := by decide +kernel
theorem dX1_buyShares_72 : decode cX1_buyShares 72 = .ok (.iload 5, 2) := by decide +kernel
theorem dX1_buyShares_74 : decode cX1_buyShares 74 = .ok (.aload_n 0, 1) := by decide +kernel
theorem dX1_buyShares_75 : decode cX1_buyShares 75 = .ok (.getfield 25, 3) := by decide +kernel
theorem dX1_buyShares_78 : decode cX1_buyShares 78 = .ok (.aload_n 0, 1) := by decide +kernel
theorem dX1_buyShares_79 : decode cX1_buyShares 79 = .ok (.getfield 28, 3) := by decide +kernel
theorem dX1_buyShares_82 : decode cX1_buyShares 82 = .ok (.iload 10, 2) := by decide +kernel
theorem dX1_buyShares_84 : decode cX1_buyShares 84 = .ok (.invokespecial 65, 3) := by decide +kernel
theorem dX1_buyShares_87 : decode cX1_buyShares 87 = .ok (.invokevirtual 68, 3) := by decide +kernel
theorem dX1_buyShares_90 : decode cX1_buyShares 90 = .ok (.aload_n 0, 1) := by decide +kernel
theorem dX1_buyShares_91 : decode cX1_buyShares 91 = .ok (.iload 4, 2) := by decide +kernel
theorem dX1_buyShares_93 : decode cX1_buyShares 93 = .ok (.iload 10, 2) := by decide +kernel
theorem dX1_buyShares_95 : decode cX1_buyShares 95 = .ok (.i2l, 1) := by decide +kernel
theorem dX1_buyShares_96 : decode cX1_buyShares 96 = .ok (.aload_n 0, 1) := by decide +kernel
theorem dX1_buyShares_97 : decode cX1_buyShares 97 = .ok (.getfield 28, 3) := by decide +kernel
theorem dX1_buyShares_100 : decode cX1_buyShares 100 = .ok (.i2l, 1) := by decide +kernel
theorem dX1_buyShares_101 : decode cX1_buyShares 101 = .ok (.lmul, 1) := by decide +kernel
theorem dX1_buyShares_102 : decode cX1_buyShares 102 = .ok (.invokevirtual 72, 3) := by decide +kernel
theorem dX1_buyShares_105 : decode cX1_buyShares 105 = .ok (.aload_n 0, 1) := by decide +kernel
theorem dX1_buyShares_106 : decode cX1_buyShares 106 = .ok (.dup, 1) := by decide +kernel
theorem dX1_buyShares_107 : decode cX1_buyShares 107 = .ok (.getfield 31, 3) := by decide +kernel
theorem dX1_buyShares_110 : decode cX1_buyShares 110 = .ok (.iload 10, 2) := by decide +kernel
theorem dX1_buyShares_112 : decode cX1_buyShares 112 = .ok (.i2l, 1) := by decide +kernel
theorem dX1_buyShares_113 : decode cX1_buyShares 113 = .ok (.iload 5, 2) := by decide +kernel
theorem dX1_buyShares_115 : decode cX1_buyShares 115 = .ok (.i2l, 1) := by decide +kernel
theorem dX1_buyShares_116 : decode cX1_buyShares 116 = .ok (.lmul, 1) := by decide +kernel
theorem dX1_buyShares_117 : decode cX1_buyShares 117 = .ok (.lsub, 1) := by decide +kernel
theorem dX1_buyShares_118 : decode cX1_buyShares 118 = .ok (.putfield 31, 3) := by decide +kernel
theorem dX1_buyShares_121 : decode cX1_buyShares 121 = .ok (.aload_n 0, 1) := by decide +kernel
theorem dX1_buyShares_122 : decode cX1_buyShares 122 = .ok (.dup, 1) := by decide +kernel
theorem dX1_buyShares_123 : decode cX1_buyShares 123 = .ok (.getfield 76, 3) := by decide +kernel
theorem dX1_buyShares_126 : decode cX1_buyShares 126 = .ok (.iload 10, 2) := by decide +kernel
theorem dX1_buyShares_128 : decode cX1_buyShares 128 = .ok (.i2l, 1) := by decide +kernel
theorem dX1_buyShares_129 : decode cX1_buyShares 129 = .ok (.iload 5, 2) := by decide +kernel
theorem dX1_buyShares_131 : decode cX1_buyShares 131 = .ok (.i2l, 1) := by decide +kernel
theorem dX1_buyShares_132 : decode cX1_buyShares 132 = .ok (.lmul, 1) := by decide +kernel
theorem dX1_buyShares_133 : decode cX1_buyShares 133 = .ok (.ladd, 1) := by decide +kernel
theorem dX1_buyShares_134 : decode cX1_buyShares 134 = .ok (.putfield 76, 3) := by decide +kernel
theorem dX1_buyShares_137 : decode cX1_buyShares 137 = .ok (.aload_n 0, 1) := by decide +kernel
theorem dX1_buyShares_138 : decode cX1_buyShares 138 = .ok (.dup, 1) := by decide +kernel
theorem dX1_buyShares_139 : decode cX1_buyShares 139 = .ok (.getfield 79, 3) := by decide +kernel
theorem dX1_buyShares_142 : decode cX1_buyShares 142 = .ok (.iconst 1, 1) := by decide +kernel
theorem dX1_buyShares_143 : decode cX1_buyShares 143 = .ok (.iadd, 1) := by decide +kernel
theorem dX1_buyShares_144 : decode cX1_buyShares 144 = .ok (.putfield 79, 3) := by decide +kernel
theorem dX1_buyShares_147 : decode cX1_buyShares 147 = .ok (.aload_n 0, 1) := by decide +kernel
theorem dX1_buyShares_148 : decode cX1_buyShares 148 = .ok (.iload_n 1, 1) := by decide +kernel
theorem dX1_buyShares_149 : decode cX1_buyShares 149 = .ok (.iload_n 2, 1) := by decide +kernel
theorem dX1_buyShares_150 : decode cX1_buyShares 150 = .ok (.invokevirtual 82, 3) := by decide +kernel
theorem dX1_buyShares_153 : decode cX1_buyShares 153 = .ok (.return_, 1) := by decide +kernel
theorem dX1_renewOffer_0 : decode cX1_renewOffer 0 = .ok (.iload_n 2, 1) := by decide +kernel
theorem dX1_renewOffer_1 : decode cX1_renewOffer 1 = .ok (.aload_n 0, 1) := by decide +kernel
theorem dX1_renewOffer_2 : decode cX1_renewOffer 2 = .ok (.getfield 28, 3) := by decide +kernel
theorem dX1_renewOffer_5 : decode cX1_renewOffer 5 = .ok (.if_icmp .ge 7, 3) := by decide +kernel
theorem dX1_renewOffer_8 : decode cX1_renewOffer 8 = .ok (.iconst 1, 1) := by decide +kernel
theorem dX1_renewOffer_9 : decode cX1_renewOffer 9 = .ok (.goto 4, 3) := by decide +kernel
theorem dX1_renewOffer_12 : decode cX1_renewOffer 12 = .ok (.iconst 0, 1) := by decide +kernel
theorem dX1_renewOffer_13 : decode cX1_renewOffer 13 = .ok (.istore_n 3, 1) := by decide +kernel
theorem dX1_renewOffer_14 : decode cX1_renewOffer 14 = .ok (.iload_n 3, 1) := by decide +kernel
theorem dX1_renewOffer_15 : decode cX1_renewOffer 15 = .ok (.ifCond .eq 13, 3) := by decide +kernel
theorem dX1_renewOffer_18 : decode cX1_renewOffer 18 = .ok (.aload_n 0, 1) := by decide +kernel
theorem dX1_renewOffer_19 : decode cX1_renewOffer 19 = .ok (.dup, 1) := by decide +kernel
theorem dX1_renewOffer_20 : decode cX1_renewOffer 20 = .ok (.getfield 86, 3) := by decide +kernel
theorem dX1_renewOffer_23 : decode cX1_renewOffer 23 = .ok (.iconst 1, 1) := by decide +kernel
theorem dX1_renewOffer_24 : decode cX1_renewOffer 24 = .ok (.iadd, 1) := by decide +kernel
theorem dX1_renewOffer_25 : decode cX1_renewOffer 25 = .ok (.putfield 86, 3) := by decide +kernel
theorem dX1_renewOffer_28 : decode cX1_renewOffer 28 = .ok (.iload_n 3, 1) := by decide +kernel
theorem dX1_renewOffer_29 : decode cX1_renewOffer 29 = .ok (.ifCond .ne 11, 3) := by decide +kernel
theorem dX1_renewOffer_32 : decode cX1_renewOffer 32 = .ok (.aload_n 0, 1) := by decide +kernel
theorem dX1_renewOffer_33 : decode cX1_renewOffer 33 = .ok (.getfield 79, 3) := by decide +kernel
theorem dX1_renewOffer_36 : decode cX1_renewOffer 36 = .ok (.iconst 4, 1) := by decide +kernel
theorem dX1_renewOffer_37 : decode cX1_renewOffer 37 = .ok (.if_icmp .lt 18, 3) := by decide +kernel
theorem dX1_renewOffer_40 : decode cX1_renewOffer 40 = .ok (.aload_n 0, 1) := by decide +kernel
theorem dX1_renewOffer_41 : decode cX1_renewOffer 41 = .ok (.iload_n 1, 1) := by decide +kernel
theorem dX1_renewOffer_42 : decode cX1_renewOffer 42 = .ok (.putfield 25, 3) := by decide +kernel
theorem dX1_renewOffer_45 : decode cX1_renewOffer 45 = .ok (.aload_n 0, 1) := by decide +kernel
theorem dX1_renewOffer_46 : decode cX1_renewOffer 46 = .ok (.iload_n 2, 1) := by decide +kernel
theorem dX1_renewOffer_47 : decode cX1_renewOffer 47 = .ok (.putfield 28, 3) := by decide +kernel
theorem dX1_renewOffer_50 : decode cX1_renewOffer 50 = .ok (.aload_n 0, 1) := by decide +kernel
theorem dX1_renewOffer_51 : decode cX1_renewOffer 51 = .ok (.iconst 0, 1) := by decide +kernel
theorem dX1_renewOffer_52 : decode cX1_renewOffer 52 = .ok (.putfield 79, 3) := by decide +kernel
theorem dX1_renewOffer_55 : decode cX1_renewOffer 55 = .ok (.return_, 1) := by decide +kernel
theorem dX1_purchasePrice_0 : decode cX1_purchasePrice 0 = .ok (.iload_n 0, 1) := by decide +kernel
theorem dX1_purchasePrice_1 : decode cX1_purchasePrice 1 = .ok (.bipush 85, 2) := by decide +kernel
theorem dX1_purchasePrice_3 : decode cX1_purchasePrice 3 = .ok (.imul, 1) := by decide +kernel
theorem dX1_purchasePrice_4 : decode cX1_purchasePrice 4 = .ok (.bipush 100, 2) := by decide +kernel
theorem dX1_purchasePrice_6 : decode cX1_purchasePrice 6 = .ok (.iadd, 1) := by decide +kernel
theorem dX1_purchasePrice_7 : decode cX1_purchasePrice 7 = .ok (.iconst 1, 1) := by decide +kernel
theorem dX1_purchasePrice_8 : decode cX1_purchasePrice 8 = .ok (.isub, 1) := by decide +kernel
theorem dX1_purchasePrice_9 : decode cX1_purchasePrice 9 = .ok (.bipush 100, 2) := by decide +kernel
theorem dX1_purchasePrice_11 : decode cX1_purchasePrice 11 = .ok (.idiv, 1) := by decide +kernel
theorem dX1_purchasePrice_12 : decode cX1_purchasePrice 12 = .ok (.ireturn, 1) := by decide +kernel
theorem dX1_wholeTimes_0 : decode cX1_wholeTimes 0 = .ok (.lload_n 0, 1) := by decide +kernel
theorem dX1_wholeTimes_1 : decode cX1_wholeTimes 1 = .ok (.lconst 0, 1) := by decide +kernel
theorem dX1_wholeTimes_2 : decode cX1_wholeTimes 2 = .ok (.lcmp, 1) := by decide +kernel
theorem dX1_wholeTimes_3 : decode cX1_wholeTimes 3 = .ok (.ifCond .le 9, 3) := by decide +kernel
theorem dX1_wholeTimes_6 : decode cX1_wholeTimes 6 = .ok (.lload_n 2, 1) := by decide +kernel
theorem dX1_wholeTimes_7 : decode cX1_wholeTimes 7 = .ok (.lconst 0, 1) := by decide +kernel
theorem dX1_wholeTimes_8 : decode cX1_wholeTimes 8 = .ok (.lcmp, 1) := by decide +kernel
theorem dX1_wholeTimes_9 : decode cX1_wholeTimes 9 = .ok (.ifCond .gt 7, 3) := by decide +kernel
theorem dX1_wholeTimes_12 : decode cX1_wholeTimes 12 = .ok (.lconst 0, 1) := by decide +kernel
theorem dX1_wholeTimes_13 : decode cX1_wholeTimes 13 = .ok (.goto 6, 3) := by decide +kernel
theorem dX1_wholeTimes_16 : decode cX1_wholeTimes 16 = .ok (.lload_n 0, 1) := by decide +kernel
theorem dX1_wholeTimes_17 : decode cX1_wholeTimes 17 = .ok (.lload_n 2, 1) := by decide +kernel
theorem dX1_wholeTimes_18 : decode cX1_wholeTimes 18 = .ok (.ldiv, 1) := by decide +kernel
theorem dX1_wholeTimes_19 : decode cX1_wholeTimes 19 = .ok (.lreturn, 1) := by decide +kernel
theorem dX1_countedIn_0 : decode cX1_countedIn 0 = .ok (.iload_n 1, 1) := by decide +kernel
theorem dX1_countedIn_1 : decode cX1_countedIn 1 = .ok (.ifCond .lt 12, 3) := by decide +kernel
theorem dX1_countedIn_4 : decode cX1_countedIn 4 = .ok (.iload_n 1, 1) := by decide +kernel
theorem dX1_countedIn_5 : decode cX1_countedIn 5 = .ok (.aload_n 0, 1) := by decide +kernel
theorem dX1_countedIn_6 : decode cX1_countedIn 6 = .ok (.getfield 17, 3) := by decide +kernel
theorem dX1_countedIn_9 : decode cX1_countedIn 9 = .ok (.arraylength, 1) := by decide +kernel
theorem dX1_countedIn_10 : decode cX1_countedIn 10 = .ok (.if_icmp .lt 7, 3) := by decide +kernel
theorem dX1_countedIn_13 : decode cX1_countedIn 13 = .ok (.lconst 0, 1) := by decide +kernel
theorem dX1_countedIn_14 : decode cX1_countedIn 14 = .ok (.goto 9, 3) := by decide +kernel
theorem dX1_countedIn_17 : decode cX1_countedIn 17 = .ok (.aload_n 0, 1) := by decide +kernel
theorem dX1_countedIn_18 : decode cX1_countedIn 18 = .ok (.getfield 17, 3) := by decide +kernel
theorem dX1_countedIn_21 : decode cX1_countedIn 21 = .ok (.iload_n 1, 1) := by decide +kernel
theorem dX1_countedIn_22 : decode cX1_countedIn 22 = .ok (.laload, 1) := by decide +kernel
theorem dX1_countedIn_23 : decode cX1_countedIn 23 = .ok (.lreturn, 1) := by decide +kernel
theorem dX1_addCounted_0 : decode cX1_addCounted 0 = .ok (.iload_n 1, 1) := by decide +kernel
theorem dX1_addCounted_1 : decode cX1_addCounted 1 = .ok (.ifCond .lt 22, 3) := by decide +kernel
theorem dX1_addCounted_4 : decode cX1_addCounted 4 = .ok (.iload_n 1, 1) := by decide +kernel
theorem dX1_addCounted_5 : decode cX1_addCounted 5 = .ok (.aload_n 0, 1) := by decide +kernel
theorem dX1_addCounted_6 : decode cX1_addCounted 6 = .ok (.getfield 17, 3) := by decide +kernel
theorem dX1_addCounted_9 : decode cX1_addCounted 9 = .ok (.arraylength, 1) := by decide +kernel
theorem dX1_addCounted_10 : decode cX1_addCounted 10 = .ok (.if_icmp .ge 13, 3) := by decide +kernel
theorem dX1_addCounted_13 : decode cX1_addCounted 13 = .ok (.aload_n 0, 1) := by decide +kernel
theorem dX1_addCounted_14 : decode cX1_addCounted 14 = .ok (.getfield 17, 3) := by decide +kernel
theorem dX1_addCounted_17 : decode cX1_addCounted 17 = .ok (.iload_n 1, 1) := by decide +kernel
theorem dX1_addCounted_18 : decode cX1_addCounted 18 = .ok (.dup2, 1) := by decide +kernel
theorem dX1_addCounted_19 : decode cX1_addCounted 19 = .ok (.laload, 1) := by decide +kernel
theorem dX1_addCounted_20 : decode cX1_addCounted 20 = .ok (.lload_n 2, 1) := by decide +kernel
theorem dX1_addCounted_21 : decode cX1_addCounted 21 = .ok (.ladd, 1) := by decide +kernel
theorem dX1_addCounted_22 : decode cX1_addCounted 22 = .ok (.lastore, 1) := by decide +kernel
theorem dX1_addCounted_23 : decode cX1_addCounted 23 = .ok (.return_, 1) := by decide +kernel
theorem dX1_lotOf_0 : decode cX1_lotOf 0 = .ok (.iload_n 1, 1) := by decide +kernel
theorem dX1_lotOf_1 : decode cX1_lotOf 1 = .ok (.invokestatic 89, 3) := by decide +kernel
theorem dX1_lotOf_4 : decode cX1_lotOf 4 = .ok (.ifCond .ne 5, 3) := by decide +kernel
theorem dX1_lotOf_7 : decode cX1_lotOf 7 = .ok (.aconst_null, 1) := by decide +kernel
theorem dX1_lotOf_8 : decode cX1_lotOf 8 = .ok (.areturn, 1) := by decide +kernel
theorem dX1_lotOf_9 : decode cX1_lotOf 9 = .ok (.iload_n 1, 1) := by decide +kernel
theorem dX1_lotOf_10 : decode cX1_lotOf 10 = .ok (.bipush 6, 2) := by decide +kernel
theorem dX1_lotOf_12 : decode cX1_lotOf 12 = .ok (.idiv, 1) := by decide +kernel
theorem dX1_lotOf_13 : decode cX1_lotOf 13 = .ok (.istore_n 2, 1) := by decide +kernel
theorem dX1_lotOf_14 : decode cX1_lotOf 14 = .ok (.iload_n 2, 1) := by decide +kernel
theorem dX1_lotOf_15 : decode cX1_lotOf 15 = .ok (.ifCond .lt 12, 3) := by decide +kernel
theorem dX1_lotOf_18 : decode cX1_lotOf 18 = .ok (.iload_n 2, 1) := by decide +kernel
theorem dX1_lotOf_19 : decode cX1_lotOf 19 = .ok (.aload_n 0, 1) := by decide +kernel
theorem dX1_lotOf_20 : decode cX1_lotOf 20 = .ok (.getfield 11, 3) := by decide +kernel
theorem dX1_lotOf_23 : decode cX1_lotOf 23 = .ok (.arraylength, 1) := by decide +kernel
theorem dX1_lotOf_24 : decode cX1_lotOf 24 = .ok (.if_icmp .lt 7, 3) := by decide +kernel
theorem dX1_lotOf_27 : decode cX1_lotOf 27 = .ok (.aconst_null, 1) := by decide +kernel
theorem dX1_lotOf_28 : decode cX1_lotOf 28 = .ok (.goto 9, 3) := by decide +kernel
theorem dX1_lotOf_31 : decode cX1_lotOf 31 = .ok (.aload_n 0, 1) := by decide +kernel
theorem dX1_lotOf_32 : decode cX1_lotOf 32 = .ok (.getfield 11, 3) := by decide +kernel
theorem dX1_lotOf_35 : decode cX1_lotOf 35 = .ok (.iload_n 2, 1) := by decide +kernel
theorem dX1_lotOf_36 : decode cX1_lotOf 36 = .ok (.aaload, 1) := by decide +kernel
theorem dX1_lotOf_37 : decode cX1_lotOf 37 = .ok (.areturn, 1) := by decide +kernel
theorem dX1_putLot_0 : decode cX1_putLot 0 = .ok (.aload_n 1, 1) := by decide +kernel
theorem dX1_putLot_1 : decode cX1_putLot 1 = .ok (.getfield 93, 3) := by decide +kernel
theorem dX1_putLot_4 : decode cX1_putLot 4 = .ok (.bipush 6, 2) := by decide +kernel
theorem dX1_putLot_6 : decode cX1_putLot 6 = .ok (.idiv, 1) := by decide +kernel
theorem dX1_putLot_7 : decode cX1_putLot 7 = .ok (.istore_n 2, 1) := by decide +kernel
theorem dX1_putLot_8 : decode cX1_putLot 8 = .ok (.iload_n 2, 1) := by decide +kernel
theorem dX1_putLot_9 : decode cX1_putLot 9 = .ok (.ifCond .lt 19, 3) := by decide +kernel
theorem dX1_putLot_12 : decode cX1_putLot 12 = .ok (.iload_n 2, 1) := by decide +kernel
theorem dX1_putLot_13 : decode cX1_putLot 13 = .ok (.aload_n 0, 1) := by decide +kernel
theorem dX1_putLot_14 : decode cX1_putLot 14 = .ok (.getfield 11, 3) := by decide +kernel
theorem dX1_putLot_17 : decode cX1_putLot 17 = .ok (.arraylength, 1) := by decide +kernel
theorem dX1_putLot_18 : decode cX1_putLot 18 = .ok (.if_icmp .ge 10, 3) := by decide +kernel
theorem dX1_putLot_21 : decode cX1_putLot 21 = .ok (.aload_n 0, 1) := by decide +kernel
theorem dX1_putLot_22 : decode cX1_putLot 22 = .ok (.getfield 11, 3) := by decide +kernel
theorem dX1_putLot_25 : decode cX1_putLot 25 = .ok (.iload_n 2, 1) := by decide +kernel
theorem dX1_putLot_26 : decode cX1_putLot 26 = .ok (.aload_n 1, 1) := by decide +kernel
theorem dX1_putLot_27 : decode cX1_putLot 27 = .ok (.aastore, 1) := by decide +kernel
theorem dX1_putLot_28 : decode cX1_putLot 28 = .ok (.return_, 1) := by decide +kernel
theorem dX1_sharesHeld_0 : decode cX1_sharesHeld 0 = .ok (.iconst 0, 1) := by decide +kernel
theorem dX1_sharesHeld_1 : decode cX1_sharesHeld 1 = .ok (.istore_n 1, 1) := by decide +kernel
theorem dX1_sharesHeld_2 : decode cX1_sharesHeld 2 = .ok (.iconst 0, 1) := by decide +kernel
theorem dX1_sharesHeld_3 : decode cX1_sharesHeld 3 = .ok (.istore_n 2, 1) := by decide +kernel
theorem dX1_sharesHeld_4 : decode cX1_sharesHeld 4 = .ok (.iload_n 2, 1) := by decide +kernel
theorem dX1_sharesHeld_5 : decode cX1_sharesHeld 5 = .ok (.aload_n 0, 1) := by decide +kernel
theorem dX1_sharesHeld_6 : decode cX1_sharesHeld 6 = .ok (.getfield 11, 3) := by decide +kernel
theorem dX1_sharesHeld_9 : decode cX1_sharesHeld 9 = .ok (.arraylength, 1) := by decide +kernel
theorem dX1_sharesHeld_10 : decode cX1_sharesHeld 10 = .ok (.if_icmp .ge 27, 3) := by decide +kernel
theorem dX1_sharesHeld_13 : decode cX1_sharesHeld 13 = .ok (.aload_n 0, 1) := by decide +kernel
theorem dX1_sharesHeld_14 : decode cX1_sharesHeld 14 = .ok (.getfield 11, 3) := by decide +kernel
theorem dX1_sharesHeld_17 : decode cX1_sharesHeld 17 = .ok (.iload_n 2, 1) := by decide +kernel
theorem dX1_sharesHeld_18 : decode cX1_sharesHeld 18 = .ok (.aaload, 1) := by decide +kernel
theorem dX1_sharesHeld_19 : decode cX1_sharesHeld 19 = .ok (.astore_n 3, 1) := by decide +kernel
theorem dX1_sharesHeld_20 : decode cX1_sharesHeld 20 = .ok (.aload_n 3, 1) := by decide +kernel
theorem dX1_sharesHeld_21 : decode cX1_sharesHeld 21 = .ok (.ifnull 10, 3) := by decide +kernel
theorem dX1_sharesHeld_24 : decode cX1_sharesHeld 24 = .ok (.iload_n 1, 1) := by decide +kernel
theorem dX1_sharesHeld_25 : decode cX1_sharesHeld 25 = .ok (.aload_n 3, 1) := by decide +kernel
theorem dX1_sharesHeld_26 : decode cX1_sharesHeld 26 = .ok (.getfield 96, 3) := by decide +kernel
theorem dX1_sharesHeld_29 : decode cX1_sharesHeld 29 = .ok (.iadd, 1) := by decide +kernel
theorem dX1_sharesHeld_30 : decode cX1_sharesHeld 30 = .ok (.istore_n 1, 1) := by decide +kernel
theorem dX1_sharesHeld_31 : decode cX1_sharesHeld 31 = .ok (.iinc 2 1, 3) := by decide +kernel
theorem dX1_sharesHeld_34 : decode cX1_sharesHeld 34 = .ok (.goto (-30), 3) := by decide +kernel
theorem dX1_sharesHeld_37 : decode cX1_sharesHeld 37 = .ok (.iload_n 1, 1) := by decide +kernel
theorem dX1_sharesHeld_38 : decode cX1_sharesHeld 38 = .ok (.ireturn, 1) := by decide +kernel
theorem dX1_sellOldest_0 : decode cX1_sellOldest 0 = .ok (.iconst 0, 1) := by decide +kernel
theorem dX1_sellOldest_1 : decode cX1_sellOldest 1 = .ok (.istore 4, 2) := by decide +kernel
theorem dX1_sellOldest_3 : decode cX1_sellOldest 3 = .ok (.iload_n 1, 1) := by decide +kernel
theorem dX1_sellOldest_4 : decode cX1_sellOldest 4 = .ok (.istore 5, 2) := by decide +kernel
theorem dX1_sellOldest_6 : decode cX1_sellOldest 6 = .ok (.iconst 0, 1) := by decide +kernel
theorem dX1_sellOldest_7 : decode cX1_sellOldest 7 = .ok (.istore 6, 2) := by decide +kernel
theorem dX1_sellOldest_9 : decode cX1_sellOldest 9 = .ok (.iload 6, 2) := by decide +kernel
theorem dX1_sellOldest_11 : decode cX1_sellOldest 11 = .ok (.aload_n 0, 1) := by decide +kernel
theorem dX1_sellOldest_12 : decode cX1_sellOldest 12 = .ok (.getfield 11, 3) := by decide +kernel
theorem dX1_sellOldest_15 : decode cX1_sellOldest 15 = .ok (.arraylength, 1) := by decide +kernel
theorem dX1_sellOldest_16 : decode cX1_sellOldest 16 = .ok (.if_icmp .ge 114, 3) := by decide +kernel
theorem dX1_sellOldest_19 : decode cX1_sellOldest 19 = .ok (.aload_n 0, 1) := by decide +kernel
theorem dX1_sellOldest_20 : decode cX1_sellOldest 20 = .ok (.getfield 11, 3) := by decide +kernel
theorem dX1_sellOldest_23 : decode cX1_sellOldest 23 = .ok (.iload 6, 2) := by decide +kernel
theorem dX1_sellOldest_25 : decode cX1_sellOldest 25 = .ok (.aaload, 1) := by decide +kernel
theorem dX1_sellOldest_26 : decode cX1_sellOldest 26 = .ok (.astore 7, 2) := by decide +kernel
theorem dX1_sellOldest_28 : decode cX1_sellOldest 28 = .ok (.aload 7, 2) := by decide +kernel
theorem dX1_sellOldest_30 : decode cX1_sellOldest 30 = .ok (.ifnull 94, 3) := by decide +kernel
theorem dX1_sellOldest_33 : decode cX1_sellOldest 33 = .ok (.iload 5, 2) := by decide +kernel
theorem dX1_sellOldest_35 : decode cX1_sellOldest 35 = .ok (.aload 7, 2) := by decide +kernel
theorem dX1_sellOldest_37 : decode cX1_sellOldest 37 = .ok (.getfield 96, 3) := by decide +kernel
theorem dX1_sellOldest_40 : decode cX1_sellOldest 40 = .ok (.invokestatic 45, 3) := by decide +kernel
theorem dX1_sellOldest_43 : decode cX1_sellOldest 43 = .ok (.istore 8, 2) := by decide +kernel
theorem dX1_sellOldest_45 : decode cX1_sellOldest 45 = .ok (.aload_n 0, 1) := by decide +kernel
theorem dX1_sellOldest_46 : decode cX1_sellOldest 46 = .ok (.dup, 1) := by decide +kernel
theorem dX1_sellOldest_47 : decode cX1_sellOldest 47 = .ok (.getfield 99, 3) := by decide +kernel
theorem dX1_sellOldest_50 : decode cX1_sellOldest 50 = .ok (.iload 8, 2) := by decide +kernel
theorem dX1_sellOldest_52 : decode cX1_sellOldest 52 = .ok (.i2l, 1) := by decide +kernel
theorem dX1_sellOldest_53 : decode cX1_sellOldest 53 = .ok (.aload 7, 2) := by decide +kernel
theorem dX1_sellOldest_55 : decode cX1_sellOldest 55 = .ok (.iload_n 2, 1) := by decide +kernel
theorem dX1_sellOldest_56 : decode cX1_sellOldest 56 = .ok (.iload_n 3, 1) := by decide +kernel
theorem dX1_sellOldest_57 : decode cX1_sellOldest 57 = .ok (.invokevirtual 102, 3) := by decide +kernel
theorem dX1_sellOldest_60 : decode cX1_sellOldest 60 = .ok (.lmul, 1) := by decide +kernel
theorem dX1_sellOldest_61 : decode cX1_sellOldest 61 = .ok (.ladd, 1) := by decide +kernel
theorem dX1_sellOldest_62 : decode cX1_sellOldest 62 = .ok (.putfield 99, 3) := by decide +kernel
theorem dX1_sellOldest_65 : decode cX1_sellOldest 65 = .ok (.aload_n 0, 1) := by decide +kernel
theorem dX1_sellOldest_66 : decode cX1_sellOldest 66 = .ok (.dup, 1) := by decide +kernel
theorem dX1_sellOldest_67 : decode cX1_sellOldest 67 = .ok (.getfield 106, 3) := by decide +kernel
theorem dX1_sellOldest_70 : decode cX1_sellOldest 70 = .ok (.iload 8, 2) := by decide +kernel
theorem dX1_sellOldest_72 : decode cX1_sellOldest 72 = .ok (.i2l, 1) := by decide +kernel
theorem dX1_sellOldest_73 : decode cX1_sellOldest 73 = .ok (.aload 7, 2) := by decide +kernel
theorem dX1_sellOldest_75 : decode cX1_sellOldest 75 = .ok (.iload_n 2, 1) := by decide +kernel
theorem dX1_sellOldest_76 : decode cX1_sellOldest 76 = .ok (.iload_n 3, 1) := by decide +kernel
theorem dX1_sellOldest_77 : decode cX1_sellOldest 77 = .ok (.invokevirtual 109, 3) := by decide +kernel
theorem dX1_sellOldest_80 : decode cX1_sellOldest 80 = .ok (.lmul, 1) := by decide +kernel
theorem dX1_sellOldest_81 : decode cX1_sellOldest 81 = .ok (.ladd, 1) := by decide +kernel
theorem dX1_sellOldest_82 : decode cX1_sellOldest 82 = .ok (.putfield 106, 3) := by decide +kernel
theorem dX1_sellOldest_85 : decode cX1_sellOldest 85 = .ok (.iload 4, 2) := by decide +kernel
theorem dX1_sellOldest_87 : decode cX1_sellOldest 87 = .ok (.aload 7, 2) := by decide +kernel
theorem dX1_sellOldest_89 : decode cX1_sellOldest 89 = .ok (.iload_n 2, 1) := by decide +kernel
theorem dX1_sellOldest_90 : decode cX1_sellOldest 90 = .ok (.invokevirtual 112, 3) := by decide +kernel
theorem dX1_sellOldest_93 : decode cX1_sellOldest 93 = .ok (.ifCond .eq 8, 3) := by decide +kernel
theorem dX1_sellOldest_96 : decode cX1_sellOldest 96 = .ok (.iload 8, 2) := by decide +kernel
theorem dX1_sellOldest_98 : decode cX1_sellOldest 98 = .ok (.goto 4, 3) := by decide +kernel
theorem dX1_sellOldest_101 : decode cX1_sellOldest 101 = .ok (.iconst 0, 1) := by decide +kernel
theorem dX1_sellOldest_102 : decode cX1_sellOldest 102 = .ok (.iadd, 1) := by decide +kernel
theorem dX1_sellOldest_103 : decode cX1_sellOldest 103 = .ok (.istore 4, 2) := by decide +kernel
theorem dX1_sellOldest_105 : decode cX1_sellOldest 105 = .ok (.aload 7, 2) := by decide +kernel
theorem dX1_sellOldest_107 : decode cX1_sellOldest 107 = .ok (.dup, 1) := by decide +kernel
theorem dX1_sellOldest_108 : decode cX1_sellOldest 108 = .ok (.getfield 96, 3) := by decide +kernel
theorem dX1_sellOldest_111 : decode cX1_sellOldest 111 = .ok (.iload 8, 2) := by decide +kernel
theorem dX1_sellOldest_113 : decode cX1_sellOldest 113 = .ok (.isub, 1) := by decide +kernel
theorem dX1_sellOldest_114 : decode cX1_sellOldest 114 = .ok (.putfield 96, 3) := by decide +kernel
theorem dX1_sellOldest_117 : decode cX1_sellOldest 117 = .ok (.iload 5, 2) := by decide +kernel
theorem dX1_sellOldest_119 : decode cX1_sellOldest 119 = .ok (.iload 8, 2) := by decide +kernel
theorem dX1_sellOldest_121 : decode cX1_sellOldest 121 = .ok (.isub, 1) := by decide +kernel
theorem dX1_sellOldest_122 : decode cX1_sellOldest 122 = .ok (.istore 5, 2) := by decide +kernel
theorem dX1_sellOldest_124 : decode cX1_sellOldest 124 = .ok (.iinc 6 1, 3) := by decide +kernel
theorem dX1_sellOldest_127 : decode cX1_sellOldest 127 = .ok (.goto (-118), 3) := by decide +kernel
theorem dX1_sellOldest_130 : decode cX1_sellOldest 130 = .ok (.iload 4, 2) := by decide +kernel
theorem dX1_sellOldest_132 : decode cX1_sellOldest 132 = .ok (.ireturn, 1) := by decide +kernel
theorem dX1_gainIfAllSold_0 : decode cX1_gainIfAllSold 0 = .ok (.lconst 0, 1) := by decide +kernel
theorem dX1_gainIfAllSold_1 : decode cX1_gainIfAllSold 1 = .ok (.lstore_n 3, 1) := by decide +kernel
theorem dX1_gainIfAllSold_2 : decode cX1_gainIfAllSold 2 = .ok (.iconst 0, 1) := by decide +kernel
theorem dX1_gainIfAllSold_3 : decode cX1_gainIfAllSold 3 = .ok (.istore 5, 2) := by decide +kernel
theorem dX1_gainIfAllSold_5 : decode cX1_gainIfAllSold 5 = .ok (.iload 5, 2) := by decide +kernel
theorem dX1_gainIfAllSold_7 : decode cX1_gainIfAllSold 7 = .ok (.aload_n 0, 1) := by decide +kernel
theorem dX1_gainIfAllSold_8 : decode cX1_gainIfAllSold 8 = .ok (.getfield 11, 3) := by decide +kernel
theorem dX1_gainIfAllSold_11 : decode cX1_gainIfAllSold 11 = .ok (.arraylength, 1) := by decide +kernel
theorem dX1_gainIfAllSold_12 : decode cX1_gainIfAllSold 12 = .ok (.if_icmp .ge 40, 3) := by decide +kernel
theorem dX1_gainIfAllSold_15 : decode cX1_gainIfAllSold 15 = .ok (.aload_n 0, 1) := by decide +kernel
theorem dX1_gainIfAllSold_16 : decode cX1_gainIfAllSold 16 = .ok (.getfield 11, 3) := by decide +kernel
theorem dX1_gainIfAllSold_19 : decode cX1_gainIfAllSold 19 = .ok (.iload 5, 2) := by decide +kernel
theorem dX1_gainIfAllSold_21 : decode cX1_gainIfAllSold 21 = .ok (.aaload, 1) := by decide +kernel
theorem dX1_gainIfAllSold_22 : decode cX1_gainIfAllSold 22 = .ok (.astore 6, 2) := by decide +kernel
theorem dX1_gainIfAllSold_24 : decode cX1_gainIfAllSold 24 = .ok (.aload 6, 2) := by decide +kernel
theorem dX1_gainIfAllSold_26 : decode cX1_gainIfAllSold 26 = .ok (.ifnull 20, 3) := by decide +kernel
theorem dX1_gainIfAllSold_29 : decode cX1_gainIfAllSold 29 = .ok (.lload_n 3, 1) := by decide +kernel
theorem dX1_gainIfAllSold_30 : decode cX1_gainIfAllSold 30 = .ok (.aload 6, 2) := by decide +kernel
theorem dX1_gainIfAllSold_32 : decode cX1_gainIfAllSold 32 = .ok (.getfield 96, 3) := by decide +kernel
theorem dX1_gainIfAllSold_35 : decode cX1_gainIfAllSold 35 = .ok (.i2l, 1) := by decide +kernel
theorem dX1_gainIfAllSold_36 : decode cX1_gainIfAllSold 36 = .ok (.aload 6, 2) := by decide +kernel
theorem dX1_gainIfAllSold_38 : decode cX1_gainIfAllSold 38 = .ok (.iload_n 1, 1) := by decide +kernel
theorem dX1_gainIfAllSold_39 : decode cX1_gainIfAllSold 39 = .ok (.iload_n 2, 1) := by decide +kernel
theorem dX1_gainIfAllSold_40 : decode cX1_gainIfAllSold 40 = .ok (.invokevirtual 109, 3) := by decide +kernel
theorem dX1_gainIfAllSold_43 : decode cX1_gainIfAllSold 43 = .ok (.lmul, 1) := by decide +kernel
theorem dX1_gainIfAllSold_44 : decode cX1_gainIfAllSold 44 = .ok (.ladd, 1) := by decide +kernel
theorem dX1_gainIfAllSold_45 : decode cX1_gainIfAllSold 45 = .ok (.lstore_n 3, 1) := by decide +kernel
theorem dX1_gainIfAllSold_46 : decode cX1_gainIfAllSold 46 = .ok (.iinc 5 1, 3) := by decide +kernel
theorem dX1_gainIfAllSold_49 : decode cX1_gainIfAllSold 49 = .ok (.goto (-44), 3) := by decide +kernel
theorem dX1_gainIfAllSold_52 : decode cX1_gainIfAllSold 52 = .ok (.lload_n 3, 1) := by decide +kernel
theorem dX1_gainIfAllSold_53 : decode cX1_gainIfAllSold 53 = .ok (.lreturn, 1) := by decide +kernel
theorem dX2_init_0 : decode cX2_init 0 = .ok (.aload_n 0, 1) := by decide +kernel
theorem dX2_init_1 : decode cX2_init 1 = .ok (.invokespecial 3, 3) := by decide +kernel
theorem dX2_init_4 : decode cX2_init 4 = .ok (.aload_n 0, 1) := by decide +kernel
theorem dX2_init_5 : decode cX2_init 5 = .ok (.bipush 6, 2) := by decide +kernel
theorem dX2_init_7 : decode cX2_init 7 = .ok (.anewarray 9, 3) := by decide +kernel
theorem dX2_init_10 : decode cX2_init 10 = .ok (.putfield 11, 3) := by decide +kernel
theorem dX2_init_13 : decode cX2_init 13 = .ok (.aload_n 0, 1) := by decide +kernel
theorem dX2_init_14 : decode cX2_init 14 = .ok (.iconst 0, 1) := by decide +kernel
theorem dX2_init_15 : decode cX2_init 15 = .ok (.putfield 15, 3) := by decide +kernel
theorem dX2_init_18 : decode cX2_init 18 = .ok (.aload_n 0, 1) := by decide +kernel
theorem dX2_init_19 : decode cX2_init 19 = .ok (.iconst (-1), 1) := by decide +kernel
theorem dX2_init_20 : decode cX2_init 20 = .ok (.putfield 19, 3) := by decide +kernel
theorem dX2_init_23 : decode cX2_init 23 = .ok (.aload_n 0, 1) := by decide +kernel
theorem dX2_init_24 : decode cX2_init 24 = .ok (.iconst 0, 1) := by decide +kernel
theorem dX2_init_25 : decode cX2_init 25 = .ok (.putfield 22, 3) := by decide +kernel
theorem dX2_init_28 : decode cX2_init 28 = .ok (.aload_n 0, 1) := by decide +kernel
theorem dX2_init_29 : decode cX2_init 29 = .ok (.ldc 25, 2) := by decide +kernel
theorem dX2_init_31 : decode cX2_init 31 = .ok (.putfield 26, 3) := by decide +kernel
theorem dX2_init_34 : decode cX2_init 34 = .ok (.return_, 1) := by decide +kernel
theorem dX2_next_0 : decode cX2_next 0 = .ok (.iload_n 1, 1) := by decide +kernel
theorem dX2_next_1 : decode cX2_next 1 = .ok (.iconst 1, 1) := by decide +kernel
theorem dX2_next_2 : decode cX2_next 2 = .ok (.if_icmp .lt 9, 3) := by decide +kernel
theorem dX2_next_5 : decode cX2_next 5 = .ok (.iload_n 1, 1) := by decide +kernel
theorem dX2_next_6 : decode cX2_next 6 = .ok (.ldc 29, 2) := by decide +kernel
theorem dX2_next_8 : decode cX2_next 8 = .ok (.if_icmp .le 13, 3) := by decide +kernel
theorem dX2_next_11 : decode cX2_next 11 = .ok (.new 30, 3) := by decide +kernel
theorem dX2_next_14 : decode cX2_next 14 = .ok (.dup, 1) := by decide +kernel
theorem dX2_next_15 : decode cX2_next 15 = .ok (.ldc 32, 2) := by decide +kernel
theorem dX2_next_17 : decode cX2_next 17 = .ok (.invokespecial 34, 3) := by decide +kernel
theorem dX2_next_20 : decode cX2_next 20 = .ok (.athrow, 1) := by decide +kernel
theorem dX2_next_21 : decode cX2_next 21 = .ok (.aload_n 0, 1) := by decide +kernel
theorem dX2_next_22 : decode cX2_next 22 = .ok (.getfield 19, 3) := by decide +kernel
theorem dX2_next_25 : decode cX2_next 25 = .ok (.bipush 59, 2) := by decide +kernel
theorem dX2_next_27 : decode cX2_next 27 = .ok (.if_icmp .lt 13, 3) := by decide +kernel
theorem dX2_next_30 : decode cX2_next 30 = .ok (.new 37, 3) := by decide +kernel
theorem dX2_next_33 : decode cX2_next 33 = .ok (.dup, 1) := by decide +kernel
theorem dX2_next_34 : decode cX2_next 34 = .ok (.ldc 39, 2) := by decide +kernel
theorem dX2_next_36 : decode cX2_next 36 = .ok (.invokespecial 41, 3) := by decide +kernel
theorem dX2_next_39 : decode cX2_next 39 = .ok (.athrow, 1) := by decide +kernel
theorem dX2_next_40 : decode cX2_next 40 = .ok (.aload_n 0, 1) := by decide +kernel
theorem dX2_next_41 : decode cX2_next 41 = .ok (.getfield 19, 3) := by decide +kernel
theorem dX2_next_44 : decode cX2_next 44 = .ok (.invokestatic 42, 3) := by decide +kernel
theorem dX2_next_47 : decode cX2_next 47 = .ok (.ifCond .eq 7, 3) := by decide +kernel
theorem dX2_next_50 : decode cX2_next 50 = .ok (.aload_n 0, 1) := by decide +kernel
theorem dX2_next_51 : decode cX2_next 51 = .ok (.invokevirtual 46, 3) := by decide +kernel
theorem dX2_next_54 : decode cX2_next 54 = .ok (.aload_n 0, 1) := by decide +kernel
theorem dX2_next_55 : decode cX2_next 55 = .ok (.dup, 1) := by decide +kernel
theorem dX2_next_56 : decode cX2_next 56 = .ok (.getfield 19, 3) := by decide +kernel
theorem dX2_next_59 : decode cX2_next 59 = .ok (.iconst 1, 1) := by decide +kernel
theorem dX2_next_60 : decode cX2_next 60 = .ok (.iadd, 1) := by decide +kernel
theorem dX2_next_61 : decode cX2_next 61 = .ok (.putfield 19, 3) := by decide +kernel
theorem dX2_next_64 : decode cX2_next 64 = .ok (.aload_n 0, 1) := by decide +kernel
theorem dX2_next_65 : decode cX2_next 65 = .ok (.iload_n 1, 1) := by decide +kernel
theorem dX2_next_66 : decode cX2_next 66 = .ok (.putfield 22, 3) := by decide +kernel
theorem dX2_next_69 : decode cX2_next 69 = .ok (.aload_n 0, 1) := by decide +kernel
theorem dX2_next_70 : decode cX2_next 70 = .ok (.getfield 19, 3) := by decide +kernel
theorem dX2_next_73 : decode cX2_next 73 = .ok (.ireturn, 1) := by decide +kernel
theorem dX2_month_0 : decode cX2_month 0 = .ok (.aload_n 0, 1) := by decide +kernel
theorem dX2_month_1 : decode cX2_month 1 = .ok (.getfield 19, 3) := by decide +kernel
theorem dX2_month_4 : decode cX2_month 4 = .ok (.ireturn, 1) := by decide +kernel
theorem dX2_ceiling_0 : decode cX2_ceiling 0 = .ok (.iload_n 1, 1) := by decide +kernel
theorem dX2_ceiling_1 : decode cX2_ceiling 1 = .ok (.ifCond .lt 9, 3) := by decide +kernel
theorem dX2_ceiling_4 : decode cX2_ceiling 4 = .ok (.iload_n 1, 1) := by decide +kernel
theorem dX2_ceiling_5 : decode cX2_ceiling 5 = .ok (.ldc 49, 2) := by decide +kernel
theorem dX2_ceiling_7 : decode cX2_ceiling 7 = .ok (.if_icmp .le 13, 3) := by decide +kernel
theorem dX2_ceiling_10 : decode cX2_ceiling 10 = .ok (.new 30, 3) := by decide +kernel
theorem dX2_ceiling_13 : decode cX2_ceiling 13 = .ok (.dup, 1) := by decide +kernel
theorem dX2_ceiling_14 : decode cX2_ceiling 14 = .ok (.ldc 50, 2) := by decide +kernel
theorem dX2_ceiling_16 : decode cX2_ceiling 16 = .ok (.invokespecial 34, 3) := by decide +kernel
theorem dX2_ceiling_19 : decode cX2_ceiling 19 = .ok (.athrow, 1) := by decide +kernel
theorem dX2_ceiling_20 : decode cX2_ceiling 20 = .ok (.aload_n 0, 1) := by decide +kernel
theorem dX2_ceiling_21 : decode cX2_ceiling 21 = .ok (.getfield 26, 3) := by decide +kernel
theorem dX2_ceiling_24 : decode cX2_ceiling 24 = .ok (.istore_n 2, 1) := by decide +kernel
theorem dX2_ceiling_25 : decode cX2_ceiling 25 = .ok (.aload_n 0, 1) := by decide +kernel
theorem dX2_ceiling_26 : decode cX2_ceiling 26 = .ok (.iload_n 1, 1) := by decide +kernel
theorem dX2_ceiling_27 : decode cX2_ceiling 27 = .ok (.putfield 26, 3) := by decide +kernel
theorem dX2_ceiling_30 : decode cX2_ceiling 30 = .ok (.iload_n 2, 1) := by decide +kernel
theorem dX2_ceiling_31 : decode cX2_ceiling 31 = .ok (.ireturn, 1) := by decide +kernel
theorem dX2_join_0 : decode cX2_join 0 = .ok (.iload_n 1, 1) := by decide +kernel
theorem dX2_join_1 : decode cX2_join 1 = .ok (.invokestatic 52, 3) := by decide +kernel
theorem dX2_join_4 : decode cX2_join 4 = .ok (.aload_n 0, 1) := by decide +kernel
theorem dX2_join_5 : decode cX2_join 5 = .ok (.getfield 19, 3) := by decide +kernel
theorem dX2_join_8 : decode cX2_join 8 = .ok (.iconst (-1), 1) := by decide +kernel
theorem dX2_join_9 : decode cX2_join 9 = .ok (.if_icmp .ne 13, 3) := by decide +kernel
theorem dX2_join_12 : decode cX2_join 12 = .ok (.new 37, 3) := by decide +kernel
theorem dX2_join_15 : decode cX2_join 15 = .ok (.dup, 1) := by decide +kernel
theorem dX2_join_16 : decode cX2_join 16 = .ok (.ldc 56, 2) := by decide +kernel
theorem dX2_join_18 : decode cX2_join 18 = .ok (.invokespecial 41, 3) := by decide +kernel
theorem dX2_join_21 : decode cX2_join 21 = .ok (.athrow, 1) := by decide +kernel
theorem dX2_join_22 : decode cX2_join 22 = .ok (.aload_n 0, 1) := by decide +kernel
theorem dX2_join_23 : decode cX2_join 23 = .ok (.getfield 15, 3) := by decide +kernel
theorem dX2_join_26 : decode cX2_join 26 = .ok (.istore_n 2, 1) := by decide +kernel
theorem dX2_join_27 : decode cX2_join 27 = .ok (.iload_n 2, 1) := by decide +kernel
theorem dX2_join_28 : decode cX2_join 28 = .ok (.ifCond .lt 12, 3) := by decide +kernel
theorem dX2_join_31 : decode cX2_join 31 = .ok (.iload_n 2, 1) := by decide +kernel
theorem dX2_join_32 : decode cX2_join 32 = .ok (.aload_n 0, 1) := by decide +kernel
theorem dX2_join_33 : decode cX2_join 33 = .ok (.getfield 11, 3) := by decide +kernel
theorem dX2_join_36 : decode cX2_join 36 = .ok (.arraylength, 1) := by decide +kernel
theorem dX2_join_37 : decode cX2_join 37 = .ok (.if_icmp .lt 13, 3) := by decide +kernel
theorem dX2_join_40 : decode cX2_join 40 = .ok (.new 37, 3) := by decide +kernel
theorem dX2_join_43 : decode cX2_join 43 = .ok (.dup, 1) := by decide +kernel
theorem dX2_join_44 : decode cX2_join 44 = .ok (.ldc 58, 2) := by decide +kernel
theorem dX2_join_46 : decode cX2_join 46 = .ok (.invokespecial 41, 3) := by decide +kernel
theorem dX2_join_49 : decode cX2_join 49 = .ok (.athrow, 1) := by decide +kernel
theorem dX2_join_50 : decode cX2_join 50 = .ok (.aload_n 0, 1) := by decide +kernel
theorem dX2_join_51 : decode cX2_join 51 = .ok (.getfield 11, 3) := by decide +kernel
theorem dX2_join_54 : decode cX2_join 54 = .ok (.iload_n 2, 1) := by decide +kernel
theorem dX2_join_55 : decode cX2_join 55 = .ok (.new 9, 3) := by decide +kernel
theorem dX2_join_58 : decode cX2_join 58 = .ok (.dup, 1) := by decide +kernel
theorem dX2_join_59 : decode cX2_join 59 = .ok (.iload_n 1, 1) := by decide +kernel
theorem dX2_join_60 : decode cX2_join 60 = .ok (.aload_n 0, 1) := by decide +kernel
theorem dX2_join_61 : decode cX2_join 61 = .ok (.getfield 19, 3) := by decide +kernel
theorem dX2_join_64 : decode cX2_join 64 = .ok (.aload_n 0, 1) := by decide +kernel
theorem dX2_join_65 : decode cX2_join 65 = .ok (.getfield 22, 3) := by decide +kernel
theorem dX2_join_68 : decode cX2_join 68 = .ok (.invokespecial 60, 3) := by decide +kernel
theorem dX2_join_71 : decode cX2_join 71 = .ok (.aastore, 1) := by decide +kernel
theorem dX2_join_72 : decode cX2_join 72 = .ok (.aload_n 0, 1) := by decide +kernel
theorem dX2_join_73 : decode cX2_join 73 = .ok (.dup, 1) := by decide +kernel
theorem dX2_join_74 : decode cX2_join 74 = .ok (.getfield 15, 3) := by decide +kernel
theorem dX2_join_77 : decode cX2_join 77 = .ok (.iconst 1, 1) := by decide +kernel
theorem dX2_join_78 : decode cX2_join 78 = .ok (.iadd, 1) := by decide +kernel
theorem dX2_join_79 : decode cX2_join 79 = .ok (.putfield 15, 3) := by decide +kernel
theorem dX2_join_82 : decode cX2_join 82 = .ok (.iload_n 2, 1) := by decide +kernel
theorem dX2_join_83 : decode cX2_join 83 = .ok (.ireturn, 1) := by decide +kernel
theorem dX2_rate_0 : decode cX2_rate 0 = .ok (.aload_n 0, 1) := by decide +kernel
theorem dX2_rate_1 : decode cX2_rate 1 = .ok (.iload_n 1, 1) := by decide +kernel
theorem dX2_rate_2 : decode cX2_rate 2 = .ok (.invokevirtual 63, 3) := by decide +kernel
theorem dX2_rate_5 : decode cX2_rate 5 = .ok (.astore_n 3, 1) := by decide +kernel
theorem dX2_rate_6 : decode cX2_rate 6 = .ok (.iload_n 2, 1) := by decide +kernel
theorem dX2_rate_7 : decode cX2_rate 7 = .ok (.invokestatic 52, 3) := by decide +kernel
theorem dX2_rate_10 : decode cX2_rate 10 = .ok (.aload_n 3, 1) := by decide +kernel
theorem dX2_rate_11 : decode cX2_rate 11 = .ok (.invokestatic 67, 3) := by decide +kernel
theorem dX2_rate_14 : decode cX2_rate 14 = .ok (.aload_n 3, 1) := by decide +kernel
theorem dX2_rate_15 : decode cX2_rate 15 = .ok (.getfield 71, 3) := by decide +kernel
theorem dX2_rate_18 : decode cX2_rate 18 = .ok (.istore 4, 2) := by decide +kernel
theorem dX2_rate_20 : decode cX2_rate 20 = .ok (.aload_n 3, 1) := by decide +kernel
theorem dX2_rate_21 : decode cX2_rate 21 = .ok (.iload_n 2, 1) := by decide +kernel
theorem dX2_rate_22 : decode cX2_rate 22 = .ok (.putfield 71, 3) := by decide +kernel
theorem dX2_rate_25 : decode cX2_rate 25 = .ok (.iload 4, 2) := by decide +kernel
theorem dX2_rate_27 : decode cX2_rate 27 = .ok (.ireturn, 1) := by decide +kernel
theorem dX2_slip_0 : decode cX2_slip 0 = .ok (.aload_n 0, 1) := by decide +kernel
theorem dX2_slip_1 : decode cX2_slip 1 = .ok (.iload_n 1, 1) := by decide +kernel
theorem dX2_slip_2 : decode cX2_slip 2 = .ok (.invokevirtual 63, 3) := by decide +kernel
theorem dX2_slip_5 : decode cX2_slip 5 = .ok (.astore_n 3, 1) := by decide +kernel
theorem dX2_slip_6 : decode cX2_slip 6 = .ok (.iload_n 2, 1) := by decide +kernel
theorem dX2_slip_7 : decode cX2_slip 7 = .ok (.ifCond .lt 9, 3) := by decide +kernel
theorem dX2_slip_10 : decode cX2_slip 10 = .ok (.iload_n 2, 1) := by decide +kernel
theorem dX2_slip_11 : decode cX2_slip 11 = .ok (.ldc 74, 2) := by decide +kernel
theorem dX2_slip_13 : decode cX2_slip 13 = .ok (.if_icmp .le 13, 3) := by decide +kernel
theorem dX2_slip_16 : decode cX2_slip 16 = .ok (.new 30, 3) := by decide +kernel
theorem dX2_slip_19 : decode cX2_slip 19 = .ok (.dup, 1) := by decide +kernel
theorem dX2_slip_20 : decode cX2_slip 20 = .ok (.ldc 75, 2) := by decide +kernel
theorem dX2_slip_22 : decode cX2_slip 22 = .ok (.invokespecial 34, 3) := by decide +kernel
theorem dX2_slip_25 : decode cX2_slip 25 = .ok (.athrow, 1) := by decide +kernel
theorem dX2_slip_26 : decode cX2_slip 26 = .ok (.aload_n 3, 1) := by decide +kernel
theorem dX2_slip_27 : decode cX2_slip 27 = .ok (.invokestatic 67, 3) := by decide +kernel
theorem dX2_slip_30 : decode cX2_slip 30 = .ok (.aload_n 3, 1) := by decide +kernel
theorem dX2_slip_31 : decode cX2_slip 31 = .ok (.iload_n 2, 1) := by decide +kernel
theorem dX2_slip_32 : decode cX2_slip 32 = .ok (.invokevirtual 77, 3) := by decide +kernel
theorem dX2_slip_35 : decode cX2_slip 35 = .ok (.ireturn, 1) := by decide +kernel
theorem dX2_leave_0 : decode cX2_leave 0 = .ok (.aload_n 0, 1) := by decide +kernel
theorem dX2_leave_1 : decode cX2_leave 1 = .ok (.iload_n 1, 1) := by decide +kernel
theorem dX2_leave_2 : decode cX2_leave 2 = .ok (.invokevirtual 63, 3) := by decide +kernel
theorem dX2_leave_5 : decode cX2_leave 5 = .ok (.astore_n 2, 1) := by decide +kernel
theorem dX2_leave_6 : decode cX2_leave 6 = .ok (.aload_n 2, 1) := by decide +kernel
theorem dX2_leave_7 : decode cX2_leave 7 = .ok (.invokestatic 67, 3) := by decide +kernel
theorem dX2_leave_10 : decode cX2_leave 10 = .ok (.aload_n 2, 1) := by decide +kernel
theorem dX2_leave_11 : decode cX2_leave 11 = .ok (.invokevirtual 81, 3) := by decide +kernel
theorem dX2_leave_14 : decode cX2_leave 14 = .ok (.l2i, 1) := by decide +kernel
theorem dX2_leave_15 : decode cX2_leave 15 = .ok (.ireturn, 1) := by decide +kernel
theorem dX2_money_0 : decode cX2_money 0 = .ok (.aload_n 0, 1) := by decide +kernel
theorem dX2_money_1 : decode cX2_money 1 = .ok (.iload_n 1, 1) := by decide +kernel
theorem dX2_money_2 : decode cX2_money 2 = .ok (.invokevirtual 63, 3) := by decide +kernel
theorem dX2_money_5 : decode cX2_money 5 = .ok (.getfield 85, 3) := by decide +kernel
theorem dX2_money_8 : decode cX2_money 8 = .ok (.l2i, 1) := by decide +kernel
theorem dX2_money_9 : decode cX2_money 9 = .ok (.ireturn, 1) := by decide +kernel
theorem dX2_offerMonth_0 : decode cX2_offerMonth 0 = .ok (.aload_n 0, 1) := by decide +kernel
theorem dX2_offerMonth_1 : decode cX2_offerMonth 1 = .ok (.iload_n 1, 1) := by decide +kernel
theorem dX2_offerMonth_2 : decode cX2_offerMonth 2 = .ok (.invokevirtual 63, 3) := by decide +kernel
theorem dX2_offerMonth_5 : decode cX2_offerMonth 5 = .ok (.getfield 89, 3) := by decide +kernel
theorem dX2_offerMonth_8 : decode cX2_offerMonth 8 = .ok (.ireturn, 1) := by decide +kernel
theorem dX2_offerPrice_0 : decode cX2_offerPrice 0 = .ok (.aload_n 0, 1) := by decide +kernel
theorem dX2_offerPrice_1 : decode cX2_offerPrice 1 = .ok (.iload_n 1, 1) := by decide +kernel
theorem dX2_offerPrice_2 : decode cX2_offerPrice 2 = .ok (.invokevirtual 63, 3) := by decide +kernel
theorem dX2_offerPrice_5 : decode cX2_offerPrice 5 = .ok (.getfield 92, 3) := by decide +kernel
theorem dX2_offerPrice_8 : decode cX2_offerPrice 8 = .ok (.ireturn, 1) := by decide +kernel
theorem dX2_resets_0 : decode cX2_resets 0 = .ok (.aload_n 0, 1) := by decide +kernel
theorem dX2_resets_1 : decode cX2_resets 1 = .ok (.iload_n 1, 1) := by decide +kernel
theorem dX2_resets_2 : decode cX2_resets 2 = .ok (.invokevirtual 63, 3) := by decide +kernel
theorem dX2_resets_5 : decode cX2_resets 5 = .ok (.getfield 95, 3) := by decide +kernel
theorem dX2_resets_8 : decode cX2_resets 8 = .ok (.ireturn, 1) := by decide +kernel
theorem dX2_shares_0 : decode cX2_shares 0 = .ok (.aload_n 0, 1) := by decide +kernel
theorem dX2_shares_1 : decode cX2_shares 1 = .ok (.iload_n 1, 1) := by decide +kernel
theorem dX2_shares_2 : decode cX2_shares 2 = .ok (.invokevirtual 63, 3) := by decide +kernel
theorem dX2_shares_5 : decode cX2_shares 5 = .ok (.invokevirtual 98, 3) := by decide +kernel
theorem dX2_shares_8 : decode cX2_shares 8 = .ok (.ireturn, 1) := by decide +kernel
theorem dX2_bought_0 : decode cX2_bought 0 = .ok (.aload_n 0, 1) := by decide +kernel
theorem dX2_bought_1 : decode cX2_bought 1 = .ok (.iload_n 1, 1) := by decide +kernel
theorem dX2_bought_2 : decode cX2_bought 2 = .ok (.invokevirtual 63, 3) := by decide +kernel
theorem dX2_bought_5 : decode cX2_bought 5 = .ok (.astore_n 3, 1) := by decide +kernel
theorem dX2_bought_6 : decode cX2_bought 6 = .ok (.iload_n 2, 1) := by decide +kernel
theorem dX2_bought_7 : decode cX2_bought 7 = .ok (.invokestatic 102, 3) := by decide +kernel
theorem dX2_bought_10 : decode cX2_bought 10 = .ok (.aload_n 3, 1) := by decide +kernel
theorem dX2_bought_11 : decode cX2_bought 11 = .ok (.iload_n 2, 1) := by decide +kernel
theorem dX2_bought_12 : decode cX2_bought 12 = .ok (.invokevirtual 105, 3) := by decide +kernel
theorem dX2_bought_15 : decode cX2_bought 15 = .ok (.astore 4, 2) := by decide +kernel
theorem dX2_bought_17 : decode cX2_bought 17 = .ok (.aload 4, 2) := by decide +kernel
theorem dX2_bought_19 : decode cX2_bought 19 = .ok (.ifnonnull 7, 3) := by decide +kernel
theorem dX2_bought_22 : decode cX2_bought 22 = .ok (.iconst 0, 1) := by decide +kernel
theorem dX2_bought_23 : decode cX2_bought 23 = .ok (.goto 8, 3) := by decide +kernel
theorem dX2_bought_26 : decode cX2_bought 26 = .ok (.aload 4, 2) := by decide +kernel
theorem dX2_bought_28 : decode cX2_bought 28 = .ok (.getfield 109, 3) := by decide +kernel
theorem dX2_bought_31 : decode cX2_bought 31 = .ok (.ireturn, 1) := by decide +kernel
theorem dX2_paidEach_0 : decode cX2_paidEach 0 = .ok (.aload_n 0, 1) := by decide +kernel
theorem dX2_paidEach_1 : decode cX2_paidEach 1 = .ok (.iload_n 1, 1) := by decide +kernel
theorem dX2_paidEach_2 : decode cX2_paidEach 2 = .ok (.invokevirtual 63, 3) := by decide +kernel
theorem dX2_paidEach_5 : decode cX2_paidEach 5 = .ok (.astore_n 3, 1) := by decide +kernel
theorem dX2_paidEach_6 : decode cX2_paidEach 6 = .ok (.iload_n 2, 1) := by decide +kernel
theorem dX2_paidEach_7 : decode cX2_paidEach 7 = .ok (.invokestatic 102, 3) := by decide +kernel
theorem dX2_paidEach_10 : decode cX2_paidEach 10 = .ok (.aload_n 3, 1) := by decide +kernel
theorem dX2_paidEach_11 : decode cX2_paidEach 11 = .ok (.iload_n 2, 1) := by decide +kernel
theorem dX2_paidEach_12 : decode cX2_paidEach 12 = .ok (.invokevirtual 105, 3) := by decide +kernel
theorem dX2_paidEach_15 : decode cX2_paidEach 15 = .ok (.astore 4, 2) := by decide +kernel
theorem dX2_paidEach_17 : decode cX2_paidEach 17 = .ok (.aload 4, 2) := by decide +kernel
theorem dX2_paidEach_19 : decode cX2_paidEach 19 = .ok (.ifnonnull 7, 3) := by decide +kernel
theorem dX2_paidEach_22 : decode cX2_paidEach 22 = .ok (.iconst (-1), 1) := by decide +kernel
theorem dX2_paidEach_23 : decode cX2_paidEach 23 = .ok (.goto 8, 3) := by decide +kernel
theorem dX2_paidEach_26 : decode cX2_paidEach 26 = .ok (.aload 4, 2) := by decide +kernel
theorem dX2_paidEach_28 : decode cX2_paidEach 28 = .ok (.getfield 114, 3) := by decide +kernel
theorem dX2_paidEach_31 : decode cX2_paidEach 31 = .ok (.ireturn, 1) := by decide +kernel
theorem dX2_counted_0 : decode cX2_counted 0 = .ok (.aload_n 0, 1) := by decide +kernel
theorem dX2_counted_1 : decode cX2_counted 1 = .ok (.iload_n 1, 1) := by decide +kernel
theorem dX2_counted_2 : decode cX2_counted 2 = .ok (.invokevirtual 63, 3) := by decide +kernel
theorem dX2_counted_5 : decode cX2_counted 5 = .ok (.astore_n 3, 1) := by decide +kernel
theorem dX2_counted_6 : decode cX2_counted 6 = .ok (.iload_n 2, 1) := by decide +kernel
theorem dX2_counted_7 : decode cX2_counted 7 = .ok (.ifCond .lt 8, 3) := by decide +kernel
theorem dX2_counted_10 : decode cX2_counted 10 = .ok (.iload_n 2, 1) := by decide +kernel
theorem dX2_counted_11 : decode cX2_counted 11 = .ok (.iconst 5, 1) := by decide +kernel
theorem dX2_counted_12 : decode cX2_counted 12 = .ok (.if_icmp .lt 13, 3) := by decide +kernel
theorem dX2_counted_15 : decode cX2_counted 15 = .ok (.new 117, 3) := by decide +kernel
theorem dX2_counted_18 : decode cX2_counted 18 = .ok (.dup, 1) := by decide +kernel
theorem dX2_counted_19 : decode cX2_counted 19 = .ok (.ldc 119, 2) := by decide +kernel
theorem dX2_counted_21 : decode cX2_counted 21 = .ok (.invokespecial 121, 3) := by decide +kernel
theorem dX2_counted_24 : decode cX2_counted 24 = .ok (.athrow, 1) := by decide +kernel
theorem dX2_counted_25 : decode cX2_counted 25 = .ok (.aload_n 3, 1) := by decide +kernel
theorem dX2_counted_26 : decode cX2_counted 26 = .ok (.iload_n 2, 1) := by decide +kernel
theorem dX2_counted_27 : decode cX2_counted 27 = .ok (.invokevirtual 122, 3) := by decide +kernel
theorem dX2_counted_30 : decode cX2_counted 30 = .ok (.lreturn, 1) := by decide +kernel
theorem dX2_traced_0 : decode cX2_traced 0 = .ok (.aload_n 0, 1) := by decide +kernel
theorem dX2_traced_1 : decode cX2_traced 1 = .ok (.iload_n 1, 1) := by decide +kernel
theorem dX2_traced_2 : decode cX2_traced 2 = .ok (.invokevirtual 63, 3) := by decide +kernel
theorem dX2_traced_5 : decode cX2_traced 5 = .ok (.astore_n 2, 1) := by decide +kernel
theorem dX2_traced_6 : decode cX2_traced 6 = .ok (.aload_n 2, 1) := by decide +kernel
theorem dX2_traced_7 : decode cX2_traced 7 = .ok (.getfield 126, 3) := by decide +kernel
theorem dX2_traced_10 : decode cX2_traced 10 = .ok (.aload_n 2, 1) := by decide +kernel
theorem dX2_traced_11 : decode cX2_traced 11 = .ok (.getfield 85, 3) := by decide +kernel
theorem dX2_traced_14 : decode cX2_traced 14 = .ok (.ladd, 1) := by decide +kernel
theorem dX2_traced_15 : decode cX2_traced 15 = .ok (.aload_n 2, 1) := by decide +kernel
theorem dX2_traced_16 : decode cX2_traced 16 = .ok (.getfield 129, 3) := by decide +kernel
theorem dX2_traced_19 : decode cX2_traced 19 = .ok (.ladd, 1) := by decide +kernel
theorem dX2_traced_20 : decode cX2_traced 20 = .ok (.lreturn, 1) := by decide +kernel
theorem dX2_kept_0 : decode cX2_kept 0 = .ok (.aload_n 0, 1) := by decide +kernel
theorem dX2_kept_1 : decode cX2_kept 1 = .ok (.iload_n 1, 1) := by decide +kernel
theorem dX2_kept_2 : decode cX2_kept 2 = .ok (.invokevirtual 63, 3) := by decide +kernel
theorem dX2_kept_5 : decode cX2_kept 5 = .ok (.getfield 132, 3) := by decide +kernel
theorem dX2_kept_8 : decode cX2_kept 8 = .ok (.lreturn, 1) := by decide +kernel
theorem dX2_sell_0 : decode cX2_sell 0 = .ok (.aload_n 0, 1) := by decide +kernel
theorem dX2_sell_1 : decode cX2_sell 1 = .ok (.iload_n 1, 1) := by decide +kernel
theorem dX2_sell_2 : decode cX2_sell 2 = .ok (.invokevirtual 63, 3) := by decide +kernel
theorem dX2_sell_5 : decode cX2_sell 5 = .ok (.astore_n 3, 1) := by decide +kernel
theorem dX2_sell_6 : decode cX2_sell 6 = .ok (.iload_n 2, 1) := by decide +kernel
theorem dX2_sell_7 : decode cX2_sell 7 = .ok (.iconst 1, 1) := by decide +kernel
theorem dX2_sell_8 : decode cX2_sell 8 = .ok (.if_icmp .lt 9, 3) := by decide +kernel
theorem dX2_sell_11 : decode cX2_sell 11 = .ok (.iload_n 2, 1) := by decide +kernel
theorem dX2_sell_12 : decode cX2_sell 12 = .ok (.ldc 135, 2) := by decide +kernel
theorem dX2_sell_14 : decode cX2_sell 14 = .ok (.if_icmp .le 13, 3) := by decide +kernel
theorem dX2_sell_17 : decode cX2_sell 17 = .ok (.new 30, 3) := by decide +kernel
theorem dX2_sell_20 : decode cX2_sell 20 = .ok (.dup, 1) := by decide +kernel
theorem dX2_sell_21 : decode cX2_sell 21 = .ok (.ldc 136, 2) := by decide +kernel
theorem dX2_sell_23 : decode cX2_sell 23 = .ok (.invokespecial 34, 3) := by decide +kernel
theorem dX2_sell_26 : decode cX2_sell 26 = .ok (.athrow, 1) := by decide +kernel
theorem dX2_sell_27 : decode cX2_sell 27 = .ok (.aload_n 3, 1) := by decide +kernel
theorem dX2_sell_28 : decode cX2_sell 28 = .ok (.invokevirtual 98, 3) := by decide +kernel
theorem dX2_sell_31 : decode cX2_sell 31 = .ok (.iload_n 2, 1) := by decide +kernel
theorem dX2_sell_32 : decode cX2_sell 32 = .ok (.if_icmp .ge 13, 3) := by decide +kernel
theorem dX2_sell_35 : decode cX2_sell 35 = .ok (.new 37, 3) := by decide +kernel
theorem dX2_sell_38 : decode cX2_sell 38 = .ok (.dup, 1) := by decide +kernel
theorem dX2_sell_39 : decode cX2_sell 39 = .ok (.ldc 138, 2) := by decide +kernel
theorem dX2_sell_41 : decode cX2_sell 41 = .ok (.invokespecial 41, 3) := by decide +kernel
theorem dX2_sell_44 : decode cX2_sell 44 = .ok (.athrow, 1) := by decide +kernel
theorem dX2_sell_45 : decode cX2_sell 45 = .ok (.aload_n 3, 1) := by decide +kernel
theorem dX2_sell_46 : decode cX2_sell 46 = .ok (.iload_n 2, 1) := by decide +kernel
theorem dX2_sell_47 : decode cX2_sell 47 = .ok (.aload_n 0, 1) := by decide +kernel
theorem dX2_sell_48 : decode cX2_sell 48 = .ok (.getfield 19, 3) := by decide +kernel
theorem dX2_sell_51 : decode cX2_sell 51 = .ok (.aload_n 0, 1) := by decide +kernel
theorem dX2_sell_52 : decode cX2_sell 52 = .ok (.getfield 22, 3) := by decide +kernel
theorem dX2_sell_55 : decode cX2_sell 55 = .ok (.invokevirtual 140, 3) := by decide +kernel
theorem dX2_sell_58 : decode cX2_sell 58 = .ok (.ireturn, 1) := by decide +kernel
theorem dX2_pay_0 : decode cX2_pay 0 = .ok (.aload_n 0, 1) := by decide +kernel
theorem dX2_pay_1 : decode cX2_pay 1 = .ok (.iload_n 1, 1) := by decide +kernel
theorem dX2_pay_2 : decode cX2_pay 2 = .ok (.invokevirtual 63, 3) := by decide +kernel
theorem dX2_pay_5 : decode cX2_pay 5 = .ok (.getfield 144, 3) := by decide +kernel
theorem dX2_pay_8 : decode cX2_pay 8 = .ok (.lreturn, 1) := by decide +kernel
theorem dX2_gain_0 : decode cX2_gain 0 = .ok (.aload_n 0, 1) := by decide +kernel
theorem dX2_gain_1 : decode cX2_gain 1 = .ok (.iload_n 1, 1) := by decide +kernel
theorem dX2_gain_2 : decode cX2_gain 2 = .ok (.invokevirtual 63, 3) := by decide +kernel
theorem dX2_gain_5 : decode cX2_gain 5 = .ok (.getfield 147, 3) := by decide +kernel
theorem dX2_gain_8 : decode cX2_gain 8 = .ok (.lreturn, 1) := by decide +kernel
theorem dX2_gainNow_0 : decode cX2_gainNow 0 = .ok (.aload_n 0, 1) := by decide +kernel
theorem dX2_gainNow_1 : decode cX2_gainNow 1 = .ok (.iload_n 1, 1) := by decide +kernel
theorem dX2_gainNow_2 : decode cX2_gainNow 2 = .ok (.invokevirtual 63, 3) := by decide +kernel
theorem dX2_gainNow_5 : decode cX2_gainNow 5 = .ok (.aload_n 0, 1) := by decide +kernel
theorem dX2_gainNow_6 : decode cX2_gainNow 6 = .ok (.getfield 19, 3) := by decide +kernel
theorem dX2_gainNow_9 : decode cX2_gainNow 9 = .ok (.aload_n 0, 1) := by decide +kernel
theorem dX2_gainNow_10 : decode cX2_gainNow 10 = .ok (.getfield 22, 3) := by decide +kernel
theorem dX2_gainNow_13 : decode cX2_gainNow 13 = .ok (.invokevirtual 150, 3) := by decide +kernel
theorem dX2_gainNow_16 : decode cX2_gainNow 16 = .ok (.lreturn, 1) := by decide +kernel
theorem dX2_memberOrThrow_0 : decode cX2_memberOrThrow 0 = .ok (.iload_n 1, 1) := by decide +kernel
theorem dX2_memberOrThrow_1 : decode cX2_memberOrThrow 1 = .ok (.ifCond .lt 12, 3) := by decide +kernel
theorem dX2_memberOrThrow_4 : decode cX2_memberOrThrow 4 = .ok (.iload_n 1, 1) := by decide +kernel
theorem dX2_memberOrThrow_5 : decode cX2_memberOrThrow 5 = .ok (.aload_n 0, 1) := by decide +kernel
theorem dX2_memberOrThrow_6 : decode cX2_memberOrThrow 6 = .ok (.getfield 11, 3) := by decide +kernel
theorem dX2_memberOrThrow_9 : decode cX2_memberOrThrow 9 = .ok (.arraylength, 1) := by decide +kernel
theorem dX2_memberOrThrow_10 : decode cX2_memberOrThrow 10 = .ok (.if_icmp .lt 13, 3) := by decide +kernel
theorem dX2_memberOrThrow_13 : decode cX2_memberOrThrow 13 = .ok (.new 117, 3) := by decide +kernel
theorem dX2_memberOrThrow_16 : decode cX2_memberOrThrow 16 = .ok (.dup, 1) := by decide +kernel
theorem dX2_memberOrThrow_17 : decode cX2_memberOrThrow 17 = .ok (.ldc 154, 2) := by decide +kernel
theorem dX2_memberOrThrow_19 : decode cX2_memberOrThrow 19 = .ok (.invokespecial 121, 3) := by decide +kernel
theorem dX2_memberOrThrow_22 : decode cX2_memberOrThrow 22 = .ok (.athrow, 1) := by decide +kernel
theorem dX2_memberOrThrow_23 : decode cX2_memberOrThrow 23 = .ok (.aload_n 0, 1) := by decide +kernel
theorem dX2_memberOrThrow_24 : decode cX2_memberOrThrow 24 = .ok (.getfield 11, 3) := by decide +kernel
theorem dX2_memberOrThrow_27 : decode cX2_memberOrThrow 27 = .ok (.iload_n 1, 1) := by decide +kernel
theorem dX2_memberOrThrow_28 : decode cX2_memberOrThrow 28 = .ok (.aaload, 1) := by decide +kernel
theorem dX2_memberOrThrow_29 : decode cX2_memberOrThrow 29 = .ok (.astore_n 2, 1) := by decide +kernel
theorem dX2_memberOrThrow_30 : decode cX2_memberOrThrow 30 = .ok (.aload_n 2, 1) := by decide +kernel
theorem dX2_memberOrThrow_31 : decode cX2_memberOrThrow 31 = .ok (.ifnonnull 13, 3) := by decide +kernel
theorem dX2_memberOrThrow_34 : decode cX2_memberOrThrow 34 = .ok (.new 117, 3) := by decide +kernel
theorem dX2_memberOrThrow_37 : decode cX2_memberOrThrow 37 = .ok (.dup, 1) := by decide +kernel
theorem dX2_memberOrThrow_38 : decode cX2_memberOrThrow 38 = .ok (.ldc 154, 2) := by decide +kernel
theorem dX2_memberOrThrow_40 : decode cX2_memberOrThrow 40 = .ok (.invokespecial 121, 3) := by decide +kernel
theorem dX2_memberOrThrow_43 : decode cX2_memberOrThrow 43 = .ok (.athrow, 1) := by decide +kernel
theorem dX2_memberOrThrow_44 : decode cX2_memberOrThrow 44 = .ok (.aload_n 2, 1) := by decide +kernel
theorem dX2_memberOrThrow_45 : decode cX2_memberOrThrow 45 = .ok (.areturn, 1) := by decide +kernel
theorem dX2_refuseBadRate_0 : decode cX2_refuseBadRate 0 = .ok (.iload_n 0, 1) := by decide +kernel
theorem dX2_refuseBadRate_1 : decode cX2_refuseBadRate 1 = .ok (.iconst 1, 1) := by decide +kernel
theorem dX2_refuseBadRate_2 : decode cX2_refuseBadRate 2 = .ok (.if_icmp .lt 9, 3) := by decide +kernel
theorem dX2_refuseBadRate_5 : decode cX2_refuseBadRate 5 = .ok (.iload_n 0, 1) := by decide +kernel
theorem dX2_refuseBadRate_6 : decode cX2_refuseBadRate 6 = .ok (.bipush 15, 2) := by decide +kernel
theorem dX2_refuseBadRate_8 : decode cX2_refuseBadRate 8 = .ok (.if_icmp .le 13, 3) := by decide +kernel
theorem dX2_refuseBadRate_11 : decode cX2_refuseBadRate 11 = .ok (.new 30, 3) := by decide +kernel
theorem dX2_refuseBadRate_14 : decode cX2_refuseBadRate 14 = .ok (.dup, 1) := by decide +kernel
theorem dX2_refuseBadRate_15 : decode cX2_refuseBadRate 15 = .ok (.ldc 156, 2) := by decide +kernel
theorem dX2_refuseBadRate_17 : decode cX2_refuseBadRate 17 = .ok (.invokespecial 34, 3) := by decide +kernel
theorem dX2_refuseBadRate_20 : decode cX2_refuseBadRate 20 = .ok (.athrow, 1) := by decide +kernel
theorem dX2_refuseBadRate_21 : decode cX2_refuseBadRate 21 = .ok (.return_, 1) := by decide +kernel
theorem dX2_refuseBadMonth_0 : decode cX2_refuseBadMonth 0 = .ok (.iload_n 0, 1) := by decide +kernel
theorem dX2_refuseBadMonth_1 : decode cX2_refuseBadMonth 1 = .ok (.ifCond .lt 9, 3) := by decide +kernel
theorem dX2_refuseBadMonth_4 : decode cX2_refuseBadMonth 4 = .ok (.iload_n 0, 1) := by decide +kernel
theorem dX2_refuseBadMonth_5 : decode cX2_refuseBadMonth 5 = .ok (.bipush 60, 2) := by decide +kernel
theorem dX2_refuseBadMonth_7 : decode cX2_refuseBadMonth 7 = .ok (.if_icmp .lt 13, 3) := by decide +kernel
theorem dX2_refuseBadMonth_10 : decode cX2_refuseBadMonth 10 = .ok (.new 117, 3) := by decide +kernel
theorem dX2_refuseBadMonth_13 : decode cX2_refuseBadMonth 13 = .ok (.dup, 1) := by decide +kernel
theorem dX2_refuseBadMonth_14 : decode cX2_refuseBadMonth 14 = .ok (.ldc 158, 2) := by decide +kernel
theorem dX2_refuseBadMonth_16 : decode cX2_refuseBadMonth 16 = .ok (.invokespecial 121, 3) := by decide +kernel
theorem dX2_refuseBadMonth_19 : decode cX2_refuseBadMonth 19 = .ok (.athrow, 1) := by decide +kernel
theorem dX2_refuseBadMonth_20 : decode cX2_refuseBadMonth 20 = .ok (.return_, 1) := by decide +kernel
theorem dX2_refuseLeft_0 : decode cX2_refuseLeft 0 = .ok (.aload_n 0, 1) := by decide +kernel
theorem dX2_refuseLeft_1 : decode cX2_refuseLeft 1 = .ok (.getfield 160, 3) := by decide +kernel
theorem dX2_refuseLeft_4 : decode cX2_refuseLeft 4 = .ok (.ifCond .eq 13, 3) := by decide +kernel
