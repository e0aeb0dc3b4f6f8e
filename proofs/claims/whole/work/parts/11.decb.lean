theorem dX2_sell_32 : decode cX2_sell 32 = .ok (.if_icmp .ge 13, 3) := by decide +kernel
theorem dX2_sell_35 : decode cX2_sell 35 = .ok (.new 37, 3) := by decide +kernel
theorem dX2_sell_38 : decode cX2_sell 38 = .ok (.dup, 1) := by decide +kernel
theorem dX2_sell_39 : decode cX2_sell 39 = .ok (.ldc 138, 2) := by decide +kernel
theorem dX2_sell_41 : decode cX2_sell 41 = .ok (.invokespecial 41, 3) := by decide +kernel
theorem dX2_sell_44 : decode cX2_sell 44 = .ok (.athrow, 1) := by decide +kernel
theorem dX2_sell_45 : decode cX2_sell 45 = .ok (.aload_n 3, 1) := by decide +kernel
theorem dX2_sell_46 : decode cX2_sell 46 = .ok (.iload_n 2, 1) := by decide +kernel
theorem dX2_sell_47 : decode cX2_sell 47 = .ok (.aload_n 0, 1) := by decide +kernel
theorem dX2_sell_48 : decode cX2_sell 48 = .ok (.getfield 19, 3) := by decide +kernel
theorem dX2_sell_51 : decode cX2_sell 51 = .ok (.aload_n 0, 1) := by decide +kernel
theorem dX2_sell_52 : decode cX2_sell 52 = .ok (.getfield 22, 3) := by decide +kernel
theorem dX2_sell_55 : decode cX2_sell 55 = .ok (.invokevirtual 140, 3) := by decide +kernel
theorem dX2_sell_58 : decode cX2_sell 58 = .ok (.ireturn, 1) := by decide +kernel
theorem dX2_pay_0 : decode cX2_pay 0 = .ok (.aload_n 0, 1) := by decide +kernel
theorem dX2_pay_1 : decode cX2_pay 1 = .ok (.iload_n 1, 1) := by decide +kernel
theorem dX2_pay_2 : decode cX2_pay 2 = .ok (.invokevirtual 63, 3) := by decide +kernel
theorem dX2_pay_5 : decode cX2_pay 5 = .ok (.getfield 144, 3) := by decide +kernel
theorem dX2_pay_8 : decode cX2_pay 8 = .ok (.lreturn, 1) := by decide +kernel
theorem dX2_gain_0 : decode cX2_gain 0 = .ok (.aload_n 0, 1) := by decide +kernel
theorem dX2_gain_1 : decode cX2_gain 1 = .ok (.iload_n 1, 1) := by decide +kernel
theorem dX2_gain_2 : decode cX2_gain 2 = .ok (.invokevirtual 63, 3) := by decide +kernel
theorem dX2_gain_5 : decode cX2_gain 5 = .ok (.getfield 147, 3) := by decide +kernel
theorem dX2_gain_8 : decode cX2_gain 8 = .ok (.lreturn, 1) := by decide +kernel
theorem dX2_gainNow_0 : decode cX2_gainNow 0 = .ok (.aload_n 0, 1) := by decide +kernel
theorem dX2_gainNow_1 : decode cX2_gainNow 1 = .ok (.iload_n 1, 1) := by decide +kernel
theorem dX2_gainNow_2 : decode cX2_gainNow 2 = .ok (.invokevirtual 63, 3) := by decide +kernel
theorem dX2_gainNow_5 : decode cX2_gainNow 5 = .ok (.aload_n 0, 1) := by decide +kernel
theorem dX2_gainNow_6 : decode cX2_gainNow 6 = .ok (.getfield 19, 3) := by decide +kernel
theorem dX2_gainNow_9 : decode cX2_gainNow 9 = .ok (.aload_n 0, 1) := by decide +kernel
theorem dX2_gainNow_10 : decode cX2_gainNow 10 = .ok (.getfield 22, 3) := by decide +kernel
theorem dX2_gainNow_13 : decode cX2_gainNow 13 = .ok (.invokevirtual 150, 3) := by decide +kernel
theorem dX2_gainNow_16 : decode cX2_gainNow 16 = .ok (.lreturn, 1) := by decide +kernel
theorem dX2_memberOrThrow_0 : decode cX2_memberOrThrow 0 = .ok (.iload_n 1, 1) := by decide +kernel
theorem dX2_memberOrThrow_1 : decode cX2_memberOrThrow 1 = .ok (.ifCond .lt 12, 3) := by decide +kernel
theorem dX2_memberOrThrow_4 : decode cX2_memberOrThrow 4 = .ok (.iload_n 1, 1) := by decide +kernel
theorem dX2_memberOrThrow_5 : decode cX2_memberOrThrow 5 = .ok (.aload_n 0, 1) := by decide +kernel
theorem dX2_memberOrThrow_6 : decode cX2_memberOrThrow 6 = .ok (.getfield 11, 3) := by decide +kernel
theorem dX2_memberOrThrow_9 : decode cX2_memberOrThrow 9 = .ok (.arraylength, 1) := by decide +kernel
theorem dX2_memberOrThrow_10 : decode cX2_memberOrThrow 10 = .ok (.if_icmp .lt 13, 3) := by decide +kernel
theorem dX2_memberOrThrow_13 : decode cX2_memberOrThrow 13 = .ok (.new 117, 3) := by decide +kernel
theorem dX2_memberOrThrow_16 : decode cX2_memberOrThrow 16 = .ok (.dup, 1) := by decide +kernel
theorem dX2_memberOrThrow_17 : decode cX2_memberOrThrow 17 = .ok (.ldc 154, 2) := by decide +kernel
theorem dX2_memberOrThrow_19 : decode cX2_memberOrThrow 19 = .ok (.invokespecial 121, 3) := by decide +kernel
theorem dX2_memberOrThrow_22 : decode cX2_memberOrThrow 22 = .ok (.athrow, 1) := by decide +kernel
theorem dX2_memberOrThrow_23 : decode cX2_memberOrThrow 23 = .ok (.aload_n 0, 1) := by decide +kernel
theorem dX2_memberOrThrow_24 : decode cX2_memberOrThrow 24 = .ok (.getfield 11, 3) := by decide +kernel
theorem dX2_memberOrThrow_27 : decode cX2_memberOrThrow 27 = .ok (.iload_n 1, 1) := by decide +kernel
theorem dX2_memberOrThrow_28 : decode cX2_memberOrThrow 28 = .ok (.aaload, 1) := by decide +kernel
theorem dX2_memberOrThrow_29 : decode cX2_memberOrThrow 29 = .ok (.astore_n 2, 1) := by decide +kernel
theorem dX2_memberOrThrow_30 : decode cX2_memberOrThrow 30 = .ok (.aload_n 2, 1) := by decide +kernel
theorem dX2_memberOrThrow_31 : decode cX2_memberOrThrow 31 = .ok (.ifnonnull 13, 3) := by decide +kernel
theorem dX2_memberOrThrow_34 : decode cX2_memberOrThrow 34 = .ok (.new 117, 3) := by decide +kernel
theorem dX2_memberOrThrow_37 : decode cX2_memberOrThrow 37 = .ok (.dup, 1) := by decide +kernel
theorem dX2_memberOrThrow_38 : decode cX2_memberOrThrow 38 = .ok (.ldc 154, 2) := by decide +kernel
theorem dX2_memberOrThrow_40 : decode cX2_memberOrThrow 40 = .ok (.invokespecial 121, 3) := by decide +kernel
theorem dX2_memberOrThrow_43 : decode cX2_memberOrThrow 43 = .ok (.athrow, 1) := by decide +kernel
theorem dX2_memberOrThrow_44 : decode cX2_memberOrThrow 44 = .ok (.aload_n 2, 1) := by decide +kernel
theorem dX2_memberOrThrow_45 : decode cX2_memberOrThrow 45 = .ok (.areturn, 1) := by decide +kernel
theorem dX2_refuseBadRate_0 : decode cX2_refuseBadRate 0 = .ok (.iload_n 0, 1) := by decide +kernel
theorem dX2_refuseBadRate_1 : decode cX2_refuseBadRate 1 = .ok (.iconst 1, 1) := by decide +kernel
theorem dX2_refuseBadRate_2 : decode cX2_refuseBadRate 2 = .ok (.if_icmp .lt 9, 3) := by decide +kernel
theorem dX2_refuseBadRate_5 : decode cX2_refuseBadRate 5 = .ok (.iload_n 0, 1) := by decide +kernel
theorem dX2_refuseBadRate_6 : decode cX2_refuseBadRate 6 = .ok (.bipush 15, 2) := by decide +kernel
theorem dX2_refuseBadRate_8 : decode cX2_refuseBadRate 8 = .ok (.if_icmp .le 13, 3) := by decide +kernel
theorem dX2_refuseBadRate_11 : decode cX2_refuseBadRate 11 = .ok (.new 30, 3) := by decide +kernel
theorem dX2_refuseBadRate_14 : decode cX2_refuseBadRate 14 = .ok (.dup, 1) := by decide +kernel
theorem dX2_refuseBadRate_15 : decode cX2_refuseBadRate 15 = .ok (.ldc 156, 2) := by decide +kernel
theorem dX2_refuseBadRate_17 : decode cX2_refuseBadRate 17 = .ok (.invokespecial 34, 3) := by decide +kernel
theorem dX2_refuseBadRate_20 : decode cX2_refuseBadRate 20 = .ok (.athrow, 1) := by decide +kernel
theorem dX2_refuseBadRate_21 : decode cX2_refuseBadRate 21 = .ok (.return_, 1) := by decide +kernel
theorem dX2_refuseBadMonth_0 : decode cX2_refuseBadMonth 0 = .ok (.iload_n 0, 1) := by decide +kernel
theorem dX2_refuseBadMonth_1 : decode cX2_refuseBadMonth 1 = .ok (.ifCond .lt 9, 3) := by decide +kernel
theorem dX2_refuseBadMonth_4 : decode cX2_refuseBadMonth 4 = .ok (.iload_n 0, 1) := by decide +kernel
theorem dX2_refuseBadMonth_5 : decode cX2_refuseBadMonth 5 = .ok (.bipush 60, 2) := by decide +kernel
theorem dX2_refuseBadMonth_7 : decode cX2_refuseBadMonth 7 = .ok (.if_icmp .lt 13, 3) := by decide +kernel
theorem dX2_refuseBadMonth_10 : decode cX2_refuseBadMonth 10 = .ok (.new 117, 3) := by decide +kernel
theorem dX2_refuseBadMonth_13 : decode cX2_refuseBadMonth 13 = .ok (.dup, 1) := by decide +kernel
theorem dX2_refuseBadMonth_14 : decode cX2_refuseBadMonth 14 = .ok (.ldc 158, 2) := by decide +kernel
theorem dX2_refuseBadMonth_16 : decode cX2_refuseBadMonth 16 = .ok (.invokespecial 121, 3) := by decide +kernel
theorem dX2_refuseBadMonth_19 : decode cX2_refuseBadMonth 19 = .ok (.athrow, 1) := by decide +kernel
theorem dX2_refuseBadMonth_20 : decode cX2_refuseBadMonth 20 = .ok (.return_, 1) := by decide +kernel
theorem dX2_refuseLeft_0 : decode cX2_refuseLeft 0 = .ok (.aload_n 0, 1) := by decide +kernel
theorem dX2_refuseLeft_1 : decode cX2_refuseLeft 1 = .ok (.getfield 160, 3) := by decide +kernel
theorem dX2_refuseLeft_4 : decode cX2_refuseLeft 4 = .ok (.ifCond .eq 13, 3) := by decide +kernel
theorem dX2_refuseLeft_7 : decode cX2_refuseLeft 7 = .ok (.new 37, 3) := by decide +kernel
theorem dX2_refuseLeft_10 : decode cX2_refuseLeft 10 = .ok (.dup, 1) := by decide +kernel
theorem dX2_refuseLeft_11 : decode cX2_refuseLeft 11 = .ok (.ldc 164, 2) := by decide +kernel
theorem dX2_refuseLeft_13 : decode cX2_refuseLeft 13 = .ok (.invokespecial 41, 3) := by decide +kernel
theorem dX2_refuseLeft_16 : decode cX2_refuseLeft 16 = .ok (.athrow, 1) := by decide +kernel
theorem dX2_refuseLeft_17 : decode cX2_refuseLeft 17 = .ok (.return_, 1) := by decide +kernel
theorem dX2_isPurchaseMonth_0 : decode cX2_isPurchaseMonth 0 = .ok (.iload_n 0, 1) := by decide +kernel
theorem dX2_isPurchaseMonth_1 : decode cX2_isPurchaseMonth 1 = .ok (.bipush 6, 2) := by decide +kernel
theorem dX2_isPurchaseMonth_3 : decode cX2_isPurchaseMonth 3 = .ok (.irem, 1) := by decide +kernel
theorem dX2_isPurchaseMonth_4 : decode cX2_isPurchaseMonth 4 = .ok (.iconst 5, 1) := by decide +kernel
theorem dX2_isPurchaseMonth_5 : decode cX2_isPurchaseMonth 5 = .ok (.if_icmp .ne 7, 3) := by decide +kernel
theorem dX2_isPurchaseMonth_8 : decode cX2_isPurchaseMonth 8 = .ok (.iconst 1, 1) := by decide +kernel
theorem dX2_isPurchaseMonth_9 : decode cX2_isPurchaseMonth 9 = .ok (.goto 4, 3) := by decide +kernel
theorem dX2_isPurchaseMonth_12 : decode cX2_isPurchaseMonth 12 = .ok (.iconst 0, 1) := by decide +kernel
theorem dX2_isPurchaseMonth_13 : decode cX2_isPurchaseMonth 13 = .ok (.ireturn, 1) := by decide +kernel
theorem dX2_buyForAll_0 : decode cX2_buyForAll 0 = .ok (.iconst 0, 1) := by decide +kernel
theorem dX2_buyForAll_1 : decode cX2_buyForAll 1 = .ok (.istore_n 1, 1) := by decide +kernel
theorem dX2_buyForAll_2 : decode cX2_buyForAll 2 = .ok (.iload_n 1, 1) := by decide +kernel
theorem dX2_buyForAll_3 : decode cX2_buyForAll 3 = .ok (.aload_n 0, 1) := by decide +kernel
theorem dX2_buyForAll_4 : decode cX2_buyForAll 4 = .ok (.getfield 11, 3) := by decide +kernel
theorem dX2_buyForAll_7 : decode cX2_buyForAll 7 = .ok (.arraylength, 1) := by decide +kernel
theorem dX2_buyForAll_8 : decode cX2_buyForAll 8 = .ok (.if_icmp .ge 43, 3) := by decide +kernel
theorem dX2_buyForAll_11 : decode cX2_buyForAll 11 = .ok (.aload_n 0, 1) := by decide +kernel
theorem dX2_buyForAll_12 : decode cX2_buyForAll 12 = .ok (.getfield 11, 3) := by decide +kernel
theorem dX2_buyForAll_15 : decode cX2_buyForAll 15 = .ok (.iload_n 1, 1) := by decide +kernel
theorem dX2_buyForAll_16 : decode cX2_buyForAll 16 = .ok (.aaload, 1) := by decide +kernel
theorem dX2_buyForAll_17 : decode cX2_buyForAll 17 = .ok (.astore_n 2, 1) := by decide +kernel
theorem dX2_buyForAll_18 : decode cX2_buyForAll 18 = .ok (.aload_n 2, 1) := by decide +kernel
theorem dX2_buyForAll_19 : decode cX2_buyForAll 19 = .ok (.ifnull 26, 3) := by decide +kernel
theorem dX2_buyForAll_22 : decode cX2_buyForAll 22 = .ok (.aload_n 2, 1) := by decide +kernel
theorem dX2_buyForAll_23 : decode cX2_buyForAll 23 = .ok (.getfield 160, 3) := by decide +kernel
theorem dX2_buyForAll_26 : decode cX2_buyForAll 26 = .ok (.ifCond .ne 19, 3) := by decide +kernel
theorem dX2_buyForAll_29 : decode cX2_buyForAll 29 = .ok (.aload_n 2, 1) := by decide +kernel
theorem dX2_buyForAll_30 : decode cX2_buyForAll 30 = .ok (.aload_n 0, 1) := by decide +kernel
theorem dX2_buyForAll_31 : decode cX2_buyForAll 31 = .ok (.getfield 19, 3) := by decide +kernel
theorem dX2_buyForAll_34 : decode cX2_buyForAll 34 = .ok (.aload_n 0, 1) := by decide +kernel
theorem dX2_buyForAll_35 : decode cX2_buyForAll 35 = .ok (.getfield 22, 3) := by decide +kernel
theorem dX2_buyForAll_38 : decode cX2_buyForAll 38 = .ok (.aload_n 0, 1) := by decide +kernel
theorem dX2_buyForAll_39 : decode cX2_buyForAll 39 = .ok (.getfield 26, 3) := by decide +kernel
theorem dX2_buyForAll_42 : decode cX2_buyForAll 42 = .ok (.invokevirtual 166, 3) := by decide +kernel
theorem dX2_buyForAll_45 : decode cX2_buyForAll 45 = .ok (.iinc 1 1, 3) := by decide +kernel
theorem dX2_buyForAll_48 : decode cX2_buyForAll 48 = .ok (.goto (-46), 3) := by decide +kernel
theorem dX2_buyForAll_51 : decode cX2_buyForAll 51 = .ok (.return_, 1) := by decide +kernel
theorem dX3_init_0 : decode cX3_init 0 = .ok (.aload_n 0, 1) := by decide +kernel
theorem dX3_init_1 : decode cX3_init 1 = .ok (.invokespecial 1, 3) := by decide +kernel
theorem dX3_init_4 : decode cX3_init 4 = .ok (.aload_n 0, 1) := by decide +kernel
theorem dX3_init_5 : decode cX3_init 5 = .ok (.iconst (-1), 1) := by decide +kernel
theorem dX3_init_6 : decode cX3_init 6 = .ok (.putfield 9, 3) := by decide +kernel
theorem dX3_init_9 : decode cX3_init 9 = .ok (.aload_n 0, 1) := by decide +kernel
theorem dX3_init_10 : decode cX3_init 10 = .ok (.bipush 60, 2) := by decide +kernel
theorem dX3_init_12 : decode cX3_init 12 = .ok (.newarray .int, 2) := by decide +kernel
theorem dX3_init_14 : decode cX3_init 14 = .ok (.putfield 13, 3) := by decide +kernel
theorem dX3_init_17 : decode cX3_init 17 = .ok (.aload_n 0, 1) := by decide +kernel
theorem dX3_init_18 : decode cX3_init 18 = .ok (.ldc 17, 2) := by decide +kernel
theorem dX3_init_20 : decode cX3_init 20 = .ok (.putfield 18, 3) := by decide +kernel
theorem dX3_init_23 : decode cX3_init 23 = .ok (.aload_n 0, 1) := by decide +kernel
theorem dX3_init_24 : decode cX3_init 24 = .ok (.bipush 6, 2) := by decide +kernel
theorem dX3_init_26 : decode cX3_init 26 = .ok (.newarray .int, 2) := by decide +kernel
theorem dX3_init_28 : decode cX3_init 28 = .ok (.putfield 21, 3) := by decide +kernel
theorem dX3_init_31 : decode cX3_init 31 = .ok (.aload_n 0, 1) := by decide +kernel
theorem dX3_init_32 : decode cX3_init 32 = .ok (.bipush 6, 2) := by decide +kernel
theorem dX3_init_34 : decode cX3_init 34 = .ok (.newarray .boolean, 2) := by decide +kernel
theorem dX3_init_36 : decode cX3_init 36 = .ok (.putfield 24, 3) := by decide +kernel
theorem dX3_init_39 : decode cX3_init 39 = .ok (.aload_n 0, 1) := by decide +kernel
theorem dX3_init_40 : decode cX3_init 40 = .ok (.bipush 6, 2) := by decide +kernel
theorem dX3_init_42 : decode cX3_init 42 = .ok (.newarray .int, 2) := by decide +kernel
theorem dX3_init_44 : decode cX3_init 44 = .ok (.putfield 28, 3) := by decide +kernel
theorem dX3_init_47 : decode cX3_init 47 = .ok (.aload_n 0, 1) := by decide +kernel
theorem dX3_init_48 : decode cX3_init 48 = .ok (.bipush 6, 2) := by decide +kernel
theorem dX3_init_50 : decode cX3_init 50 = .ok (.newarray .int, 2) := by decide +kernel
theorem dX3_init_52 : decode cX3_init 52 = .ok (.putfield 31, 3) := by decide +kernel
theorem dX3_init_55 : decode cX3_init 55 = .ok (.aload_n 0, 1) := by decide +kernel
theorem dX3_init_56 : decode cX3_init 56 = .ok (.bipush 6, 2) := by decide +kernel
theorem dX3_init_58 : decode cX3_init 58 = .ok (.newarray .long, 2) := by decide +kernel
theorem dX3_init_60 : decode cX3_init 60 = .ok (.putfield 34, 3) := by decide +kernel
theorem dX3_init_63 : decode cX3_init 63 = .ok (.aload_n 0, 1) := by decide +kernel
theorem dX3_init_64 : decode cX3_init 64 = .ok (.bipush 6, 2) := by decide +kernel
theorem dX3_init_66 : decode cX3_init 66 = .ok (.newarray .long, 2) := by decide +kernel
theorem dX3_init_68 : decode cX3_init 68 = .ok (.putfield 38, 3) := by decide +kernel
theorem dX3_init_71 : decode cX3_init 71 = .ok (.aload_n 0, 1) := by decide +kernel
theorem dX3_init_72 : decode cX3_init 72 = .ok (.bipush 6, 2) := by decide +kernel
theorem dX3_init_74 : decode cX3_init 74 = .ok (.newarray .int, 2) := by decide +kernel
theorem dX3_init_76 : decode cX3_init 76 = .ok (.putfield 41, 3) := by decide +kernel
theorem dX3_init_79 : decode cX3_init 79 = .ok (.aload_n 0, 1) := by decide +kernel
theorem dX3_init_80 : decode cX3_init 80 = .ok (.bipush 6, 2) := by decide +kernel
theorem dX3_init_82 : decode cX3_init 82 = .ok (.newarray .int, 2) := by decide +kernel
theorem dX3_init_84 : decode cX3_init 84 = .ok (.putfield 44, 3) := by decide +kernel
theorem dX3_init_87 : decode cX3_init 87 = .ok (.aload_n 0, 1) := by decide +kernel
theorem dX3_init_88 : decode cX3_init 88 = .ok (.bipush 6, 2) := by decide +kernel
theorem dX3_init_90 : decode cX3_init 90 = .ok (.newarray .int, 2) := by decide +kernel
theorem dX3_init_92 : decode cX3_init 92 = .ok (.putfield 47, 3) := by decide +kernel
theorem dX3_init_95 : decode cX3_init 95 = .ok (.aload_n 0, 1) := by decide +kernel
theorem dX3_init_96 : decode cX3_init 96 = .ok (.bipush 6, 2) := by decide +kernel
theorem dX3_init_98 : decode cX3_init 98 = .ok (.newarray .long, 2) := by decide +kernel
theorem dX3_init_100 : decode cX3_init 100 = .ok (.putfield 50, 3) := by decide +kernel
theorem dX3_init_103 : decode cX3_init 103 = .ok (.aload_n 0, 1) := by decide +kernel
theorem dX3_init_104 : decode cX3_init 104 = .ok (.bipush 6, 2) := by decide +kernel
theorem dX3_init_106 : decode cX3_init 106 = .ok (.newarray .long, 2) := by decide +kernel
theorem dX3_init_108 : decode cX3_init 108 = .ok (.putfield 53, 3) := by decide +kernel
theorem dX3_init_111 : decode cX3_init 111 = .ok (.aload_n 0, 1) := by decide +kernel
theorem dX3_init_112 : decode cX3_init 112 = .ok (.bipush 60, 2) := by decide +kernel
theorem dX3_init_114 : decode cX3_init 114 = .ok (.newarray .int, 2) := by decide +kernel
theorem dX3_init_116 : decode cX3_init 116 = .ok (.putfield 56, 3) := by decide +kernel
theorem dX3_init_119 : decode cX3_init 119 = .ok (.aload_n 0, 1) := by decide +kernel
theorem dX3_init_120 : decode cX3_init 120 = .ok (.bipush 60, 2) := by decide +kernel
theorem dX3_init_122 : decode cX3_init 122 = .ok (.newarray .int, 2) := by decide +kernel
theorem dX3_init_124 : decode cX3_init 124 = .ok (.putfield 59, 3) := by decide +kernel
theorem dX3_init_127 : decode cX3_init 127 = .ok (.aload_n 0, 1) := by decide +kernel
theorem dX3_init_128 : decode cX3_init 128 = .ok (.bipush 60, 2) := by decide +kernel
theorem dX3_init_130 : decode cX3_init 130 = .ok (.newarray .int, 2) := by decide +kernel
theorem dX3_init_132 : decode cX3_init 132 = .ok (.putfield 62, 3) := by decide +kernel
theorem dX3_init_135 : decode cX3_init 135 = .ok (.aload_n 0, 1) := by decide +kernel
theorem dX3_init_136 : decode cX3_init 136 = .ok (.bipush 60, 2) := by decide +kernel
theorem dX3_init_138 : decode cX3_init 138 = .ok (.newarray .int, 2) := by decide +kernel
theorem dX3_init_140 : decode cX3_init 140 = .ok (.putfield 65, 3) := by decide +kernel
theorem dX3_init_143 : decode cX3_init 143 = .ok (.return_, 1) := by decide +kernel
theorem dX3_thrown_0 : decode cX3_thrown 0 = .ok (.aload_n 0, 1) := by decide +kernel
theorem dX3_thrown_1 : decode cX3_thrown 1 = .ok (.getfield 68, 3) := by decide +kernel
theorem dX3_thrown_4 : decode cX3_thrown 4 = .ok (.ireturn, 1) := by decide +kernel
theorem dX3_may_0 : decode cX3_may 0 = .ok (.aload_n 0, 1) := by decide +kernel
theorem dX3_may_1 : decode cX3_may 1 = .ok (.iload_n 1, 1) := by decide +kernel
theorem dX3_may_2 : decode cX3_may 2 = .ok (.ifCond .eq 7, 3) := by decide +kernel
theorem dX3_may_5 : decode cX3_may 5 = .ok (.iconst 0, 1) := by decide +kernel
theorem dX3_may_6 : decode cX3_may 6 = .ok (.goto 4, 3) := by decide +kernel
theorem dX3_may_9 : decode cX3_may 9 = .ok (.iconst 1, 1) := by decide +kernel
theorem dX3_may_10 : decode cX3_may 10 = .ok (.putfield 68, 3) := by decide +kernel
theorem dX3_may_13 : decode cX3_may 13 = .ok (.iload_n 1, 1) := by decide +kernel
theorem dX3_may_14 : decode cX3_may 14 = .ok (.ireturn, 1) := by decide +kernel
theorem dX3_mayBoth_0 : decode cX3_mayBoth 0 = .ok (.aload_n 0, 1) := by decide +kernel
theorem dX3_mayBoth_1 : decode cX3_mayBoth 1 = .ok (.iload_n 1, 1) := by decide +kernel
theorem dX3_mayBoth_2 : decode cX3_mayBoth 2 = .ok (.ifCond .ne 7, 3) := by decide +kernel
theorem dX3_mayBoth_5 : decode cX3_mayBoth 5 = .ok (.iconst 1, 1) := by decide +kernel
theorem dX3_mayBoth_6 : decode cX3_mayBoth 6 = .ok (.goto 12, 3) := by decide +kernel
theorem dX3_mayBoth_9 : decode cX3_mayBoth 9 = .ok (.iload_n 2, 1) := by decide +kernel
theorem dX3_mayBoth_10 : decode cX3_mayBoth 10 = .ok (.ifCond .ne 7, 3) := by decide +kernel
theorem dX3_mayBoth_13 : decode cX3_mayBoth 13 = .ok (.iconst 2, 1) := by decide +kernel
theorem dX3_mayBoth_14 : decode cX3_mayBoth 14 = .ok (.goto 4, 3) := by decide +kernel
theorem dX3_mayBoth_17 : decode cX3_mayBoth 17 = .ok (.iconst 0, 1) := by decide +kernel
theorem dX3_mayBoth_18 : decode cX3_mayBoth 18 = .ok (.putfield 68, 3) := by decide +kernel
theorem dX3_mayBoth_21 : decode cX3_mayBoth 21 = .ok (.aload_n 0, 1) := by decide +kernel
theorem dX3_mayBoth_22 : decode cX3_mayBoth 22 = .ok (.getfield 68, 3) := by decide +kernel
theorem dX3_mayBoth_25 : decode cX3_mayBoth 25 = .ok (.ifCond .ne 7, 3) := by decide +kernel
theorem dX3_mayBoth_28 : decode cX3_mayBoth 28 = .ok (.iconst 1, 1) := by decide +kernel
theorem dX3_mayBoth_29 : decode cX3_mayBoth 29 = .ok (.goto 4, 3) := by decide +kernel
theorem dX3_mayBoth_32 : decode cX3_mayBoth 32 = .ok (.iconst 0, 1) := by decide +kernel
theorem dX3_mayBoth_33 : decode cX3_mayBoth 33 = .ok (.ireturn, 1) := by decide +kernel
theorem dX3_mayAll_0 : decode cX3_mayAll 0 = .ok (.aload_n 0, 1) := by decide +kernel
theorem dX3_mayAll_1 : decode cX3_mayAll 1 = .ok (.iload_n 1, 1) := by decide +kernel
theorem dX3_mayAll_2 : decode cX3_mayAll 2 = .ok (.ifCond .ne 7, 3) := by decide +kernel
theorem dX3_mayAll_5 : decode cX3_mayAll 5 = .ok (.iconst 1, 1) := by decide +kernel
theorem dX3_mayAll_6 : decode cX3_mayAll 6 = .ok (.goto 20, 3) := by decide +kernel
theorem dX3_mayAll_9 : decode cX3_mayAll 9 = .ok (.iload_n 2, 1) := by decide +kernel
theorem dX3_mayAll_10 : decode cX3_mayAll 10 = .ok (.ifCond .ne 7, 3) := by decide +kernel
theorem dX3_mayAll_13 : decode cX3_mayAll 13 = .ok (.iconst 2, 1) := by decide +kernel
theorem dX3_mayAll_14 : decode cX3_mayAll 14 = .ok (.goto 12, 3) := by decide +kernel
theorem dX3_mayAll_17 : decode cX3_mayAll 17 = .ok (.iload_n 3, 1) := by decide +kernel
theorem dX3_mayAll_18 : decode cX3_mayAll 18 = .ok (.ifCond .ne 7, 3) := by decide +kernel
theorem dX3_mayAll_21 : decode cX3_mayAll 21 = .ok (.iconst 3, 1) := by decide +kernel
theorem dX3_mayAll_22 : decode cX3_mayAll 22 = .ok (.goto 4, 3) := by decide +kernel
theorem dX3_mayAll_25 : decode cX3_mayAll 25 = .ok (.iconst 0, 1) := by decide +kernel
theorem dX3_mayAll_26 : decode cX3_mayAll 26 = .ok (.putfield 68, 3) := by decide +kernel
theorem dX3_mayAll_29 : decode cX3_mayAll 29 = .ok (.aload_n 0, 1) := by decide +kernel
theorem dX3_mayAll_30 : decode cX3_mayAll 30 = .ok (.getfield 68, 3) := by decide +kernel
theorem dX3_mayAll_33 : decode cX3_mayAll 33 = .ok (.ifCond .ne 7, 3) := by decide +kernel
theorem dX3_mayAll_36 : decode cX3_mayAll 36 = .ok (.iconst 1, 1) := by decide +kernel
theorem dX3_mayAll_37 : decode cX3_mayAll 37 = .ok (.goto 4, 3) := by decide +kernel
theorem dX3_mayAll_40 : decode cX3_mayAll 40 = .ok (.iconst 0, 1) := by decide +kernel
theorem dX3_mayAll_41 : decode cX3_mayAll 41 = .ok (.ireturn, 1) := by decide +kernel
theorem dX3_isIn_0 : decode cX3_isIn 0 = .ok (.iload_n 0, 1) := by decide +kernel
theorem dX3_isIn_1 : decode cX3_isIn 1 = .ok (.iload_n 1, 1) := by decide +kernel
theorem dX3_isIn_2 : decode cX3_isIn 2 = .ok (.if_icmp .lt 12, 3) := by decide +kernel
theorem dX3_isIn_5 : decode cX3_isIn 5 = .ok (.iload_n 0, 1) := by decide +kernel
theorem dX3_isIn_6 : decode cX3_isIn 6 = .ok (.iload_n 2, 1) := by decide +kernel
theorem dX3_isIn_7 : decode cX3_isIn 7 = .ok (.if_icmp .gt 7, 3) := by decide +kernel
theorem dX3_isIn_10 : decode cX3_isIn 10 = .ok (.iconst 1, 1) := by decide +kernel
theorem dX3_isIn_11 : decode cX3_isIn 11 = .ok (.goto 4, 3) := by decide +kernel
theorem dX3_isIn_14 : decode cX3_isIn 14 = .ok (.iconst 0, 1) := by decide +kernel
theorem dX3_isIn_15 : decode cX3_isIn 15 = .ok (.ireturn, 1) := by decide +kernel
theorem dX3_isMember_0 : decode cX3_isMember 0 = .ok (.iload_n 1, 1) := by decide +kernel
theorem dX3_isMember_1 : decode cX3_isMember 1 = .ok (.iconst 0, 1) := by decide +kernel
theorem dX3_isMember_2 : decode cX3_isMember 2 = .ok (.aload_n 0, 1) := by decide +kernel
theorem dX3_isMember_3 : decode cX3_isMember 3 = .ok (.getfield 71, 3) := by decide +kernel
theorem dX3_isMember_6 : decode cX3_isMember 6 = .ok (.iconst 1, 1) := by decide +kernel
theorem dX3_isMember_7 : decode cX3_isMember 7 = .ok (.isub, 1) := by decide +kernel
theorem dX3_isMember_8 : decode cX3_isMember 8 = .ok (.invokestatic 74, 3) := by decide +kernel
theorem dX3_isMember_11 : decode cX3_isMember 11 = .ok (.ireturn, 1) := by decide +kernel
theorem dX3_countedIn_0 : decode cX3_countedIn 0 = .ok (.lconst 0, 1) := by decide +kernel
theorem dX3_countedIn_1 : decode cX3_countedIn 1 = .ok (.lstore_n 3, 1) := by decide +kernel
theorem dX3_countedIn_2 : decode cX3_countedIn 2 = .ok (.iconst 2, 1) := by decide +kernel
theorem dX3_countedIn_3 : decode cX3_countedIn 3 = .ok (.iload_n 2, 1) := by decide +kernel
theorem dX3_countedIn_4 : decode cX3_countedIn 4 = .ok (.imul, 1) := by decide +kernel
theorem dX3_countedIn_5 : decode cX3_countedIn 5 = .ok (.istore 5, 2) := by decide +kernel
theorem dX3_countedIn_7 : decode cX3_countedIn 7 = .ok (.iload 5, 2) := by decide +kernel
theorem dX3_countedIn_9 : decode cX3_countedIn 9 = .ok (.iconst 2, 1) := by decide +kernel
theorem dX3_countedIn_10 : decode cX3_countedIn 10 = .ok (.iload_n 2, 1) := by decide +kernel
theorem dX3_countedIn_11 : decode cX3_countedIn 11 = .ok (.imul, 1) := by decide +kernel
theorem dX3_countedIn_12 : decode cX3_countedIn 12 = .ok (.iconst 2, 1) := by decide +kernel
theorem dX3_countedIn_13 : decode cX3_countedIn 13 = .ok (.iadd, 1) := by decide +kernel
theorem dX3_countedIn_14 : decode cX3_countedIn 14 = .ok (.if_icmp .ge 44, 3) := by decide +kernel
theorem dX3_countedIn_17 : decode cX3_countedIn 17 = .ok (.lload_n 3, 1) := by decide +kernel
theorem dX3_countedIn_18 : decode cX3_countedIn 18 = .ok (.aload_n 0, 1) := by decide +kernel
theorem dX3_countedIn_19 : decode cX3_countedIn 19 = .ok (.getfield 56, 3) := by decide +kernel
theorem dX3_countedIn_22 : decode cX3_countedIn 22 = .ok (.bipush 10, 2) := by decide +kernel
theorem dX3_countedIn_24 : decode cX3_countedIn 24 = .ok (.iload_n 1, 1) := by decide +kernel
theorem dX3_countedIn_25 : decode cX3_countedIn 25 = .ok (.imul, 1) := by decide +kernel
theorem dX3_countedIn_26 : decode cX3_countedIn 26 = .ok (.iload 5, 2) := by decide +kernel
theorem dX3_countedIn_28 : decode cX3_countedIn 28 = .ok (.iadd, 1) := by decide +kernel
theorem dX3_countedIn_29 : decode cX3_countedIn 29 = .ok (.iaload, 1) := by decide +kernel
theorem dX3_countedIn_30 : decode cX3_countedIn 30 = .ok (.i2l, 1) := by decide +kernel
theorem dX3_countedIn_31 : decode cX3_countedIn 31 = .ok (.aload_n 0, 1) := by decide +kernel
theorem dX3_countedIn_32 : decode cX3_countedIn 32 = .ok (.getfield 13, 3) := by decide +kernel
theorem dX3_countedIn_35 : decode cX3_countedIn 35 = .ok (.aload_n 0, 1) := by decide +kernel
theorem dX3_countedIn_36 : decode cX3_countedIn 36 = .ok (.getfield 65, 3) := by decide +kernel
theorem dX3_countedIn_39 : decode cX3_countedIn 39 = .ok (.bipush 10, 2) := by decide +kernel
theorem dX3_countedIn_41 : decode cX3_countedIn 41 = .ok (.iload_n 1, 1) := by decide +kernel
theorem dX3_countedIn_42 : decode cX3_countedIn 42 = .ok (.imul, 1) := by decide +kernel
theorem dX3_countedIn_43 : decode cX3_countedIn 43 = .ok (.iload 5, 2) := by decide +kernel
theorem dX3_countedIn_45 : decode cX3_countedIn 45 = .ok (.iadd, 1) := by decide +kernel
theorem dX3_countedIn_46 : decode cX3_countedIn 46 = .ok (.iaload, 1) := by decide +kernel
theorem dX3_countedIn_47 : decode cX3_countedIn 47 = .ok (.iaload, 1) := by decide +kernel
theorem dX3_countedIn_48 : decode cX3_countedIn 48 = .ok (.i2l, 1) := by decide +kernel
theorem dX3_countedIn_49 : decode cX3_countedIn 49 = .ok (.lmul, 1) := by decide +kernel
theorem dX3_countedIn_50 : decode cX3_countedIn 50 = .ok (.ladd, 1) := by decide +kernel
theorem dX3_countedIn_51 : decode cX3_countedIn 51 = .ok (.lstore_n 3, 1) := by decide +kernel
theorem dX3_countedIn_52 : decode cX3_countedIn 52 = .ok (.iinc 5 1, 3) := by decide +kernel
theorem dX3_countedIn_55 : decode cX3_countedIn 55 = .ok (.goto (-48), 3) := by decide +kernel
theorem dX3_countedIn_58 : decode cX3_countedIn 58 = .ok (.lload_n 3, 1) := by decide +kernel
theorem dX3_countedIn_59 : decode cX3_countedIn 59 = .ok (.lreturn, 1) := by decide +kernel
theorem dX3_buy_0 : decode cX3_buy 0 = .ok (.aload_n 0, 1) := by decide +kernel
theorem dX3_buy_1 : decode cX3_buy 1 = .ok (.getfield 13, 3) := by decide +kernel
theorem dX3_buy_4 : decode cX3_buy 4 = .ok (.aload_n 0, 1) := by decide +kernel
theorem dX3_buy_5 : decode cX3_buy 5 = .ok (.getfield 41, 3) := by decide +kernel
theorem dX3_buy_8 : decode cX3_buy 8 = .ok (.iload_n 1, 1) := by decide +kernel
theorem dX3_buy_9 : decode cX3_buy 9 = .ok (.iaload, 1) := by decide +kernel
theorem dX3_buy_10 : decode cX3_buy 10 = .ok (.iaload, 1) := by decide +kernel
theorem dX3_buy_11 : decode cX3_buy 11 = .ok (.istore_n 2, 1) := by decide +kernel
theorem dX3_buy_12 : decode cX3_buy 12 = .ok (.aload_n 0, 1) := by decide +kernel
theorem dX3_buy_13 : decode cX3_buy 13 = .ok (.getfield 13, 3) := by decide +kernel
theorem dX3_buy_16 : decode cX3_buy 16 = .ok (.aload_n 0, 1) := by decide +kernel
theorem dX3_buy_17 : decode cX3_buy 17 = .ok (.getfield 9, 3) := by decide +kernel
theorem dX3_buy_20 : decode cX3_buy 20 = .ok (.iaload, 1) := by decide +kernel
theorem dX3_buy_21 : decode cX3_buy 21 = .ok (.istore_n 3, 1) := by decide +kernel
theorem dX3_buy_22 : decode cX3_buy 22 = .ok (.iload_n 2, 1) := by decide +kernel
theorem dX3_buy_23 : decode cX3_buy 23 = .ok (.iload_n 3, 1) := by decide +kernel
theorem dX3_buy_24 : decode cX3_buy 24 = .ok (.if_icmp .ge 7, 3) := by decide +kernel
theorem dX3_buy_27 : decode cX3_buy 27 = .ok (.iload_n 2, 1) := by decide +kernel
theorem dX3_buy_28 : decode cX3_buy 28 = .ok (.goto 4, 3) := by decide +kernel
theorem dX3_buy_31 : decode cX3_buy 31 = .ok (.iload_n 3, 1) := by decide +kernel
theorem dX3_buy_32 : decode cX3_buy 32 = .ok (.istore 4, 2) := by decide +kernel
theorem dX3_buy_34 : decode cX3_buy 34 = .ok (.bipush 85, 2) := by decide +kernel
theorem dX3_buy_36 : decode cX3_buy 36 = .ok (.iload 4, 2) := by decide +kernel
theorem dX3_buy_38 : decode cX3_buy 38 = .ok (.imul, 1) := by decide +kernel
theorem dX3_buy_39 : decode cX3_buy 39 = .ok (.bipush 99, 2) := by decide +kernel
theorem dX3_buy_41 : decode cX3_buy 41 = .ok (.iadd, 1) := by decide +kernel
theorem dX3_buy_42 : decode cX3_buy 42 = .ok (.bipush 100, 2) := by decide +kernel
theorem dX3_buy_44 : decode cX3_buy 44 = .ok (.idiv, 1) := by decide +kernel
theorem dX3_buy_45 : decode cX3_buy 45 = .ok (.istore 5, 2) := by decide +kernel
theorem dX3_buy_47 : decode cX3_buy 47 = .ok (.aload_n 0, 1) := by decide +kernel
theorem dX3_buy_48 : decode cX3_buy 48 = .ok (.getfield 18, 3) := by decide +kernel
theorem dX3_buy_51 : decode cX3_buy 51 = .ok (.i2l, 1) := by decide +kernel
theorem dX3_buy_52 : decode cX3_buy 52 = .ok (.aload_n 0, 1) := by decide +kernel
theorem dX3_buy_53 : decode cX3_buy 53 = .ok (.iload_n 1, 1) := by decide +kernel
theorem dX3_buy_54 : decode cX3_buy 54 = .ok (.aload_n 0, 1) := by decide +kernel
theorem dX3_buy_55 : decode cX3_buy 55 = .ok (.getfield 9, 3) := by decide +kernel
theorem dX3_buy_58 : decode cX3_buy 58 = .ok (.bipush 12, 2) := by decide +kernel
theorem dX3_buy_60 : decode cX3_buy 60 = .ok (.idiv, 1) := by decide +kernel
theorem dX3_buy_61 : decode cX3_buy 61 = .ok (.invokevirtual 78, 3) := by decide +kernel
theorem dX3_buy_64 : decode cX3_buy 64 = .ok (.lsub, 1) := by decide +kernel
theorem dX3_buy_65 : decode cX3_buy 65 = .ok (.iload_n 2, 1) := by decide +kernel
theorem dX3_buy_66 : decode cX3_buy 66 = .ok (.i2l, 1) := by decide +kernel
theorem dX3_buy_67 : decode cX3_buy 67 = .ok (.ldiv, 1) := by decide +kernel
theorem dX3_buy_68 : decode cX3_buy 68 = .ok (.lstore 6, 2) := by decide +kernel
theorem dX3_buy_70 : decode cX3_buy 70 = .ok (.aload_n 0, 1) := by decide +kernel
theorem dX3_buy_71 : decode cX3_buy 71 = .ok (.getfield 28, 3) := by decide +kernel
theorem dX3_buy_74 : decode cX3_buy 74 = .ok (.iload_n 1, 1) := by decide +kernel
theorem dX3_buy_75 : decode cX3_buy 75 = .ok (.iaload, 1) := by decide +kernel
theorem dX3_buy_76 : decode cX3_buy 76 = .ok (.iload 5, 2) := by decide +kernel
theorem dX3_buy_78 : decode cX3_buy 78 = .ok (.idiv, 1) := by decide +kernel
theorem dX3_buy_79 : decode cX3_buy 79 = .ok (.istore 8, 2) := by decide +kernel
theorem dX3_buy_81 : decode cX3_buy 81 = .ok (.lload 6, 2) := by decide +kernel
theorem dX3_buy_83 : decode cX3_buy 83 = .ok (.lconst 0, 1) := by decide +kernel
theorem dX3_buy_84 : decode cX3_buy 84 = .ok (.lcmp, 1) := by decide +kernel
theorem dX3_buy_85 : decode cX3_buy 85 = .ok (.ifCond .ge 7, 3) := by decide +kernel
theorem dX3_buy_88 : decode cX3_buy 88 = .ok (.iconst 0, 1) := by decide +kernel
theorem dX3_buy_89 : decode cX3_buy 89 = .ok (.goto 20, 3) := by decide +kernel
theorem dX3_buy_92 : decode cX3_buy 92 = .ok (.lload 6, 2) := by decide +kernel
theorem dX3_buy_94 : decode cX3_buy 94 = .ok (.iload 8, 2) := by decide +kernel
theorem dX3_buy_96 : decode cX3_buy 96 = .ok (.i2l, 1) := by decide +kernel
theorem dX3_buy_97 : decode cX3_buy 97 = .ok (.lcmp, 1) := by decide +kernel
theorem dX3_buy_98 : decode cX3_buy 98 = .ok (.ifCond .ge 9, 3) := by decide +kernel
theorem dX3_buy_101 : decode cX3_buy 101 = .ok (.lload 6, 2) := by decide +kernel
theorem dX3_buy_103 : decode cX3_buy 103 = .ok (.l2i, 1) := by decide +kernel
theorem dX3_buy_104 : decode cX3_buy 104 = .ok (.goto 5, 3) := by decide +kernel
theorem dX3_buy_107 : decode cX3_buy 107 = .ok (.iload 8, 2) := by decide +kernel
theorem dX3_buy_109 : decode cX3_buy 109 = .ok (.istore 9, 2) := by decide +kernel
theorem dX3_buy_111 : decode cX3_buy 111 = .ok (.bipush 10, 2) := by decide +kernel
theorem dX3_buy_113 : decode cX3_buy 113 = .ok (.iload_n 1, 1) := by decide +kernel
theorem dX3_buy_114 : decode cX3_buy 114 = .ok (.imul, 1) := by decide +kernel
theorem dX3_buy_115 : decode cX3_buy 115 = .ok (.aload_n 0, 1) := by decide +kernel
theorem dX3_buy_116 : decode cX3_buy 116 = .ok (.getfield 9, 3) := by decide +kernel
theorem dX3_buy_119 : decode cX3_buy 119 = .ok (.bipush 6, 2) := by decide +kernel
theorem dX3_buy_121 : decode cX3_buy 121 = .ok (.idiv, 1) := by decide +kernel
theorem dX3_buy_122 : decode cX3_buy 122 = .ok (.iadd, 1) := by decide +kernel
theorem dX3_buy_123 : decode cX3_buy 123 = .ok (.istore 10, 2) := by decide +kernel
theorem dX3_buy_125 : decode cX3_buy 125 = .ok (.iload 9, 2) := by decide +kernel
theorem dX3_buy_127 : decode cX3_buy 127 = .ok (.ifCond .le 72, 3) := by decide +kernel
theorem dX3_buy_130 : decode cX3_buy 130 = .ok (.aload_n 0, 1) := by decide +kernel
theorem dX3_buy_131 : decode cX3_buy 131 = .ok (.getfield 56, 3) := by decide +kernel
theorem dX3_buy_134 : decode cX3_buy 134 = .ok (.iload 10, 2) := by decide +kernel
theorem dX3_buy_136 : decode cX3_buy 136 = .ok (.iload 9, 2) := by decide +kernel
theorem dX3_buy_138 : decode cX3_buy 138 = .ok (.iastore, 1) := by decide +kernel
theorem dX3_buy_139 : decode cX3_buy 139 = .ok (.aload_n 0, 1) := by decide +kernel
theorem dX3_buy_140 : decode cX3_buy 140 = .ok (.getfield 59, 3) := by decide +kernel
theorem dX3_buy_143 : decode cX3_buy 143 = .ok (.iload 10, 2) := by decide +kernel
theorem dX3_buy_145 : decode cX3_buy 145 = .ok (.iload 9, 2) := by decide +kernel
theorem dX3_buy_147 : decode cX3_buy 147 = .ok (.iastore, 1) := by decide +kernel
theorem dX3_buy_148 : decode cX3_buy 148 = .ok (.aload_n 0, 1) := by decide +kernel
theorem dX3_buy_149 : decode cX3_buy 149 = .ok (.getfield 62, 3) := by decide +kernel
theorem dX3_buy_152 : decode cX3_buy 152 = .ok (.iload 10, 2) := by decide +kernel
theorem dX3_buy_154 : decode cX3_buy 154 = .ok (.iload 5, 2) := by decide +kernel
theorem dX3_buy_156 : decode cX3_buy 156 = .ok (.iastore, 1) := by decide +kernel
theorem dX3_buy_157 : decode cX3_buy 157 = .ok (.aload_n 0, 1) := by decide +kernel
theorem dX3_buy_158 : decode cX3_buy 158 = .ok (.getfield 65, 3) := by decide +kernel
theorem dX3_buy_161 : decode cX3_buy 161 = .ok (.iload 10, 2) := by decide +kernel
theorem dX3_buy_163 : decode cX3_buy 163 = .ok (.aload_n 0, 1) := by decide +kernel
theorem dX3_buy_164 : decode cX3_buy 164 = .ok (.getfield 41, 3) := by decide +kernel
theorem dX3_buy_167 : decode cX3_buy 167 = .ok (.iload_n 1, 1) := by decide +kernel
theorem dX3_buy_168 : decode cX3_buy 168 = .ok (.iaload, 1) := by decide +kernel
theorem dX3_buy_169 : decode cX3_buy 169 = .ok (.iastore, 1) := by decide +kernel
theorem dX3_buy_170 : decode cX3_buy 170 = .ok (.aload_n 0, 1) := by decide +kernel
theorem dX3_buy_171 : decode cX3_buy 171 = .ok (.getfield 28, 3) := by decide +kernel
theorem dX3_buy_174 : decode cX3_buy 174 = .ok (.iload_n 1, 1) := by decide +kernel
theorem dX3_buy_175 : decode cX3_buy 175 = .ok (.dup2, 1) := by decide +kernel
theorem dX3_buy_176 : decode cX3_buy 176 = .ok (.iaload, 1) := by decide +kernel
theorem dX3_buy_177 : decode cX3_buy 177 = .ok (.iload 9, 2) := by decide +kernel
theorem dX3_buy_179 : decode cX3_buy 179 = .ok (.iload 5, 2) := by decide +kernel
theorem dX3_buy_181 : decode cX3_buy 181 = .ok (.imul, 1) := by decide +kernel
theorem dX3_buy_182 : decode cX3_buy 182 = .ok (.isub, 1) := by decide +kernel
theorem dX3_buy_183 : decode cX3_buy 183 = .ok (.iastore, 1) := by decide +kernel
theorem dX3_buy_184 : decode cX3_buy 184 = .ok (.aload_n 0, 1) := by decide +kernel
theorem dX3_buy_185 : decode cX3_buy 185 = .ok (.getfield 34, 3) := by decide +kernel
theorem dX3_buy_188 : decode cX3_buy 188 = .ok (.iload_n 1, 1) := by decide +kernel
theorem dX3_buy_189 : decode cX3_buy 189 = .ok (.dup2, 1) := by decide +kernel
theorem dX3_buy_190 : decode cX3_buy 190 = .ok (.laload, 1) := by decide +kernel
theorem dX3_buy_191 : decode cX3_buy 191 = .ok (.iload 9, 2) := by decide +kernel
theorem dX3_buy_193 : decode cX3_buy 193 = .ok (.iload 5, 2) := by decide +kernel
theorem dX3_buy_195 : decode cX3_buy 195 = .ok (.imul, 1) := by decide +kernel
theorem dX3_buy_196 : decode cX3_buy 196 = .ok (.i2l, 1) := by decide +kernel
theorem dX3_buy_197 : decode cX3_buy 197 = .ok (.ladd, 1) := by decide +kernel
theorem dX3_buy_198 : decode cX3_buy 198 = .ok (.lastore, 1) := by decide +kernel
theorem dX3_buy_199 : decode cX3_buy 199 = .ok (.aload_n 0, 1) := by decide +kernel
theorem dX3_buy_200 : decode cX3_buy 200 = .ok (.getfield 44, 3) := by decide +kernel
theorem dX3_buy_203 : decode cX3_buy 203 = .ok (.iload_n 1, 1) := by decide +kernel
theorem dX3_buy_204 : decode cX3_buy 204 = .ok (.dup2, 1) := by decide +kernel
theorem dX3_buy_205 : decode cX3_buy 205 = .ok (.iaload, 1) := by decide +kernel
theorem dX3_buy_206 : decode cX3_buy 206 = .ok (.iconst 1, 1) := by decide +kernel
theorem dX3_buy_207 : decode cX3_buy 207 = .ok (.iadd, 1) := by decide +kernel
theorem dX3_buy_208 : decode cX3_buy 208 = .ok (.iastore, 1) := by decide +kernel
theorem dX3_buy_209 : decode cX3_buy 209 = .ok (.iload_n 3, 1) := by decide +kernel
theorem dX3_buy_210 : decode cX3_buy 210 = .ok (.iload_n 2, 1) := by decide +kernel
theorem dX3_buy_211 : decode cX3_buy 211 = .ok (.if_icmp .lt 13, 3) := by decide +kernel
theorem dX3_buy_214 : decode cX3_buy 214 = .ok (.aload_n 0, 1) := by decide +kernel
theorem dX3_buy_215 : decode cX3_buy 215 = .ok (.getfield 44, 3) := by decide +kernel
theorem dX3_buy_218 : decode cX3_buy 218 = .ok (.iload_n 1, 1) := by decide +kernel
theorem dX3_buy_219 : decode cX3_buy 219 = .ok (.iaload, 1) := by decide +kernel
theorem dX3_buy_220 : decode cX3_buy 220 = .ok (.iconst 4, 1) := by decide +kernel
theorem dX3_buy_221 : decode cX3_buy 221 = .ok (.if_icmp .ne 39, 3) := by decide +kernel
theorem dX3_buy_224 : decode cX3_buy 224 = .ok (.aload_n 0, 1) := by decide +kernel
theorem dX3_buy_225 : decode cX3_buy 225 = .ok (.getfield 47, 3) := by decide +kernel
theorem dX3_buy_228 : decode cX3_buy 228 = .ok (.iload_n 1, 1) := by decide +kernel
theorem dX3_buy_229 : decode cX3_buy 229 = .ok (.dup2, 1) := by decide +kernel
theorem dX3_buy_230 : decode cX3_buy 230 = .ok (.iaload, 1) := by decide +kernel
theorem dX3_buy_231 : decode cX3_buy 231 = .ok (.iload_n 3, 1) := by decide +kernel
theorem dX3_buy_232 : decode cX3_buy 232 = .ok (.iload_n 2, 1) := by decide +kernel
theorem dX3_buy_233 : decode cX3_buy 233 = .ok (.if_icmp .ge 7, 3) := by decide +kernel
theorem dX3_buy_236 : decode cX3_buy 236 = .ok (.iconst 1, 1) := by decide +kernel
theorem dX3_buy_237 : decode cX3_buy 237 = .ok (.goto 4, 3) := by decide +kernel
theorem dX3_buy_240 : decode cX3_buy 240 = .ok (.iconst 0, 1) := by decide +kernel
theorem dX3_buy_241 : decode cX3_buy 241 = .ok (.iadd, 1) := by decide +kernel
theorem dX3_buy_242 : decode cX3_buy 242 = .ok (.iastore, 1) := by decide +kernel
theorem dX3_buy_243 : decode cX3_buy 243 = .ok (.aload_n 0, 1) := by decide +kernel
theorem dX3_buy_244 : decode cX3_buy 244 = .ok (.getfield 41, 3) := by decide +kernel
theorem dX3_buy_247 : decode cX3_buy 247 = .ok (.iload_n 1, 1) := by decide +kernel
theorem dX3_buy_248 : decode cX3_buy 248 = .ok (.aload_n 0, 1) := by decide +kernel
theorem dX3_buy_249 : decode cX3_buy 249 = .ok (.getfield 9, 3) := by decide +kernel
theorem dX3_buy_252 : decode cX3_buy 252 = .ok (.iastore, 1) := by decide +kernel
theorem dX3_buy_253 : decode cX3_buy 253 = .ok (.aload_n 0, 1) := by decide +kernel
theorem dX3_buy_254 : decode cX3_buy 254 = .ok (.getfield 44, 3) := by decide +kernel
theorem dX3_buy_257 : decode cX3_buy 257 = .ok (.iload_n 1, 1) := by decide +kernel
theorem dX3_buy_258 : decode cX3_buy 258 = .ok (.iconst 0, 1) := by decide +kernel
theorem dX3_buy_259 : decode cX3_buy 259 = .ok (.iastore, 1) := by decide +kernel
theorem dX3_buy_260 : decode cX3_buy 260 = .ok (.return_, 1) := by decide +kernel
theorem dX3_next_0 : decode cX3_next 0 = .ok (.aload_n 0, 1) := by decide +kernel
theorem dX3_next_1 : decode cX3_next 1 = .ok (.iload_n 1, 1) := by decide +kernel
theorem dX3_next_2 : decode cX3_next 2 = .ok (.iconst 1, 1) := by decide +kernel
theorem dX3_next_3 : decode cX3_next 3 = .ok (.ldc 82, 2) := by decide +kernel
theorem dX3_next_5 : decode cX3_next 5 = .ok (.invokestatic 74, 3) := by decide +kernel
theorem dX3_next_8 : decode cX3_next 8 = .ok (.aload_n 0, 1) := by decide +kernel
theorem dX3_next_9 : decode cX3_next 9 = .ok (.getfield 9, 3) := by decide +kernel
theorem dX3_next_12 : decode cX3_next 12 = .ok (.bipush 59, 2) := by decide +kernel
theorem dX3_next_14 : decode cX3_next 14 = .ok (.if_icmp .ge 7, 3) := by decide +kernel
theorem dX3_next_17 : decode cX3_next 17 = .ok (.iconst 1, 1) := by decide +kernel
theorem dX3_next_18 : decode cX3_next 18 = .ok (.goto 4, 3) := by decide +kernel
theorem dX3_next_21 : decode cX3_next 21 = .ok (.iconst 0, 1) := by decide +kernel
theorem dX3_next_22 : decode cX3_next 22 = .ok (.invokevirtual 83, 3) := by decide +kernel
theorem dX3_next_25 : decode cX3_next 25 = .ok (.ifCond .ne 5, 3) := by decide +kernel
theorem dX3_next_28 : decode cX3_next 28 = .ok (.iconst 0, 1) := by decide +kernel
theorem dX3_next_29 : decode cX3_next 29 = .ok (.ireturn, 1) := by decide +kernel
theorem dX3_next_30 : decode cX3_next 30 = .ok (.iconst 0, 1) := by decide +kernel
theorem dX3_next_31 : decode cX3_next 31 = .ok (.istore_n 2, 1) := by decide +kernel
theorem dX3_next_32 : decode cX3_next 32 = .ok (.iload_n 2, 1) := by decide +kernel
theorem dX3_next_33 : decode cX3_next 33 = .ok (.aload_n 0, 1) := by decide +kernel
theorem dX3_next_34 : decode cX3_next 34 = .ok (.getfield 71, 3) := by decide +kernel
theorem dX3_next_37 : decode cX3_next 37 = .ok (.if_icmp .ge 34, 3) := by decide +kernel
theorem dX3_next_40 : decode cX3_next 40 = .ok (.aload_n 0, 1) := by decide +kernel
theorem dX3_next_41 : decode cX3_next 41 = .ok (.getfield 9, 3) := by decide +kernel
theorem dX3_next_44 : decode cX3_next 44 = .ok (.bipush 6, 2) := by decide +kernel
theorem dX3_next_46 : decode cX3_next 46 = .ok (.irem, 1) := by decide +kernel
theorem dX3_next_47 : decode cX3_next 47 = .ok (.iconst 5, 1) := by decide +kernel
theorem dX3_next_48 : decode cX3_next 48 = .ok (.if_icmp .ne 23, 3) := by decide +kernel
theorem dX3_next_51 : decode cX3_next 51 = .ok (.aload_n 0, 1) := by decide +kernel
theorem dX3_next_52 : decode cX3_next 52 = .ok (.getfield 24, 3) := by decide +kernel
theorem dX3_next_55 : decode cX3_next 55 = .ok (.iload_n 2, 1) := by decide +kernel
theorem dX3_next_56 : decode cX3_next 56 = .ok (.baload, 1) := by decide +kernel
theorem dX3_next_57 : decode cX3_next 57 = .ok (.ifCond .ne 8, 3) := by decide +kernel
theorem dX3_next_60 : decode cX3_next 60 = .ok (.aload_n 0, 1) := by decide +kernel
theorem dX3_next_61 : decode cX3_next 61 = .ok (.iload_n 2, 1) := by decide +kernel
theorem dX3_next_62 : decode cX3_next 62 = .ok (.invokevirtual 87, 3) := by decide +kernel
theorem dX3_next_65 : decode cX3_next 65 = .ok (.iinc 2 1, 3) := by decide +kernel
theorem dX3_next_68 : decode cX3_next 68 = .ok (.goto (-36), 3) := by decide +kernel
theorem dX3_next_71 : decode cX3_next 71 = .ok (.aload_n 0, 1) := by decide +kernel
theorem dX3_next_72 : decode cX3_next 72 = .ok (.dup, 1) := by decide +kernel
theorem dX3_next_73 : decode cX3_next 73 = .ok (.getfield 9, 3) := by decide +kernel
theorem dX3_next_76 : decode cX3_next 76 = .ok (.iconst 1, 1) := by decide +kernel
theorem dX3_next_77 : decode cX3_next 77 = .ok (.iadd, 1) := by decide +kernel
theorem dX3_next_78 : decode cX3_next 78 = .ok (.putfield 9, 3) := by decide +kernel
theorem dX3_next_81 : decode cX3_next 81 = .ok (.aload_n 0, 1) := by decide +kernel
theorem dX3_next_82 : decode cX3_next 82 = .ok (.getfield 13, 3) := by decide +kernel
theorem dX3_next_85 : decode cX3_next 85 = .ok (.aload_n 0, 1) := by decide +kernel
theorem dX3_next_86 : decode cX3_next 86 = .ok (.getfield 9, 3) := by decide +kernel
theorem dX3_next_89 : decode cX3_next 89 = .ok (.iload_n 1, 1) := by decide +kernel
theorem dX3_next_90 : decode cX3_next 90 = .ok (.iastore, 1) := by decide +kernel
theorem dX3_next_91 : decode cX3_next 91 = .ok (.aload_n 0, 1) := by decide +kernel
theorem dX3_next_92 : decode cX3_next 92 = .ok (.getfield 9, 3) := by decide +kernel
theorem dX3_next_95 : decode cX3_next 95 = .ok (.ireturn, 1) := by decide +kernel
theorem dX3_month_0 : decode cX3_month 0 = .ok (.aload_n 0, 1) := by decide +kernel
theorem dX3_month_1 : decode cX3_month 1 = .ok (.iconst 0, 1) := by decide +kernel
theorem dX3_month_2 : decode cX3_month 2 = .ok (.putfield 68, 3) := by decide +kernel
theorem dX3_month_5 : decode cX3_month 5 = .ok (.aload_n 0, 1) := by decide +kernel
theorem dX3_month_6 : decode cX3_month 6 = .ok (.getfield 9, 3) := by decide +kernel
theorem dX3_month_9 : decode cX3_month 9 = .ok (.ireturn, 1) := by decide +kernel
theorem dX3_ceiling_0 : decode cX3_ceiling 0 = .ok (.aload_n 0, 1) := by decide +kernel
theorem dX3_ceiling_1 : decode cX3_ceiling 1 = .ok (.iload_n 1, 1) := by decide +kernel
theorem dX3_ceiling_2 : decode cX3_ceiling 2 = .ok (.iconst 0, 1) := by decide +kernel
theorem dX3_ceiling_3 : decode cX3_ceiling 3 = .ok (.ldc 91, 2) := by decide +kernel
theorem dX3_ceiling_5 : decode cX3_ceiling 5 = .ok (.invokestatic 74, 3) := by decide +kernel
theorem dX3_ceiling_8 : decode cX3_ceiling 8 = .ok (.invokevirtual 92, 3) := by decide +kernel
theorem dX3_ceiling_11 : decode cX3_ceiling 11 = .ok (.ifCond .ne 5, 3) := by decide +kernel
theorem dX3_ceiling_14 : decode cX3_ceiling 14 = .ok (.iconst 0, 1) := by decide +kernel
theorem dX3_ceiling_15 : decode cX3_ceiling 15 = .ok (.ireturn, 1) := by decide +kernel
theorem dX3_ceiling_16 : decode cX3_ceiling 16 = .ok (.aload_n 0, 1) := by decide +kernel
theorem dX3_ceiling_17 : decode cX3_ceiling 17 = .ok (.getfield 18, 3) := by decide +kernel
theorem dX3_ceiling_20 : decode cX3_ceiling 20 = .ok (.istore_n 2, 1) := by decide +kernel
theorem dX3_ceiling_21 : decode cX3_ceiling 21 = .ok (.aload_n 0, 1) := by decide +kernel
theorem dX3_ceiling_22 : decode cX3_ceiling 22 = .ok (.iload_n 1, 1) := by decide +kernel
theorem dX3_ceiling_23 : decode cX3_ceiling 23 = .ok (.putfield 18, 3) := by decide +kernel
theorem dX3_ceiling_26 : decode cX3_ceiling 26 = .ok (.iload_n 2, 1) := by decide +kernel
theorem dX3_ceiling_27 : decode cX3_ceiling 27 = .ok (.ireturn, 1) := by decide +kernel
theorem dX3_join_0 : decode cX3_join 0 = .ok (.aload_n 0, 1) := by decide +kernel
theorem dX3_join_1 : decode cX3_join 1 = .ok (.iload_n 1, 1) := by decide +kernel
theorem dX3_join_2 : decode cX3_join 2 = .ok (.iconst 1, 1) := by decide +kernel
theorem dX3_join_3 : decode cX3_join 3 = .ok (.bipush 15, 2) := by decide +kernel
theorem dX3_join_5 : decode cX3_join 5 = .ok (.invokestatic 74, 3) := by decide +kernel
theorem dX3_join_8 : decode cX3_join 8 = .ok (.aload_n 0, 1) := by decide +kernel
theorem dX3_join_9 : decode cX3_join 9 = .ok (.getfield 9, 3) := by decide +kernel
theorem dX3_join_12 : decode cX3_join 12 = .ok (.ifCond .lt 16, 3) := by decide +kernel
theorem dX3_join_15 : decode cX3_join 15 = .ok (.aload_n 0, 1) := by decide +kernel
theorem dX3_join_16 : decode cX3_join 16 = .ok (.getfield 71, 3) := by decide +kernel
theorem dX3_join_19 : decode cX3_join 19 = .ok (.bipush 6, 2) := by decide +kernel
theorem dX3_join_21 : decode cX3_join 21 = .ok (.if_icmp .ge 7, 3) := by decide +kernel
theorem dX3_join_24 : decode cX3_join 24 = .ok (.iconst 1, 1) := by decide +kernel
theorem dX3_join_25 : decode cX3_join 25 = .ok (.goto 4, 3) := by decide +kernel
theorem dX3_join_28 : decode cX3_join 28 = .ok (.iconst 0, 1) := by decide +kernel
theorem dX3_join_29 : decode cX3_join 29 = .ok (.invokevirtual 83, 3) := by decide +kernel
theorem dX3_join_32 : decode cX3_join 32 = .ok (.ifCond .ne 5, 3) := by decide +kernel
theorem dX3_join_35 : decode cX3_join 35 = .ok (.iconst 0, 1) := by decide +kernel
theorem dX3_join_36 : decode cX3_join 36 = .ok (.ireturn, 1) := by decide +kernel
theorem dX3_join_37 : decode cX3_join 37 = .ok (.aload_n 0, 1) := by decide +kernel
theorem dX3_join_38 : decode cX3_join 38 = .ok (.getfield 21, 3) := by decide +kernel
theorem dX3_join_41 : decode cX3_join 41 = .ok (.aload_n 0, 1) := by decide +kernel
theorem dX3_join_42 : decode cX3_join 42 = .ok (.getfield 71, 3) := by decide +kernel
theorem dX3_join_45 : decode cX3_join 45 = .ok (.iload_n 1, 1) := by decide +kernel
theorem dX3_join_46 : decode cX3_join 46 = .ok (.iastore, 1) := by decide +kernel
theorem dX3_join_47 : decode cX3_join 47 = .ok (.aload_n 0, 1) := by decide +kernel
theorem dX3_join_48 : decode cX3_join 48 = .ok (.getfield 41, 3) := by decide +kernel
theorem dX3_join_51 : decode cX3_join 51 = .ok (.aload_n 0, 1) := by decide +kernel
theorem dX3_join_52 : decode cX3_join 52 = .ok (.getfield 71, 3) := by decide +kernel
theorem dX3_join_55 : decode cX3_join 55 = .ok (.aload_n 0, 1) := by decide +kernel
theorem dX3_join_56 : decode cX3_join 56 = .ok (.getfield 9, 3) := by decide +kernel
theorem dX3_join_59 : decode cX3_join 59 = .ok (.iastore, 1) := by decide +kernel
theorem dX3_join_60 : decode cX3_join 60 = .ok (.aload_n 0, 1) := by decide +kernel
theorem dX3_join_61 : decode cX3_join 61 = .ok (.dup, 1) := by decide +kernel
theorem dX3_join_62 : decode cX3_join 62 = .ok (.getfield 71, 3) := by decide +kernel
theorem dX3_join_65 : decode cX3_join 65 = .ok (.iconst 1, 1) := by decide +kernel
theorem dX3_join_66 : decode cX3_join 66 = .ok (.iadd, 1) := by decide +kernel
theorem dX3_join_67 : decode cX3_join 67 = .ok (.putfield 71, 3) := by decide +kernel
theorem dX3_join_70 : decode cX3_join 70 = .ok (.aload_n 0, 1) := by decide +kernel
theorem dX3_join_71 : decode cX3_join 71 = .ok (.getfield 71, 3) := by decide +kernel
theorem dX3_join_74 : decode cX3_join 74 = .ok (.iconst 1, 1) := by decide +kernel
theorem dX3_join_75 : decode cX3_join 75 = .ok (.isub, 1) := by decide +kernel
theorem dX3_join_76 : decode cX3_join 76 = .ok (.ireturn, 1) := by decide +kernel
theorem dX3_isStaying_0 : decode cX3_isStaying 0 = .ok (.aload_n 0, 1) := by decide +kernel
theorem dX3_isStaying_1 : decode cX3_isStaying 1 = .ok (.iload_n 1, 1) := by decide +kernel
theorem dX3_isStaying_2 : decode cX3_isStaying 2 = .ok (.invokevirtual 96, 3) := by decide +kernel
theorem dX3_isStaying_5 : decode cX3_isStaying 5 = .ok (.ifCond .eq 16, 3) := by decide +kernel
theorem dX3_isStaying_8 : decode cX3_isStaying 8 = .ok (.aload_n 0, 1) := by decide +kernel
theorem dX3_isStaying_9 : decode cX3_isStaying 9 = .ok (.getfield 24, 3) := by decide +kernel
theorem dX3_isStaying_12 : decode cX3_isStaying 12 = .ok (.iload_n 1, 1) := by decide +kernel
theorem dX3_isStaying_13 : decode cX3_isStaying 13 = .ok (.baload, 1) := by decide +kernel
theorem dX3_isStaying_14 : decode cX3_isStaying 14 = .ok (.ifCond .ne 7, 3) := by decide +kernel
theorem dX3_isStaying_17 : decode cX3_isStaying 17 = .ok (.iconst 1, 1) := by decide +kernel
theorem dX3_isStaying_18 : decode cX3_isStaying 18 = .ok (.goto 4, 3) := by decide +kernel
theorem dX3_isStaying_21 : decode cX3_isStaying 21 = .ok (.iconst 0, 1) := by decide +kernel
theorem dX3_isStaying_22 : decode cX3_isStaying 22 = .ok (.ireturn, 1) := by decide +kernel
theorem dX3_rate_0 : decode cX3_rate 0 = .ok (.aload_n 0, 1) := by decide +kernel
theorem dX3_rate_1 : decode cX3_rate 1 = .ok (.aload_n 0, 1) := by decide +kernel
theorem dX3_rate_2 : decode cX3_rate 2 = .ok (.iload_n 1, 1) := by decide +kernel
theorem dX3_rate_3 : decode cX3_rate 3 = .ok (.invokevirtual 96, 3) := by decide +kernel
theorem dX3_rate_6 : decode cX3_rate 6 = .ok (.iload_n 2, 1) := by decide +kernel
theorem dX3_rate_7 : decode cX3_rate 7 = .ok (.iconst 1, 1) := by decide +kernel
theorem dX3_rate_8 : decode cX3_rate 8 = .ok (.bipush 15, 2) := by decide +kernel
theorem dX3_rate_10 : decode cX3_rate 10 = .ok (.invokestatic 74, 3) := by decide +kernel
theorem dX3_rate_13 : decode cX3_rate 13 = .ok (.aload_n 0, 1) := by decide +kernel
theorem dX3_rate_14 : decode cX3_rate 14 = .ok (.iload_n 1, 1) := by decide +kernel
theorem dX3_rate_15 : decode cX3_rate 15 = .ok (.invokevirtual 100, 3) := by decide +kernel
theorem dX3_rate_18 : decode cX3_rate 18 = .ok (.invokevirtual 103, 3) := by decide +kernel
theorem dX3_rate_21 : decode cX3_rate 21 = .ok (.ifCond .ne 5, 3) := by decide +kernel
theorem dX3_rate_24 : decode cX3_rate 24 = .ok (.iconst 0, 1) := by decide +kernel
theorem dX3_rate_25 : decode cX3_rate 25 = .ok (.ireturn, 1) := by decide +kernel
theorem dX3_rate_26 : decode cX3_rate 26 = .ok (.aload_n 0, 1) := by decide +kernel
theorem dX3_rate_27 : decode cX3_rate 27 = .ok (.getfield 21, 3) := by decide +kernel
theorem dX3_rate_30 : decode cX3_rate 30 = .ok (.iload_n 1, 1) := by decide +kernel
theorem dX3_rate_31 : decode cX3_rate 31 = .ok (.iaload, 1) := by decide +kernel
theorem dX3_rate_32 : decode cX3_rate 32 = .ok (.istore_n 3, 1) := by decide +kernel
theorem dX3_rate_33 : decode cX3_rate 33 = .ok (.aload_n 0, 1) := by decide +kernel
theorem dX3_rate_34 : decode cX3_rate 34 = .ok (.getfield 21, 3) := by decide +kernel
theorem dX3_rate_37 : decode cX3_rate 37 = .ok (.iload_n 1, 1) := by decide +kernel
theorem dX3_rate_38 : decode cX3_rate 38 = .ok (.iload_n 2, 1) := by decide +kernel
theorem dX3_rate_39 : decode cX3_rate 39 = .ok (.iastore, 1) := by decide +kernel
theorem dX3_rate_40 : decode cX3_rate 40 = .ok (.iload_n 3, 1) := by decide +kernel
theorem dX3_rate_41 : decode cX3_rate 41 = .ok (.ireturn, 1) := by decide +kernel
theorem dX3_slip_0 : decode cX3_slip 0 = .ok (.aload_n 0, 1) := by decide +kernel
theorem dX3_slip_1 : decode cX3_slip 1 = .ok (.aload_n 0, 1) := by decide +kernel
theorem dX3_slip_2 : decode cX3_slip 2 = .ok (.iload_n 1, 1) := by decide +kernel
theorem dX3_slip_3 : decode cX3_slip 3 = .ok (.invokevirtual 96, 3) := by decide +kernel
theorem dX3_slip_6 : decode cX3_slip 6 = .ok (.iload_n 2, 1) := by decide +kernel
theorem dX3_slip_7 : decode cX3_slip 7 = .ok (.iconst 0, 1) := by decide +kernel
theorem dX3_slip_8 : decode cX3_slip 8 = .ok (.ldc 107, 2) := by decide +kernel
theorem dX3_slip_10 : decode cX3_slip 10 = .ok (.invokestatic 74, 3) := by decide +kernel
theorem dX3_slip_13 : decode cX3_slip 13 = .ok (.aload_n 0, 1) := by decide +kernel
theorem dX3_slip_14 : decode cX3_slip 14 = .ok (.iload_n 1, 1) := by decide +kernel
theorem dX3_slip_15 : decode cX3_slip 15 = .ok (.invokevirtual 100, 3) := by decide +kernel
theorem dX3_slip_18 : decode cX3_slip 18 = .ok (.invokevirtual 103, 3) := by decide +kernel
theorem dX3_slip_21 : decode cX3_slip 21 = .ok (.ifCond .ne 5, 3) := by decide +kernel
theorem dX3_slip_24 : decode cX3_slip 24 = .ok (.iconst 0, 1) := by decide +kernel
theorem dX3_slip_25 : decode cX3_slip 25 = .ok (.ireturn, 1) := by decide +kernel
theorem dX3_slip_26 : decode cX3_slip 26 = .ok (.iload_n 2, 1) := by decide +kernel
theorem dX3_slip_27 : decode cX3_slip 27 = .ok (.aload_n 0, 1) := by decide +kernel
theorem dX3_slip_28 : decode cX3_slip 28 = .ok (.getfield 21, 3) := by decide +kernel
theorem dX3_slip_31 : decode cX3_slip 31 = .ok (.iload_n 1, 1) := by decide +kernel
theorem dX3_slip_32 : decode cX3_slip 32 = .ok (.iaload, 1) := by decide +kernel
theorem dX3_slip_33 : decode cX3_slip 33 = .ok (.imul, 1) := by decide +kernel
theorem dX3_slip_34 : decode cX3_slip 34 = .ok (.bipush 100, 2) := by decide +kernel
theorem dX3_slip_36 : decode cX3_slip 36 = .ok (.idiv, 1) := by decide +kernel
theorem dX3_slip_37 : decode cX3_slip 37 = .ok (.istore_n 3, 1) := by decide +kernel
theorem dX3_slip_38 : decode cX3_slip 38 = .ok (.aload_n 0, 1) := by decide +kernel
theorem dX3_slip_39 : decode cX3_slip 39 = .ok (.getfield 28, 3) := by decide +kernel
theorem dX3_slip_42 : decode cX3_slip 42 = .ok (.iload_n 1, 1) := by decide +kernel
theorem dX3_slip_43 : decode cX3_slip 43 = .ok (.dup2, 1) := by decide +kernel
theorem dX3_slip_44 : decode cX3_slip 44 = .ok (.iaload, 1) := by decide +kernel
theorem dX3_slip_45 : decode cX3_slip 45 = .ok (.iload_n 3, 1) := by decide +kernel
theorem dX3_slip_46 : decode cX3_slip 46 = .ok (.iadd, 1) := by decide +kernel
theorem dX3_slip_47 : decode cX3_slip 47 = .ok (.iastore, 1) := by decide +kernel
theorem dX3_slip_48 : decode cX3_slip 48 = .ok (.aload_n 0, 1) := by decide +kernel
theorem dX3_slip_49 : decode cX3_slip 49 = .ok (.getfield 38, 3) := by decide +kernel
theorem dX3_slip_52 : decode cX3_slip 52 = .ok (.iload_n 1, 1) := by decide +kernel
theorem dX3_slip_53 : decode cX3_slip 53 = .ok (.dup2, 1) := by decide +kernel
theorem dX3_slip_54 : decode cX3_slip 54 = .ok (.laload, 1) := by decide +kernel
theorem dX3_slip_55 : decode cX3_slip 55 = .ok (.iload_n 3, 1) := by decide +kernel
theorem dX3_slip_56 : decode cX3_slip 56 = .ok (.i2l, 1) := by decide +kernel
theorem dX3_slip_57 : decode cX3_slip 57 = .ok (.ladd, 1) := by decide +kernel
theorem dX3_slip_58 : decode cX3_slip 58 = .ok (.lastore, 1) := by decide +kernel
theorem dX3_slip_59 : decode cX3_slip 59 = .ok (.iload_n 3, 1) := by decide +kernel
theorem dX3_slip_60 : decode cX3_slip 60 = .ok (.ireturn, 1) := by decide +kernel
theorem dX3_leave_0 : decode cX3_leave 0 = .ok (.aload_n 0, 1) := by decide +kernel
theorem dX3_leave_1 : decode cX3_leave 1 = .ok (.aload_n 0, 1) := by decide +kernel
theorem dX3_leave_2 : decode cX3_leave 2 = .ok (.iload_n 1, 1) := by decide +kernel
theorem dX3_leave_3 : decode cX3_leave 3 = .ok (.invokevirtual 96, 3) := by decide +kernel
theorem dX3_leave_6 : decode cX3_leave 6 = .ok (.aload_n 0, 1) := by decide +kernel
theorem dX3_leave_7 : decode cX3_leave 7 = .ok (.iload_n 1, 1) := by decide +kernel
theorem dX3_leave_8 : decode cX3_leave 8 = .ok (.invokevirtual 100, 3) := by decide +kernel
theorem dX3_leave_11 : decode cX3_leave 11 = .ok (.invokevirtual 83, 3) := by decide +kernel
theorem dX3_leave_14 : decode cX3_leave 14 = .ok (.ifCond .ne 5, 3) := by decide +kernel
theorem dX3_leave_17 : decode cX3_leave 17 = .ok (.iconst 0, 1) := by decide +kernel
theorem dX3_leave_18 : decode cX3_leave 18 = .ok (.ireturn, 1) := by decide +kernel
theorem dX3_leave_19 : decode cX3_leave 19 = .ok (.aload_n 0, 1) := by decide +kernel
theorem dX3_leave_20 : decode cX3_leave 20 = .ok (.getfield 24, 3) := by decide +kernel
theorem dX3_leave_23 : decode cX3_leave 23 = .ok (.iload_n 1, 1) := by decide +kernel
theorem dX3_leave_24 : decode cX3_leave 24 = .ok (.iconst 1, 1) := by decide +kernel
theorem dX3_leave_25 : decode cX3_leave 25 = .ok (.bastore, 1) := by decide +kernel
theorem dX3_leave_26 : decode cX3_leave 26 = .ok (.aload_n 0, 1) := by decide +kernel
theorem dX3_leave_27 : decode cX3_leave 27 = .ok (.getfield 31, 3) := by decide +kernel
theorem dX3_leave_30 : decode cX3_leave 30 = .ok (.iload_n 1, 1) := by decide +kernel
theorem dX3_leave_31 : decode cX3_leave 31 = .ok (.aload_n 0, 1) := by decide +kernel
theorem dX3_leave_32 : decode cX3_leave 32 = .ok (.getfield 28, 3) := by decide +kernel
theorem dX3_leave_35 : decode cX3_leave 35 = .ok (.iload_n 1, 1) := by decide +kernel
theorem dX3_leave_36 : decode cX3_leave 36 = .ok (.iaload, 1) := by decide +kernel
theorem dX3_leave_37 : decode cX3_leave 37 = .ok (.iastore, 1) := by decide +kernel
theorem dX3_leave_38 : decode cX3_leave 38 = .ok (.aload_n 0, 1) := by decide +kernel
theorem dX3_leave_39 : decode cX3_leave 39 = .ok (.getfield 28, 3) := by decide +kernel
theorem dX3_leave_42 : decode cX3_leave 42 = .ok (.iload_n 1, 1) := by decide +kernel
theorem dX3_leave_43 : decode cX3_leave 43 = .ok (.iconst 0, 1) := by decide +kernel
theorem dX3_leave_44 : decode cX3_leave 44 = .ok (.iastore, 1) := by decide +kernel
theorem dX3_leave_45 : decode cX3_leave 45 = .ok (.aload_n 0, 1) := by decide +kernel
theorem dX3_leave_46 : decode cX3_leave 46 = .ok (.getfield 31, 3) := by decide +kernel
theorem dX3_leave_49 : decode cX3_leave 49 = .ok (.iload_n 1, 1) := by decide +kernel
theorem dX3_leave_50 : decode cX3_leave 50 = .ok (.iaload, 1) := by decide +kernel
theorem dX3_leave_51 : decode cX3_leave 51 = .ok (.ireturn, 1) := by decide +kernel
theorem dX3_money_0 : decode cX3_money 0 = .ok (.aload_n 0, 1) := by decide +kernel
theorem dX3_money_1 : decode cX3_money 1 = .ok (.aload_n 0, 1) := by decide +kernel
theorem dX3_money_2 : decode cX3_money 2 = .ok (.iload_n 1, 1) := by decide +kernel
theorem dX3_money_3 : decode cX3_money 3 = .ok (.invokevirtual 96, 3) := by decide +kernel
theorem dX3_money_6 : decode cX3_money 6 = .ok (.invokevirtual 92, 3) := by decide +kernel
theorem dX3_money_9 : decode cX3_money 9 = .ok (.ifCond .eq 12, 3) := by decide +kernel
theorem dX3_money_12 : decode cX3_money 12 = .ok (.aload_n 0, 1) := by decide +kernel
theorem dX3_money_13 : decode cX3_money 13 = .ok (.getfield 28, 3) := by decide +kernel
theorem dX3_money_16 : decode cX3_money 16 = .ok (.iload_n 1, 1) := by decide +kernel
theorem dX3_money_17 : decode cX3_money 17 = .ok (.iaload, 1) := by decide +kernel
theorem dX3_money_18 : decode cX3_money 18 = .ok (.goto 4, 3) := by decide +kernel
theorem dX3_money_21 : decode cX3_money 21 = .ok (.iconst 0, 1) := by decide +kernel
theorem dX3_money_22 : decode cX3_money 22 = .ok (.ireturn, 1) := by decide +kernel
theorem dX3_offerMonth_0 : decode cX3_offerMonth 0 = .ok (.aload_n 0, 1) := by decide +kernel
theorem dX3_offerMonth_1 : decode cX3_offerMonth 1 = .ok (.aload_n 0, 1) := by decide +kernel
theorem dX3_offerMonth_2 : decode cX3_offerMonth 2 = .ok (.iload_n 1, 1) := by decide +kernel
theorem dX3_offerMonth_3 : decode cX3_offerMonth 3 = .ok (.invokevirtual 96, 3) := by decide +kernel
theorem dX3_offerMonth_6 : decode cX3_offerMonth 6 = .ok (.invokevirtual 92, 3) := by decide +kernel
theorem dX3_offerMonth_9 : decode cX3_offerMonth 9 = .ok (.ifCond .eq 12, 3) := by decide +kernel
theorem dX3_offerMonth_12 : decode cX3_offerMonth 12 = .ok (.aload_n 0, 1) := by decide +kernel
theorem dX3_offerMonth_13 : decode cX3_offerMonth 13 = .ok (.getfield 41, 3) := by decide +kernel
theorem dX3_offerMonth_16 : decode cX3_offerMonth 16 = .ok (.iload_n 1, 1) := by decide +kernel
theorem dX3_offerMonth_17 : decode cX3_offerMonth 17 = .ok (.iaload, 1) := by decide +kernel
theorem dX3_offerMonth_18 : decode cX3_offerMonth 18 = .ok (.goto 4, 3) := by decide +kernel
theorem dX3_offerMonth_21 : decode cX3_offerMonth 21 = .ok (.iconst 0, 1) := by decide +kernel
theorem dX3_offerMonth_22 : decode cX3_offerMonth 22 = .ok (.ireturn, 1) := by decide +kernel
theorem dX3_offerPrice_0 : decode cX3_offerPrice 0 = .ok (.aload_n 0, 1) := by decide +kernel
theorem dX3_offerPrice_1 : decode cX3_offerPrice 1 = .ok (.aload_n 0, 1) := by decide +kernel
theorem dX3_offerPrice_2 : decode cX3_offerPrice 2 = .ok (.iload_n 1, 1) := by decide +kernel
theorem dX3_offerPrice_3 : decode cX3_offerPrice 3 = .ok (.invokevirtual 96, 3) := by decide +kernel
theorem dX3_offerPrice_6 : decode cX3_offerPrice 6 = .ok (.invokevirtual 92, 3) := by decide +kernel
theorem dX3_offerPrice_9 : decode cX3_offerPrice 9 = .ok (.ifCond .eq 17, 3) := by decide +kernel
theorem dX3_offerPrice_12 : decode cX3_offerPrice 12 = .ok (.aload_n 0, 1) := by decide +kernel
theorem dX3_offerPrice_13 : decode cX3_offerPrice 13 = .ok (.getfield 13, 3) := by decide +kernel
theorem dX3_offerPrice_16 : decode cX3_offerPrice 16 = .ok (.aload_n 0, 1) := by decide +kernel
theorem dX3_offerPrice_17 : decode cX3_offerPrice 17 = .ok (.getfield 41, 3) := by decide +kernel
theorem dX3_offerPrice_20 : decode cX3_offerPrice 20 = .ok (.iload_n 1, 1) := by decide +kernel
theorem dX3_offerPrice_21 : decode cX3_offerPrice 21 = .ok (.iaload, 1) := by decide +kernel
theorem dX3_offerPrice_22 : decode cX3_offerPrice 22 = .ok (.iaload, 1) := by decide +kernel
theorem dX3_offerPrice_23 : decode cX3_offerPrice 23 = .ok (.goto 4, 3) := by decide +kernel
theorem dX3_offerPrice_26 : decode cX3_offerPrice 26 = .ok (.iconst 0, 1) := by decide +kernel
theorem dX3_offerPrice_27 : decode cX3_offerPrice 27 = .ok (.ireturn, 1) := by decide +kernel
theorem dX3_resets_0 : decode cX3_resets 0 = .ok (.aload_n 0, 1) := by decide +kernel
theorem dX3_resets_1 : decode cX3_resets 1 = .ok (.aload_n 0, 1) := by decide +kernel
theorem dX3_resets_2 : decode cX3_resets 2 = .ok (.iload_n 1, 1) := by decide +kernel
theorem dX3_resets_3 : decode cX3_resets 3 = .ok (.invokevirtual 96, 3) := by decide +kernel
theorem dX3_resets_6 : decode cX3_resets 6 = .ok (.invokevirtual 92, 3) := by decide +kernel
theorem dX3_resets_9 : decode cX3_resets 9 = .ok (.ifCond .eq 12, 3) := by decide +kernel
theorem dX3_resets_12 : decode cX3_resets 12 = .ok (.aload_n 0, 1) := by decide +kernel
theorem dX3_resets_13 : decode cX3_resets 13 = .ok (.getfield 47, 3) := by decide +kernel
theorem dX3_resets_16 : decode cX3_resets 16 = .ok (.iload_n 1, 1) := by decide +kernel
