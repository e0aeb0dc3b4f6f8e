theorem dX3_resets_17 : decode cX3_resets 17 = .ok (.iaload, 1) := by decide +kernel
theorem dX3_resets_18 : decode cX3_resets 18 = .ok (.goto 4, 3) := by decide +kernel
theorem dX3_resets_21 : decode cX3_resets 21 = .ok (.iconst 0, 1) := by decide +kernel
theorem dX3_resets_22 : decode cX3_resets 22 = .ok (.ireturn, 1) := by decide +kernel
theorem dX3_sharesOf_0 : decode cX3_sharesOf 0 = .ok (.iconst 0, 1) := by decide +kernel
theorem dX3_sharesOf_1 : decode cX3_sharesOf 1 = .ok (.istore_n 2, 1) := by decide +kernel
theorem dX3_sharesOf_2 : decode cX3_sharesOf 2 = .ok (.bipush 10, 2) := by decide +kernel
theorem dX3_sharesOf_4 : decode cX3_sharesOf 4 = .ok (.iload_n 1, 1) := by decide +kernel
theorem dX3_sharesOf_5 : decode cX3_sharesOf 5 = .ok (.imul, 1) := by decide +kernel
theorem dX3_sharesOf_6 : decode cX3_sharesOf 6 = .ok (.istore_n 3, 1) := by decide +kernel
theorem dX3_sharesOf_7 : decode cX3_sharesOf 7 = .ok (.iload_n 3, 1) := by decide +kernel
theorem dX3_sharesOf_8 : decode cX3_sharesOf 8 = .ok (.bipush 10, 2) := by decide +kernel
theorem dX3_sharesOf_10 : decode cX3_sharesOf 10 = .ok (.iload_n 1, 1) := by decide +kernel
theorem dX3_sharesOf_11 : decode cX3_sharesOf 11 = .ok (.imul, 1) := by decide +kernel
theorem dX3_sharesOf_12 : decode cX3_sharesOf 12 = .ok (.bipush 10, 2) := by decide +kernel
theorem dX3_sharesOf_14 : decode cX3_sharesOf 14 = .ok (.iadd, 1) := by decide +kernel
theorem dX3_sharesOf_15 : decode cX3_sharesOf 15 = .ok (.if_icmp .ge 18, 3) := by decide +kernel
theorem dX3_sharesOf_18 : decode cX3_sharesOf 18 = .ok (.iload_n 2, 1) := by decide +kernel
theorem dX3_sharesOf_19 : decode cX3_sharesOf 19 = .ok (.aload_n 0, 1) := by decide +kernel
theorem dX3_sharesOf_20 : decode cX3_sharesOf 20 = .ok (.getfield 59, 3) := by decide +kernel
theorem dX3_sharesOf_23 : decode cX3_sharesOf 23 = .ok (.iload_n 3, 1) := by decide +kernel
theorem dX3_sharesOf_24 : decode cX3_sharesOf 24 = .ok (.iaload, 1) := by decide +kernel
theorem dX3_sharesOf_25 : decode cX3_sharesOf 25 = .ok (.iadd, 1) := by decide +kernel
theorem dX3_sharesOf_26 : decode cX3_sharesOf 26 = .ok (.istore_n 2, 1) := by decide +kernel
theorem dX3_sharesOf_27 : decode cX3_sharesOf 27 = .ok (.iinc 3 1, 3) := by decide +kernel
theorem dX3_sharesOf_30 : decode cX3_sharesOf 30 = .ok (.goto (-23), 3) := by decide +kernel
theorem dX3_sharesOf_33 : decode cX3_sharesOf 33 = .ok (.iload_n 2, 1) := by decide +kernel
theorem dX3_sharesOf_34 : decode cX3_sharesOf 34 = .ok (.ireturn, 1) := by decide +kernel
theorem dX3_shares_0 : decode cX3_shares 0 = .ok (.aload_n 0, 1) := by decide +kernel
theorem dX3_shares_1 : decode cX3_shares 1 = .ok (.aload_n 0, 1) := by decide +kernel
theorem dX3_shares_2 : decode cX3_shares 2 = .ok (.iload_n 1, 1) := by decide +kernel
theorem dX3_shares_3 : decode cX3_shares 3 = .ok (.invokevirtual 96, 3) := by decide +kernel
theorem dX3_shares_6 : decode cX3_shares 6 = .ok (.invokevirtual 92, 3) := by decide +kernel
theorem dX3_shares_9 : decode cX3_shares 9 = .ok (.ifCond .eq 11, 3) := by decide +kernel
theorem dX3_shares_12 : decode cX3_shares 12 = .ok (.aload_n 0, 1) := by decide +kernel
theorem dX3_shares_13 : decode cX3_shares 13 = .ok (.iload_n 1, 1) := by decide +kernel
theorem dX3_shares_14 : decode cX3_shares 14 = .ok (.invokevirtual 108, 3) := by decide +kernel
theorem dX3_shares_17 : decode cX3_shares 17 = .ok (.goto 4, 3) := by decide +kernel
theorem dX3_shares_20 : decode cX3_shares 20 = .ok (.iconst 0, 1) := by decide +kernel
theorem dX3_shares_21 : decode cX3_shares 21 = .ok (.ireturn, 1) := by decide +kernel
theorem dX3_bought_0 : decode cX3_bought 0 = .ok (.aload_n 0, 1) := by decide +kernel
theorem dX3_bought_1 : decode cX3_bought 1 = .ok (.aload_n 0, 1) := by decide +kernel
theorem dX3_bought_2 : decode cX3_bought 2 = .ok (.iload_n 1, 1) := by decide +kernel
theorem dX3_bought_3 : decode cX3_bought 3 = .ok (.invokevirtual 96, 3) := by decide +kernel
theorem dX3_bought_6 : decode cX3_bought 6 = .ok (.ifCond .eq 17, 3) := by decide +kernel
theorem dX3_bought_9 : decode cX3_bought 9 = .ok (.iload_n 2, 1) := by decide +kernel
theorem dX3_bought_10 : decode cX3_bought 10 = .ok (.iconst 0, 1) := by decide +kernel
theorem dX3_bought_11 : decode cX3_bought 11 = .ok (.bipush 59, 2) := by decide +kernel
theorem dX3_bought_13 : decode cX3_bought 13 = .ok (.invokestatic 74, 3) := by decide +kernel
theorem dX3_bought_16 : decode cX3_bought 16 = .ok (.ifCond .eq 7, 3) := by decide +kernel
theorem dX3_bought_19 : decode cX3_bought 19 = .ok (.iconst 1, 1) := by decide +kernel
theorem dX3_bought_20 : decode cX3_bought 20 = .ok (.goto 4, 3) := by decide +kernel
theorem dX3_bought_23 : decode cX3_bought 23 = .ok (.iconst 0, 1) := by decide +kernel
theorem dX3_bought_24 : decode cX3_bought 24 = .ok (.invokevirtual 92, 3) := by decide +kernel
theorem dX3_bought_27 : decode cX3_bought 27 = .ok (.ifCond .ne 5, 3) := by decide +kernel
theorem dX3_bought_30 : decode cX3_bought 30 = .ok (.iconst 0, 1) := by decide +kernel
theorem dX3_bought_31 : decode cX3_bought 31 = .ok (.ireturn, 1) := by decide +kernel
theorem dX3_bought_32 : decode cX3_bought 32 = .ok (.iload_n 2, 1) := by decide +kernel
theorem dX3_bought_33 : decode cX3_bought 33 = .ok (.bipush 6, 2) := by decide +kernel
theorem dX3_bought_35 : decode cX3_bought 35 = .ok (.irem, 1) := by decide +kernel
theorem dX3_bought_36 : decode cX3_bought 36 = .ok (.iconst 5, 1) := by decide +kernel
theorem dX3_bought_37 : decode cX3_bought 37 = .ok (.if_icmp .ne 20, 3) := by decide +kernel
theorem dX3_bought_40 : decode cX3_bought 40 = .ok (.aload_n 0, 1) := by decide +kernel
theorem dX3_bought_41 : decode cX3_bought 41 = .ok (.getfield 56, 3) := by decide +kernel
theorem dX3_bought_44 : decode cX3_bought 44 = .ok (.bipush 10, 2) := by decide +kernel
theorem dX3_bought_46 : decode cX3_bought 46 = .ok (.iload_n 1, 1) := by decide +kernel
theorem dX3_bought_47 : decode cX3_bought 47 = .ok (.imul, 1) := by decide +kernel
theorem dX3_bought_48 : decode cX3_bought 48 = .ok (.iload_n 2, 1) := by decide +kernel
theorem dX3_bought_49 : decode cX3_bought 49 = .ok (.bipush 6, 2) := by decide +kernel
theorem dX3_bought_51 : decode cX3_bought 51 = .ok (.idiv, 1) := by decide +kernel
theorem dX3_bought_52 : decode cX3_bought 52 = .ok (.iadd, 1) := by decide +kernel
theorem dX3_bought_53 : decode cX3_bought 53 = .ok (.iaload, 1) := by decide +kernel
theorem dX3_bought_54 : decode cX3_bought 54 = .ok (.goto 4, 3) := by decide +kernel
theorem dX3_bought_57 : decode cX3_bought 57 = .ok (.iconst 0, 1) := by decide +kernel
theorem dX3_bought_58 : decode cX3_bought 58 = .ok (.ireturn, 1) := by decide +kernel
theorem dX3_paidEach_0 : decode cX3_paidEach 0 = .ok (.aload_n 0, 1) := by decide +kernel
theorem dX3_paidEach_1 : decode cX3_paidEach 1 = .ok (.aload_n 0, 1) := by decide +kernel
theorem dX3_paidEach_2 : decode cX3_paidEach 2 = .ok (.iload_n 1, 1) := by decide +kernel
theorem dX3_paidEach_3 : decode cX3_paidEach 3 = .ok (.invokevirtual 96, 3) := by decide +kernel
theorem dX3_paidEach_6 : decode cX3_paidEach 6 = .ok (.ifCond .eq 17, 3) := by decide +kernel
theorem dX3_paidEach_9 : decode cX3_paidEach 9 = .ok (.iload_n 2, 1) := by decide +kernel
theorem dX3_paidEach_10 : decode cX3_paidEach 10 = .ok (.iconst 0, 1) := by decide +kernel
theorem dX3_paidEach_11 : decode cX3_paidEach 11 = .ok (.bipush 59, 2) := by decide +kernel
theorem dX3_paidEach_13 : decode cX3_paidEach 13 = .ok (.invokestatic 74, 3) := by decide +kernel
theorem dX3_paidEach_16 : decode cX3_paidEach 16 = .ok (.ifCond .eq 7, 3) := by decide +kernel
theorem dX3_paidEach_19 : decode cX3_paidEach 19 = .ok (.iconst 1, 1) := by decide +kernel
theorem dX3_paidEach_20 : decode cX3_paidEach 20 = .ok (.goto 4, 3) := by decide +kernel
theorem dX3_paidEach_23 : decode cX3_paidEach 23 = .ok (.iconst 0, 1) := by decide +kernel
theorem dX3_paidEach_24 : decode cX3_paidEach 24 = .ok (.invokevirtual 92, 3) := by decide +kernel
theorem dX3_paidEach_27 : decode cX3_paidEach 27 = .ok (.ifCond .ne 5, 3) := by decide +kernel
theorem dX3_paidEach_30 : decode cX3_paidEach 30 = .ok (.iconst 0, 1) := by decide +kernel
theorem dX3_paidEach_31 : decode cX3_paidEach 31 = .ok (.ireturn, 1) := by decide +kernel
theorem dX3_paidEach_32 : decode cX3_paidEach 32 = .ok (.iload_n 2, 1) := by decide +kernel
theorem dX3_paidEach_33 : decode cX3_paidEach 33 = .ok (.bipush 6, 2) := by decide +kernel
theorem dX3_paidEach_35 : decode cX3_paidEach 35 = .ok (.irem, 1) := by decide +kernel
theorem dX3_paidEach_36 : decode cX3_paidEach 36 = .ok (.iconst 5, 1) := by decide +kernel
theorem dX3_paidEach_37 : decode cX3_paidEach 37 = .ok (.if_icmp .ne 37, 3) := by decide +kernel
theorem dX3_paidEach_40 : decode cX3_paidEach 40 = .ok (.aload_n 0, 1) := by decide +kernel
theorem dX3_paidEach_41 : decode cX3_paidEach 41 = .ok (.getfield 56, 3) := by decide +kernel
theorem dX3_paidEach_44 : decode cX3_paidEach 44 = .ok (.bipush 10, 2) := by decide +kernel
theorem dX3_paidEach_46 : decode cX3_paidEach 46 = .ok (.iload_n 1, 1) := by decide +kernel
theorem dX3_paidEach_47 : decode cX3_paidEach 47 = .ok (.imul, 1) := by decide +kernel
theorem dX3_paidEach_48 : decode cX3_paidEach 48 = .ok (.iload_n 2, 1) := by decide +kernel
theorem dX3_paidEach_49 : decode cX3_paidEach 49 = .ok (.bipush 6, 2) := by decide +kernel
theorem dX3_paidEach_51 : decode cX3_paidEach 51 = .ok (.idiv, 1) := by decide +kernel
theorem dX3_paidEach_52 : decode cX3_paidEach 52 = .ok (.iadd, 1) := by decide +kernel
theorem dX3_paidEach_53 : decode cX3_paidEach 53 = .ok (.iaload, 1) := by decide +kernel
theorem dX3_paidEach_54 : decode cX3_paidEach 54 = .ok (.ifCond .le 20, 3) := by decide +kernel
theorem dX3_paidEach_57 : decode cX3_paidEach 57 = .ok (.aload_n 0, 1) := by decide +kernel
theorem dX3_paidEach_58 : decode cX3_paidEach 58 = .ok (.getfield 62, 3) := by decide +kernel
theorem dX3_paidEach_61 : decode cX3_paidEach 61 = .ok (.bipush 10, 2) := by decide +kernel
theorem dX3_paidEach_63 : decode cX3_paidEach 63 = .ok (.iload_n 1, 1) := by decide +kernel
theorem dX3_paidEach_64 : decode cX3_paidEach 64 = .ok (.imul, 1) := by decide +kernel
theorem dX3_paidEach_65 : decode cX3_paidEach 65 = .ok (.iload_n 2, 1) := by decide +kernel
theorem dX3_paidEach_66 : decode cX3_paidEach 66 = .ok (.bipush 6, 2) := by decide +kernel
theorem dX3_paidEach_68 : decode cX3_paidEach 68 = .ok (.idiv, 1) := by decide +kernel
theorem dX3_paidEach_69 : decode cX3_paidEach 69 = .ok (.iadd, 1) := by decide +kernel
theorem dX3_paidEach_70 : decode cX3_paidEach 70 = .ok (.iaload, 1) := by decide +kernel
theorem dX3_paidEach_71 : decode cX3_paidEach 71 = .ok (.goto 4, 3) := by decide +kernel
theorem dX3_paidEach_74 : decode cX3_paidEach 74 = .ok (.iconst (-1), 1) := by decide +kernel
theorem dX3_paidEach_75 : decode cX3_paidEach 75 = .ok (.ireturn, 1) := by decide +kernel
theorem dX3_counted_0 : decode cX3_counted 0 = .ok (.aload_n 0, 1) := by decide +kernel
theorem dX3_counted_1 : decode cX3_counted 1 = .ok (.aload_n 0, 1) := by decide +kernel
theorem dX3_counted_2 : decode cX3_counted 2 = .ok (.iload_n 1, 1) := by decide +kernel
theorem dX3_counted_3 : decode cX3_counted 3 = .ok (.invokevirtual 96, 3) := by decide +kernel
theorem dX3_counted_6 : decode cX3_counted 6 = .ok (.ifCond .eq 16, 3) := by decide +kernel
theorem dX3_counted_9 : decode cX3_counted 9 = .ok (.iload_n 2, 1) := by decide +kernel
theorem dX3_counted_10 : decode cX3_counted 10 = .ok (.iconst 0, 1) := by decide +kernel
theorem dX3_counted_11 : decode cX3_counted 11 = .ok (.iconst 4, 1) := by decide +kernel
theorem dX3_counted_12 : decode cX3_counted 12 = .ok (.invokestatic 74, 3) := by decide +kernel
theorem dX3_counted_15 : decode cX3_counted 15 = .ok (.ifCond .eq 7, 3) := by decide +kernel
theorem dX3_counted_18 : decode cX3_counted 18 = .ok (.iconst 1, 1) := by decide +kernel
theorem dX3_counted_19 : decode cX3_counted 19 = .ok (.goto 4, 3) := by decide +kernel
theorem dX3_counted_22 : decode cX3_counted 22 = .ok (.iconst 0, 1) := by decide +kernel
theorem dX3_counted_23 : decode cX3_counted 23 = .ok (.invokevirtual 92, 3) := by decide +kernel
theorem dX3_counted_26 : decode cX3_counted 26 = .ok (.ifCond .eq 12, 3) := by decide +kernel
theorem dX3_counted_29 : decode cX3_counted 29 = .ok (.aload_n 0, 1) := by decide +kernel
theorem dX3_counted_30 : decode cX3_counted 30 = .ok (.iload_n 1, 1) := by decide +kernel
theorem dX3_counted_31 : decode cX3_counted 31 = .ok (.iload_n 2, 1) := by decide +kernel
theorem dX3_counted_32 : decode cX3_counted 32 = .ok (.invokevirtual 78, 3) := by decide +kernel
theorem dX3_counted_35 : decode cX3_counted 35 = .ok (.goto 4, 3) := by decide +kernel
theorem dX3_counted_38 : decode cX3_counted 38 = .ok (.lconst 0, 1) := by decide +kernel
theorem dX3_counted_39 : decode cX3_counted 39 = .ok (.lreturn, 1) := by decide +kernel
theorem dX3_traced_0 : decode cX3_traced 0 = .ok (.aload_n 0, 1) := by decide +kernel
theorem dX3_traced_1 : decode cX3_traced 1 = .ok (.aload_n 0, 1) := by decide +kernel
theorem dX3_traced_2 : decode cX3_traced 2 = .ok (.iload_n 1, 1) := by decide +kernel
theorem dX3_traced_3 : decode cX3_traced 3 = .ok (.invokevirtual 96, 3) := by decide +kernel
theorem dX3_traced_6 : decode cX3_traced 6 = .ok (.invokevirtual 92, 3) := by decide +kernel
theorem dX3_traced_9 : decode cX3_traced 9 = .ok (.ifCond .eq 28, 3) := by decide +kernel
theorem dX3_traced_12 : decode cX3_traced 12 = .ok (.aload_n 0, 1) := by decide +kernel
theorem dX3_traced_13 : decode cX3_traced 13 = .ok (.getfield 34, 3) := by decide +kernel
theorem dX3_traced_16 : decode cX3_traced 16 = .ok (.iload_n 1, 1) := by decide +kernel
theorem dX3_traced_17 : decode cX3_traced 17 = .ok (.laload, 1) := by decide +kernel
theorem dX3_traced_18 : decode cX3_traced 18 = .ok (.aload_n 0, 1) := by decide +kernel
theorem dX3_traced_19 : decode cX3_traced 19 = .ok (.getfield 28, 3) := by decide +kernel
theorem dX3_traced_22 : decode cX3_traced 22 = .ok (.iload_n 1, 1) := by decide +kernel
theorem dX3_traced_23 : decode cX3_traced 23 = .ok (.iaload, 1) := by decide +kernel
theorem dX3_traced_24 : decode cX3_traced 24 = .ok (.i2l, 1) := by decide +kernel
theorem dX3_traced_25 : decode cX3_traced 25 = .ok (.ladd, 1) := by decide +kernel
theorem dX3_traced_26 : decode cX3_traced 26 = .ok (.aload_n 0, 1) := by decide +kernel
theorem dX3_traced_27 : decode cX3_traced 27 = .ok (.getfield 31, 3) := by decide +kernel
theorem dX3_traced_30 : decode cX3_traced 30 = .ok (.iload_n 1, 1) := by decide +kernel
theorem dX3_traced_31 : decode cX3_traced 31 = .ok (.iaload, 1) := by decide +kernel
theorem dX3_traced_32 : decode cX3_traced 32 = .ok (.i2l, 1) := by decide +kernel
theorem dX3_traced_33 : decode cX3_traced 33 = .ok (.ladd, 1) := by decide +kernel
theorem dX3_traced_34 : decode cX3_traced 34 = .ok (.goto 4, 3) := by decide +kernel
theorem dX3_traced_37 : decode cX3_traced 37 = .ok (.lconst 0, 1) := by decide +kernel
theorem dX3_traced_38 : decode cX3_traced 38 = .ok (.lreturn, 1) := by decide +kernel
theorem dX3_kept_0 : decode cX3_kept 0 = .ok (.aload_n 0, 1) := by decide +kernel
theorem dX3_kept_1 : decode cX3_kept 1 = .ok (.aload_n 0, 1) := by decide +kernel
theorem dX3_kept_2 : decode cX3_kept 2 = .ok (.iload_n 1, 1) := by decide +kernel
theorem dX3_kept_3 : decode cX3_kept 3 = .ok (.invokevirtual 96, 3) := by decide +kernel
theorem dX3_kept_6 : decode cX3_kept 6 = .ok (.invokevirtual 92, 3) := by decide +kernel
theorem dX3_kept_9 : decode cX3_kept 9 = .ok (.ifCond .eq 12, 3) := by decide +kernel
theorem dX3_kept_12 : decode cX3_kept 12 = .ok (.aload_n 0, 1) := by decide +kernel
theorem dX3_kept_13 : decode cX3_kept 13 = .ok (.getfield 38, 3) := by decide +kernel
theorem dX3_kept_16 : decode cX3_kept 16 = .ok (.iload_n 1, 1) := by decide +kernel
theorem dX3_kept_17 : decode cX3_kept 17 = .ok (.laload, 1) := by decide +kernel
theorem dX3_kept_18 : decode cX3_kept 18 = .ok (.goto 4, 3) := by decide +kernel
theorem dX3_kept_21 : decode cX3_kept 21 = .ok (.lconst 0, 1) := by decide +kernel
theorem dX3_kept_22 : decode cX3_kept 22 = .ok (.lreturn, 1) := by decide +kernel
theorem dX3_isEarly_0 : decode cX3_isEarly 0 = .ok (.aload_n 0, 1) := by decide +kernel
theorem dX3_isEarly_1 : decode cX3_isEarly 1 = .ok (.getfield 9, 3) := by decide +kernel
theorem dX3_isEarly_4 : decode cX3_isEarly 4 = .ok (.aload_n 0, 1) := by decide +kernel
theorem dX3_isEarly_5 : decode cX3_isEarly 5 = .ok (.getfield 65, 3) := by decide +kernel
theorem dX3_isEarly_8 : decode cX3_isEarly 8 = .ok (.iload_n 1, 1) := by decide +kernel
theorem dX3_isEarly_9 : decode cX3_isEarly 9 = .ok (.iaload, 1) := by decide +kernel
theorem dX3_isEarly_10 : decode cX3_isEarly 10 = .ok (.isub, 1) := by decide +kernel
theorem dX3_isEarly_11 : decode cX3_isEarly 11 = .ok (.bipush 24, 2) := by decide +kernel
theorem dX3_isEarly_13 : decode cX3_isEarly 13 = .ok (.if_icmp .lt 22, 3) := by decide +kernel
theorem dX3_isEarly_16 : decode cX3_isEarly 16 = .ok (.aload_n 0, 1) := by decide +kernel
theorem dX3_isEarly_17 : decode cX3_isEarly 17 = .ok (.getfield 9, 3) := by decide +kernel
theorem dX3_isEarly_20 : decode cX3_isEarly 20 = .ok (.bipush 6, 2) := by decide +kernel
theorem dX3_isEarly_22 : decode cX3_isEarly 22 = .ok (.iload_n 1, 1) := by decide +kernel
theorem dX3_isEarly_23 : decode cX3_isEarly 23 = .ok (.bipush 10, 2) := by decide +kernel
theorem dX3_isEarly_25 : decode cX3_isEarly 25 = .ok (.irem, 1) := by decide +kernel
theorem dX3_isEarly_26 : decode cX3_isEarly 26 = .ok (.imul, 1) := by decide +kernel
theorem dX3_isEarly_27 : decode cX3_isEarly 27 = .ok (.iconst 5, 1) := by decide +kernel
theorem dX3_isEarly_28 : decode cX3_isEarly 28 = .ok (.iadd, 1) := by decide +kernel
theorem dX3_isEarly_29 : decode cX3_isEarly 29 = .ok (.isub, 1) := by decide +kernel
theorem dX3_isEarly_30 : decode cX3_isEarly 30 = .ok (.bipush 12, 2) := by decide +kernel
theorem dX3_isEarly_32 : decode cX3_isEarly 32 = .ok (.if_icmp .ge 7, 3) := by decide +kernel
theorem dX3_isEarly_35 : decode cX3_isEarly 35 = .ok (.iconst 1, 1) := by decide +kernel
theorem dX3_isEarly_36 : decode cX3_isEarly 36 = .ok (.goto 4, 3) := by decide +kernel
theorem dX3_isEarly_39 : decode cX3_isEarly 39 = .ok (.iconst 0, 1) := by decide +kernel
theorem dX3_isEarly_40 : decode cX3_isEarly 40 = .ok (.ireturn, 1) := by decide +kernel
theorem dX3_payOf_0 : decode cX3_payOf 0 = .ok (.aload_n 0, 1) := by decide +kernel
theorem dX3_payOf_1 : decode cX3_payOf 1 = .ok (.iload_n 1, 1) := by decide +kernel
theorem dX3_payOf_2 : decode cX3_payOf 2 = .ok (.invokevirtual 112, 3) := by decide +kernel
theorem dX3_payOf_5 : decode cX3_payOf 5 = .ok (.ifCond .eq 25, 3) := by decide +kernel
theorem dX3_payOf_8 : decode cX3_payOf 8 = .ok (.aload_n 0, 1) := by decide +kernel
theorem dX3_payOf_9 : decode cX3_payOf 9 = .ok (.getfield 13, 3) := by decide +kernel
theorem dX3_payOf_12 : decode cX3_payOf 12 = .ok (.bipush 6, 2) := by decide +kernel
theorem dX3_payOf_14 : decode cX3_payOf 14 = .ok (.iload_n 1, 1) := by decide +kernel
theorem dX3_payOf_15 : decode cX3_payOf 15 = .ok (.bipush 10, 2) := by decide +kernel
theorem dX3_payOf_17 : decode cX3_payOf 17 = .ok (.irem, 1) := by decide +kernel
theorem dX3_payOf_18 : decode cX3_payOf 18 = .ok (.imul, 1) := by decide +kernel
theorem dX3_payOf_19 : decode cX3_payOf 19 = .ok (.iconst 5, 1) := by decide +kernel
theorem dX3_payOf_20 : decode cX3_payOf 20 = .ok (.iadd, 1) := by decide +kernel
theorem dX3_payOf_21 : decode cX3_payOf 21 = .ok (.iaload, 1) := by decide +kernel
theorem dX3_payOf_22 : decode cX3_payOf 22 = .ok (.aload_n 0, 1) := by decide +kernel
theorem dX3_payOf_23 : decode cX3_payOf 23 = .ok (.getfield 62, 3) := by decide +kernel
theorem dX3_payOf_26 : decode cX3_payOf 26 = .ok (.iload_n 1, 1) := by decide +kernel
theorem dX3_payOf_27 : decode cX3_payOf 27 = .ok (.iaload, 1) := by decide +kernel
theorem dX3_payOf_28 : decode cX3_payOf 28 = .ok (.isub, 1) := by decide +kernel
theorem dX3_payOf_29 : decode cX3_payOf 29 = .ok (.ireturn, 1) := by decide +kernel
theorem dX3_payOf_30 : decode cX3_payOf 30 = .ok (.aload_n 0, 1) := by decide +kernel
theorem dX3_payOf_31 : decode cX3_payOf 31 = .ok (.getfield 13, 3) := by decide +kernel
theorem dX3_payOf_34 : decode cX3_payOf 34 = .ok (.aload_n 0, 1) := by decide +kernel
theorem dX3_payOf_35 : decode cX3_payOf 35 = .ok (.getfield 9, 3) := by decide +kernel
theorem dX3_payOf_38 : decode cX3_payOf 38 = .ok (.iaload, 1) := by decide +kernel
theorem dX3_payOf_39 : decode cX3_payOf 39 = .ok (.aload_n 0, 1) := by decide +kernel
theorem dX3_payOf_40 : decode cX3_payOf 40 = .ok (.getfield 62, 3) := by decide +kernel
theorem dX3_payOf_43 : decode cX3_payOf 43 = .ok (.iload_n 1, 1) := by decide +kernel
theorem dX3_payOf_44 : decode cX3_payOf 44 = .ok (.iaload, 1) := by decide +kernel
theorem dX3_payOf_45 : decode cX3_payOf 45 = .ok (.isub, 1) := by decide +kernel
theorem dX3_payOf_46 : decode cX3_payOf 46 = .ok (.istore_n 2, 1) := by decide +kernel
theorem dX3_payOf_47 : decode cX3_payOf 47 = .ok (.bipush 15, 2) := by decide +kernel
theorem dX3_payOf_49 : decode cX3_payOf 49 = .ok (.aload_n 0, 1) := by decide +kernel
theorem dX3_payOf_50 : decode cX3_payOf 50 = .ok (.getfield 13, 3) := by decide +kernel
theorem dX3_payOf_53 : decode cX3_payOf 53 = .ok (.aload_n 0, 1) := by decide +kernel
theorem dX3_payOf_54 : decode cX3_payOf 54 = .ok (.getfield 65, 3) := by decide +kernel
theorem dX3_payOf_57 : decode cX3_payOf 57 = .ok (.iload_n 1, 1) := by decide +kernel
theorem dX3_payOf_58 : decode cX3_payOf 58 = .ok (.iaload, 1) := by decide +kernel
theorem dX3_payOf_59 : decode cX3_payOf 59 = .ok (.iaload, 1) := by decide +kernel
theorem dX3_payOf_60 : decode cX3_payOf 60 = .ok (.imul, 1) := by decide +kernel
theorem dX3_payOf_61 : decode cX3_payOf 61 = .ok (.bipush 100, 2) := by decide +kernel
theorem dX3_payOf_63 : decode cX3_payOf 63 = .ok (.idiv, 1) := by decide +kernel
theorem dX3_payOf_64 : decode cX3_payOf 64 = .ok (.istore_n 3, 1) := by decide +kernel
theorem dX3_payOf_65 : decode cX3_payOf 65 = .ok (.iload_n 3, 1) := by decide +kernel
theorem dX3_payOf_66 : decode cX3_payOf 66 = .ok (.iload_n 2, 1) := by decide +kernel
theorem dX3_payOf_67 : decode cX3_payOf 67 = .ok (.if_icmp .ge 7, 3) := by decide +kernel
theorem dX3_payOf_70 : decode cX3_payOf 70 = .ok (.iload_n 3, 1) := by decide +kernel
theorem dX3_payOf_71 : decode cX3_payOf 71 = .ok (.goto 4, 3) := by decide +kernel
theorem dX3_payOf_74 : decode cX3_payOf 74 = .ok (.iload_n 2, 1) := by decide +kernel
theorem dX3_payOf_75 : decode cX3_payOf 75 = .ok (.istore 4, 2) := by decide +kernel
theorem dX3_payOf_77 : decode cX3_payOf 77 = .ok (.iload 4, 2) := by decide +kernel
theorem dX3_payOf_79 : decode cX3_payOf 79 = .ok (.ifCond .ge 7, 3) := by decide +kernel
theorem dX3_payOf_82 : decode cX3_payOf 82 = .ok (.iconst 0, 1) := by decide +kernel
theorem dX3_payOf_83 : decode cX3_payOf 83 = .ok (.goto 5, 3) := by decide +kernel
theorem dX3_payOf_86 : decode cX3_payOf 86 = .ok (.iload 4, 2) := by decide +kernel
theorem dX3_payOf_88 : decode cX3_payOf 88 = .ok (.ireturn, 1) := by decide +kernel
theorem dX3_gainOf_0 : decode cX3_gainOf 0 = .ok (.iload_n 2, 1) := by decide +kernel
theorem dX3_gainOf_1 : decode cX3_gainOf 1 = .ok (.i2l, 1) := by decide +kernel
theorem dX3_gainOf_2 : decode cX3_gainOf 2 = .ok (.aload_n 0, 1) := by decide +kernel
theorem dX3_gainOf_3 : decode cX3_gainOf 3 = .ok (.getfield 13, 3) := by decide +kernel
theorem dX3_gainOf_6 : decode cX3_gainOf 6 = .ok (.aload_n 0, 1) := by decide +kernel
theorem dX3_gainOf_7 : decode cX3_gainOf 7 = .ok (.getfield 9, 3) := by decide +kernel
theorem dX3_gainOf_10 : decode cX3_gainOf 10 = .ok (.iaload, 1) := by decide +kernel
theorem dX3_gainOf_11 : decode cX3_gainOf 11 = .ok (.aload_n 0, 1) := by decide +kernel
theorem dX3_gainOf_12 : decode cX3_gainOf 12 = .ok (.getfield 62, 3) := by decide +kernel
theorem dX3_gainOf_15 : decode cX3_gainOf 15 = .ok (.iload_n 1, 1) := by decide +kernel
theorem dX3_gainOf_16 : decode cX3_gainOf 16 = .ok (.iaload, 1) := by decide +kernel
theorem dX3_gainOf_17 : decode cX3_gainOf 17 = .ok (.isub, 1) := by decide +kernel
theorem dX3_gainOf_18 : decode cX3_gainOf 18 = .ok (.aload_n 0, 1) := by decide +kernel
theorem dX3_gainOf_19 : decode cX3_gainOf 19 = .ok (.iload_n 1, 1) := by decide +kernel
theorem dX3_gainOf_20 : decode cX3_gainOf 20 = .ok (.invokevirtual 115, 3) := by decide +kernel
theorem dX3_gainOf_23 : decode cX3_gainOf 23 = .ok (.isub, 1) := by decide +kernel
theorem dX3_gainOf_24 : decode cX3_gainOf 24 = .ok (.i2l, 1) := by decide +kernel
theorem dX3_gainOf_25 : decode cX3_gainOf 25 = .ok (.lmul, 1) := by decide +kernel
theorem dX3_gainOf_26 : decode cX3_gainOf 26 = .ok (.lreturn, 1) := by decide +kernel
theorem dX3_sell_0 : decode cX3_sell 0 = .ok (.aload_n 0, 1) := by decide +kernel
theorem dX3_sell_1 : decode cX3_sell 1 = .ok (.iload_n 1, 1) := by decide +kernel
theorem dX3_sell_2 : decode cX3_sell 2 = .ok (.invokevirtual 96, 3) := by decide +kernel
theorem dX3_sell_5 : decode cX3_sell 5 = .ok (.istore_n 3, 1) := by decide +kernel
theorem dX3_sell_6 : decode cX3_sell 6 = .ok (.aload_n 0, 1) := by decide +kernel
theorem dX3_sell_7 : decode cX3_sell 7 = .ok (.iload_n 3, 1) := by decide +kernel
theorem dX3_sell_8 : decode cX3_sell 8 = .ok (.iload_n 2, 1) := by decide +kernel
theorem dX3_sell_9 : decode cX3_sell 9 = .ok (.iconst 1, 1) := by decide +kernel
theorem dX3_sell_10 : decode cX3_sell 10 = .ok (.ldc 118, 2) := by decide +kernel
theorem dX3_sell_12 : decode cX3_sell 12 = .ok (.invokestatic 74, 3) := by decide +kernel
theorem dX3_sell_15 : decode cX3_sell 15 = .ok (.iload_n 3, 1) := by decide +kernel
theorem dX3_sell_16 : decode cX3_sell 16 = .ok (.ifCond .eq 16, 3) := by decide +kernel
theorem dX3_sell_19 : decode cX3_sell 19 = .ok (.aload_n 0, 1) := by decide +kernel
theorem dX3_sell_20 : decode cX3_sell 20 = .ok (.iload_n 1, 1) := by decide +kernel
theorem dX3_sell_21 : decode cX3_sell 21 = .ok (.invokevirtual 108, 3) := by decide +kernel
theorem dX3_sell_24 : decode cX3_sell 24 = .ok (.iload_n 2, 1) := by decide +kernel
theorem dX3_sell_25 : decode cX3_sell 25 = .ok (.if_icmp .lt 7, 3) := by decide +kernel
theorem dX3_sell_28 : decode cX3_sell 28 = .ok (.iconst 1, 1) := by decide +kernel
theorem dX3_sell_29 : decode cX3_sell 29 = .ok (.goto 4, 3) := by decide +kernel
theorem dX3_sell_32 : decode cX3_sell 32 = .ok (.iconst 0, 1) := by decide +kernel
theorem dX3_sell_33 : decode cX3_sell 33 = .ok (.invokevirtual 103, 3) := by decide +kernel
theorem dX3_sell_36 : decode cX3_sell 36 = .ok (.ifCond .ne 5, 3) := by decide +kernel
theorem dX3_sell_39 : decode cX3_sell 39 = .ok (.iconst 0, 1) := by decide +kernel
theorem dX3_sell_40 : decode cX3_sell 40 = .ok (.ireturn, 1) := by decide +kernel
theorem dX3_sell_41 : decode cX3_sell 41 = .ok (.iload_n 2, 1) := by decide +kernel
theorem dX3_sell_42 : decode cX3_sell 42 = .ok (.istore 4, 2) := by decide +kernel
theorem dX3_sell_44 : decode cX3_sell 44 = .ok (.iconst 0, 1) := by decide +kernel
theorem dX3_sell_45 : decode cX3_sell 45 = .ok (.istore 5, 2) := by decide +kernel
theorem dX3_sell_47 : decode cX3_sell 47 = .ok (.bipush 10, 2) := by decide +kernel
theorem dX3_sell_49 : decode cX3_sell 49 = .ok (.iload_n 1, 1) := by decide +kernel
theorem dX3_sell_50 : decode cX3_sell 50 = .ok (.imul, 1) := by decide +kernel
theorem dX3_sell_51 : decode cX3_sell 51 = .ok (.istore 6, 2) := by decide +kernel
theorem dX3_sell_53 : decode cX3_sell 53 = .ok (.iload 6, 2) := by decide +kernel
theorem dX3_sell_55 : decode cX3_sell 55 = .ok (.bipush 10, 2) := by decide +kernel
theorem dX3_sell_57 : decode cX3_sell 57 = .ok (.iload_n 1, 1) := by decide +kernel
theorem dX3_sell_58 : decode cX3_sell 58 = .ok (.imul, 1) := by decide +kernel
theorem dX3_sell_59 : decode cX3_sell 59 = .ok (.bipush 10, 2) := by decide +kernel
theorem dX3_sell_61 : decode cX3_sell 61 = .ok (.iadd, 1) := by decide +kernel
theorem dX3_sell_62 : decode cX3_sell 62 = .ok (.if_icmp .ge 121, 3) := by decide +kernel
theorem dX3_sell_65 : decode cX3_sell 65 = .ok (.iload 4, 2) := by decide +kernel
theorem dX3_sell_67 : decode cX3_sell 67 = .ok (.ifCond .le 116, 3) := by decide +kernel
theorem dX3_sell_70 : decode cX3_sell 70 = .ok (.iload 4, 2) := by decide +kernel
theorem dX3_sell_72 : decode cX3_sell 72 = .ok (.aload_n 0, 1) := by decide +kernel
theorem dX3_sell_73 : decode cX3_sell 73 = .ok (.getfield 59, 3) := by decide +kernel
theorem dX3_sell_76 : decode cX3_sell 76 = .ok (.iload 6, 2) := by decide +kernel
theorem dX3_sell_78 : decode cX3_sell 78 = .ok (.iaload, 1) := by decide +kernel
theorem dX3_sell_79 : decode cX3_sell 79 = .ok (.if_icmp .ge 8, 3) := by decide +kernel
theorem dX3_sell_82 : decode cX3_sell 82 = .ok (.iload 4, 2) := by decide +kernel
theorem dX3_sell_84 : decode cX3_sell 84 = .ok (.goto 10, 3) := by decide +kernel
theorem dX3_sell_87 : decode cX3_sell 87 = .ok (.aload_n 0, 1) := by decide +kernel
theorem dX3_sell_88 : decode cX3_sell 88 = .ok (.getfield 59, 3) := by decide +kernel
theorem dX3_sell_91 : decode cX3_sell 91 = .ok (.iload 6, 2) := by decide +kernel
theorem dX3_sell_93 : decode cX3_sell 93 = .ok (.iaload, 1) := by decide +kernel
theorem dX3_sell_94 : decode cX3_sell 94 = .ok (.istore 7, 2) := by decide +kernel
theorem dX3_sell_96 : decode cX3_sell 96 = .ok (.iload 7, 2) := by decide +kernel
theorem dX3_sell_98 : decode cX3_sell 98 = .ok (.ifCond .le 79, 3) := by decide +kernel
theorem dX3_sell_101 : decode cX3_sell 101 = .ok (.aload_n 0, 1) := by decide +kernel
theorem dX3_sell_102 : decode cX3_sell 102 = .ok (.getfield 50, 3) := by decide +kernel
theorem dX3_sell_105 : decode cX3_sell 105 = .ok (.iload_n 1, 1) := by decide +kernel
theorem dX3_sell_106 : decode cX3_sell 106 = .ok (.dup2, 1) := by decide +kernel
theorem dX3_sell_107 : decode cX3_sell 107 = .ok (.laload, 1) := by decide +kernel
theorem dX3_sell_108 : decode cX3_sell 108 = .ok (.iload 7, 2) := by decide +kernel
theorem dX3_sell_110 : decode cX3_sell 110 = .ok (.i2l, 1) := by decide +kernel
theorem dX3_sell_111 : decode cX3_sell 111 = .ok (.aload_n 0, 1) := by decide +kernel
theorem dX3_sell_112 : decode cX3_sell 112 = .ok (.iload 6, 2) := by decide +kernel
theorem dX3_sell_114 : decode cX3_sell 114 = .ok (.invokevirtual 115, 3) := by decide +kernel
theorem dX3_sell_117 : decode cX3_sell 117 = .ok (.i2l, 1) := by decide +kernel
theorem dX3_sell_118 : decode cX3_sell 118 = .ok (.lmul, 1) := by decide +kernel
theorem dX3_sell_119 : decode cX3_sell 119 = .ok (.ladd, 1) := by decide +kernel
theorem dX3_sell_120 : decode cX3_sell 120 = .ok (.lastore, 1) := by decide +kernel
theorem dX3_sell_121 : decode cX3_sell 121 = .ok (.aload_n 0, 1) := by decide +kernel
theorem dX3_sell_122 : decode cX3_sell 122 = .ok (.getfield 53, 3) := by decide +kernel
theorem dX3_sell_125 : decode cX3_sell 125 = .ok (.iload_n 1, 1) := by decide +kernel
theorem dX3_sell_126 : decode cX3_sell 126 = .ok (.dup2, 1) := by decide +kernel
theorem dX3_sell_127 : decode cX3_sell 127 = .ok (.laload, 1) := by decide +kernel
theorem dX3_sell_128 : decode cX3_sell 128 = .ok (.aload_n 0, 1) := by decide +kernel
theorem dX3_sell_129 : decode cX3_sell 129 = .ok (.iload 6, 2) := by decide +kernel
theorem dX3_sell_131 : decode cX3_sell 131 = .ok (.iload 7, 2) := by decide +kernel
theorem dX3_sell_133 : decode cX3_sell 133 = .ok (.invokevirtual 119, 3) := by decide +kernel
theorem dX3_sell_136 : decode cX3_sell 136 = .ok (.ladd, 1) := by decide +kernel
theorem dX3_sell_137 : decode cX3_sell 137 = .ok (.lastore, 1) := by decide +kernel
theorem dX3_sell_138 : decode cX3_sell 138 = .ok (.iload 5, 2) := by decide +kernel
theorem dX3_sell_140 : decode cX3_sell 140 = .ok (.aload_n 0, 1) := by decide +kernel
theorem dX3_sell_141 : decode cX3_sell 141 = .ok (.iload 6, 2) := by decide +kernel
theorem dX3_sell_143 : decode cX3_sell 143 = .ok (.invokevirtual 112, 3) := by decide +kernel
theorem dX3_sell_146 : decode cX3_sell 146 = .ok (.ifCond .eq 8, 3) := by decide +kernel
theorem dX3_sell_149 : decode cX3_sell 149 = .ok (.iload 7, 2) := by decide +kernel
theorem dX3_sell_151 : decode cX3_sell 151 = .ok (.goto 4, 3) := by decide +kernel
theorem dX3_sell_154 : decode cX3_sell 154 = .ok (.iconst 0, 1) := by decide +kernel
theorem dX3_sell_155 : decode cX3_sell 155 = .ok (.iadd, 1) := by decide +kernel
theorem dX3_sell_156 : decode cX3_sell 156 = .ok (.istore 5, 2) := by decide +kernel
theorem dX3_sell_158 : decode cX3_sell 158 = .ok (.aload_n 0, 1) := by decide +kernel
theorem dX3_sell_159 : decode cX3_sell 159 = .ok (.getfield 59, 3) := by decide +kernel
theorem dX3_sell_162 : decode cX3_sell 162 = .ok (.iload 6, 2) := by decide +kernel
theorem dX3_sell_164 : decode cX3_sell 164 = .ok (.dup2, 1) := by decide +kernel
theorem dX3_sell_165 : decode cX3_sell 165 = .ok (.iaload, 1) := by decide +kernel
theorem dX3_sell_166 : decode cX3_sell 166 = .ok (.iload 7, 2) := by decide +kernel
theorem dX3_sell_168 : decode cX3_sell 168 = .ok (.isub, 1) := by decide +kernel
theorem dX3_sell_169 : decode cX3_sell 169 = .ok (.iastore, 1) := by decide +kernel
theorem dX3_sell_170 : decode cX3_sell 170 = .ok (.iload 4, 2) := by decide +kernel
theorem dX3_sell_172 : decode cX3_sell 172 = .ok (.iload 7, 2) := by decide +kernel
theorem dX3_sell_174 : decode cX3_sell 174 = .ok (.isub, 1) := by decide +kernel
theorem dX3_sell_175 : decode cX3_sell 175 = .ok (.istore 4, 2) := by decide +kernel
theorem dX3_sell_177 : decode cX3_sell 177 = .ok (.iinc 6 1, 3) := by decide +kernel
theorem dX3_sell_180 : decode cX3_sell 180 = .ok (.goto (-127), 3) := by decide +kernel
theorem dX3_sell_183 : decode cX3_sell 183 = .ok (.iload 5, 2) := by decide +kernel
theorem dX3_sell_185 : decode cX3_sell 185 = .ok (.ireturn, 1) := by decide +kernel
theorem dX3_pay_0 : decode cX3_pay 0 = .ok (.aload_n 0, 1) := by decide +kernel
theorem dX3_pay_1 : decode cX3_pay 1 = .ok (.aload_n 0, 1) := by decide +kernel
theorem dX3_pay_2 : decode cX3_pay 2 = .ok (.iload_n 1, 1) := by decide +kernel
theorem dX3_pay_3 : decode cX3_pay 3 = .ok (.invokevirtual 96, 3) := by decide +kernel
theorem dX3_pay_6 : decode cX3_pay 6 = .ok (.invokevirtual 92, 3) := by decide +kernel
theorem dX3_pay_9 : decode cX3_pay 9 = .ok (.ifCond .eq 12, 3) := by decide +kernel
theorem dX3_pay_12 : decode cX3_pay 12 = .ok (.aload_n 0, 1) := by decide +kernel
theorem dX3_pay_13 : decode cX3_pay 13 = .ok (.getfield 50, 3) := by decide +kernel
theorem dX3_pay_16 : decode cX3_pay 16 = .ok (.iload_n 1, 1) := by decide +kernel
theorem dX3_pay_17 : decode cX3_pay 17 = .ok (.laload, 1) := by decide +kernel
theorem dX3_pay_18 : decode cX3_pay 18 = .ok (.goto 4, 3) := by decide +kernel
theorem dX3_pay_21 : decode cX3_pay 21 = .ok (.lconst 0, 1) := by decide +kernel
theorem dX3_pay_22 : decode cX3_pay 22 = .ok (.lreturn, 1) := by decide +kernel
theorem dX3_gain_0 : decode cX3_gain 0 = .ok (.aload_n 0, 1) := by decide +kernel
theorem dX3_gain_1 : decode cX3_gain 1 = .ok (.aload_n 0, 1) := by decide +kernel
theorem dX3_gain_2 : decode cX3_gain 2 = .ok (.iload_n 1, 1) := by decide +kernel
theorem dX3_gain_3 : decode cX3_gain 3 = .ok (.invokevirtual 96, 3) := by decide +kernel
theorem dX3_gain_6 : decode cX3_gain 6 = .ok (.invokevirtual 92, 3) := by decide +kernel
theorem dX3_gain_9 : decode cX3_gain 9 = .ok (.ifCond .eq 12, 3) := by decide +kernel
theorem dX3_gain_12 : decode cX3_gain 12 = .ok (.aload_n 0, 1) := by decide +kernel
theorem dX3_gain_13 : decode cX3_gain 13 = .ok (.getfield 53, 3) := by decide +kernel
theorem dX3_gain_16 : decode cX3_gain 16 = .ok (.iload_n 1, 1) := by decide +kernel
theorem dX3_gain_17 : decode cX3_gain 17 = .ok (.laload, 1) := by decide +kernel
theorem dX3_gain_18 : decode cX3_gain 18 = .ok (.goto 4, 3) := by decide +kernel
theorem dX3_gain_21 : decode cX3_gain 21 = .ok (.lconst 0, 1) := by decide +kernel
theorem dX3_gain_22 : decode cX3_gain 22 = .ok (.lreturn, 1) := by decide +kernel
theorem dX3_gainNow_0 : decode cX3_gainNow 0 = .ok (.aload_n 0, 1) := by decide +kernel
theorem dX3_gainNow_1 : decode cX3_gainNow 1 = .ok (.aload_n 0, 1) := by decide +kernel
theorem dX3_gainNow_2 : decode cX3_gainNow 2 = .ok (.iload_n 1, 1) := by decide +kernel
theorem dX3_gainNow_3 : decode cX3_gainNow 3 = .ok (.invokevirtual 96, 3) := by decide +kernel
theorem dX3_gainNow_6 : decode cX3_gainNow 6 = .ok (.invokevirtual 92, 3) := by decide +kernel
theorem dX3_gainNow_9 : decode cX3_gainNow 9 = .ok (.ifCond .ne 5, 3) := by decide +kernel
theorem dX3_gainNow_12 : decode cX3_gainNow 12 = .ok (.lconst 0, 1) := by decide +kernel
theorem dX3_gainNow_13 : decode cX3_gainNow 13 = .ok (.lreturn, 1) := by decide +kernel
theorem dX3_gainNow_14 : decode cX3_gainNow 14 = .ok (.lconst 0, 1) := by decide +kernel
theorem dX3_gainNow_15 : decode cX3_gainNow 15 = .ok (.lstore_n 2, 1) := by decide +kernel
theorem dX3_gainNow_16 : decode cX3_gainNow 16 = .ok (.bipush 10, 2) := by decide +kernel
theorem dX3_gainNow_18 : decode cX3_gainNow 18 = .ok (.iload_n 1, 1) := by decide +kernel
theorem dX3_gainNow_19 : decode cX3_gainNow 19 = .ok (.imul, 1) := by decide +kernel
theorem dX3_gainNow_20 : decode cX3_gainNow 20 = .ok (.istore 4, 2) := by decide +kernel
theorem dX3_gainNow_22 : decode cX3_gainNow 22 = .ok (.iload 4, 2) := by decide +kernel
theorem dX3_gainNow_24 : decode cX3_gainNow 24 = .ok (.bipush 10, 2) := by decide +kernel
theorem dX3_gainNow_26 : decode cX3_gainNow 26 = .ok (.iload_n 1, 1) := by decide +kernel
theorem dX3_gainNow_27 : decode cX3_gainNow 27 = .ok (.imul, 1) := by decide +kernel
theorem dX3_gainNow_28 : decode cX3_gainNow 28 = .ok (.bipush 10, 2) := by decide +kernel
theorem dX3_gainNow_30 : decode cX3_gainNow 30 = .ok (.iadd, 1) := by decide +kernel
theorem dX3_gainNow_31 : decode cX3_gainNow 31 = .ok (.if_icmp .ge 39, 3) := by decide +kernel
theorem dX3_gainNow_34 : decode cX3_gainNow 34 = .ok (.lload_n 2, 1) := by decide +kernel
theorem dX3_gainNow_35 : decode cX3_gainNow 35 = .ok (.aload_n 0, 1) := by decide +kernel
theorem dX3_gainNow_36 : decode cX3_gainNow 36 = .ok (.getfield 59, 3) := by decide +kernel
theorem dX3_gainNow_39 : decode cX3_gainNow 39 = .ok (.iload 4, 2) := by decide +kernel
theorem dX3_gainNow_41 : decode cX3_gainNow 41 = .ok (.iaload, 1) := by decide +kernel
theorem dX3_gainNow_42 : decode cX3_gainNow 42 = .ok (.ifCond .le 19, 3) := by decide +kernel
theorem dX3_gainNow_45 : decode cX3_gainNow 45 = .ok (.aload_n 0, 1) := by decide +kernel
theorem dX3_gainNow_46 : decode cX3_gainNow 46 = .ok (.iload 4, 2) := by decide +kernel
theorem dX3_gainNow_48 : decode cX3_gainNow 48 = .ok (.aload_n 0, 1) := by decide +kernel
theorem dX3_gainNow_49 : decode cX3_gainNow 49 = .ok (.getfield 59, 3) := by decide +kernel
theorem dX3_gainNow_52 : decode cX3_gainNow 52 = .ok (.iload 4, 2) := by decide +kernel
theorem dX3_gainNow_54 : decode cX3_gainNow 54 = .ok (.iaload, 1) := by decide +kernel
theorem dX3_gainNow_55 : decode cX3_gainNow 55 = .ok (.invokevirtual 119, 3) := by decide +kernel
theorem dX3_gainNow_58 : decode cX3_gainNow 58 = .ok (.goto 4, 3) := by decide +kernel
theorem dX3_gainNow_61 : decode cX3_gainNow 61 = .ok (.lconst 0, 1) := by decide +kernel
theorem dX3_gainNow_62 : decode cX3_gainNow 62 = .ok (.ladd, 1) := by decide +kernel
theorem dX3_gainNow_63 : decode cX3_gainNow 63 = .ok (.lstore_n 2, 1) := by decide +kernel
theorem dX3_gainNow_64 : decode cX3_gainNow 64 = .ok (.iinc 4 1, 3) := by decide +kernel
theorem dX3_gainNow_67 : decode cX3_gainNow 67 = .ok (.goto (-45), 3) := by decide +kernel
theorem dX3_gainNow_70 : decode cX3_gainNow 70 = .ok (.lload_n 2, 1) := by decide +kernel
theorem dX3_gainNow_71 : decode cX3_gainNow 71 = .ok (.lreturn, 1) := by decide +kernel
theorem dJ9_max_7cf53_0 : decode cJ9_max_7cf53 0 = .ok (.iload_n 0, 1) := by decide +kernel
theorem dJ9_max_7cf53_1 : decode cJ9_max_7cf53 1 = .ok (.iload_n 1, 1) := by decide +kernel
theorem dJ9_max_7cf53_2 : decode cJ9_max_7cf53 2 = .ok (.if_icmp .lt 7, 3) := by decide +kernel
theorem dJ9_max_7cf53_5 : decode cJ9_max_7cf53 5 = .ok (.iload_n 0, 1) := by decide +kernel
theorem dJ9_max_7cf53_6 : decode cJ9_max_7cf53 6 = .ok (.goto 4, 3) := by decide +kernel
theorem dJ9_max_7cf53_9 : decode cJ9_max_7cf53 9 = .ok (.iload_n 1, 1) := by decide +kernel
theorem dJ9_max_7cf53_10 : decode cJ9_max_7cf53 10 = .ok (.ireturn, 1) := by decide +kernel
theorem dJ9_min_7cf53_0 : decode cJ9_min_7cf53 0 = .ok (.iload_n 0, 1) := by decide +kernel
theorem dJ9_min_7cf53_1 : decode cJ9_min_7cf53 1 = .ok (.iload_n 1, 1) := by decide +kernel
theorem dJ9_min_7cf53_2 : decode cJ9_min_7cf53 2 = .ok (.if_icmp .gt 7, 3) := by decide +kernel
theorem dJ9_min_7cf53_5 : decode cJ9_min_7cf53 5 = .ok (.iload_n 0, 1) := by decide +kernel
theorem dJ9_min_7cf53_6 : decode cJ9_min_7cf53 6 = .ok (.goto 4, 3) := by decide +kernel
theorem dJ9_min_7cf53_9 : decode cJ9_min_7cf53 9 = .ok (.iload_n 1, 1) := by decide +kernel
theorem dJ9_min_7cf53_10 : decode cJ9_min_7cf53 10 = .ok (.ireturn, 1) := by decide +kernel
theorem dJ9_min_f86c9_0 : decode cJ9_min_f86c9 0 = .ok (.lload_n 0, 1) := by decide +kernel
theorem dJ9_min_f86c9_1 : decode cJ9_min_f86c9 1 = .ok (.lload_n 2, 1) := by decide +kernel
theorem dJ9_min_f86c9_2 : decode cJ9_min_f86c9 2 = .ok (.lcmp, 1) := by decide +kernel
theorem dJ9_min_f86c9_3 : decode cJ9_min_f86c9 3 = .ok (.ifCond .gt 7, 3) := by decide +kernel
theorem dJ9_min_f86c9_6 : decode cJ9_min_f86c9 6 = .ok (.lload_n 0, 1) := by decide +kernel
theorem dJ9_min_f86c9_7 : decode cJ9_min_f86c9 7 = .ok (.goto 4, 3) := by decide +kernel
theorem dJ9_min_f86c9_10 : decode cJ9_min_f86c9 10 = .ok (.lload_n 2, 1) := by decide +kernel
theorem dJ9_min_f86c9_11 : decode cJ9_min_f86c9 11 = .ok (.lreturn, 1) := by decide +kernel
theorem dL_next_0 : decode cL_next 0 = .ok (.aload_n 2, 1) := by decide +kernel
theorem dL_next_1 : decode cL_next 1 = .ok (.iconst 0, 1) := by decide +kernel
theorem dL_next_2 : decode cL_next 2 = .ok (.aload_n 0, 1) := by decide +kernel
theorem dL_next_3 : decode cL_next 3 = .ok (.iload_n 1, 1) := by decide +kernel
theorem dL_next_4 : decode cL_next 4 = .ok (.invokevirtual 7, 3) := by decide +kernel
theorem dL_next_7 : decode cL_next 7 = .ok (.i2l, 1) := by decide +kernel
theorem dL_next_8 : decode cL_next 8 = .ok (.lastore, 1) := by decide +kernel
theorem dL_next_9 : decode cL_next 9 = .ok (.goto 9, 3) := by decide +kernel
theorem dL_next_12 : decode cL_next 12 = .ok (.astore_n 3, 1) := by decide +kernel
theorem dL_next_13 : decode cL_next 13 = .ok (.iconst 1, 1) := by decide +kernel
theorem dL_next_14 : decode cL_next 14 = .ok (.ireturn, 1) := by decide +kernel
theorem dL_next_15 : decode cL_next 15 = .ok (.astore_n 3, 1) := by decide +kernel
theorem dL_next_16 : decode cL_next 16 = .ok (.iconst 2, 1) := by decide +kernel
theorem dL_next_17 : decode cL_next 17 = .ok (.ireturn, 1) := by decide +kernel
theorem dL_next_18 : decode cL_next 18 = .ok (.iconst 0, 1) := by decide +kernel
theorem dL_next_19 : decode cL_next 19 = .ok (.ireturn, 1) := by decide +kernel
theorem dL_ceiling_0 : decode cL_ceiling 0 = .ok (.aload_n 2, 1) := by decide +kernel
theorem dL_ceiling_1 : decode cL_ceiling 1 = .ok (.iconst 0, 1) := by decide +kernel
theorem dL_ceiling_2 : decode cL_ceiling 2 = .ok (.aload_n 0, 1) := by decide +kernel
theorem dL_ceiling_3 : decode cL_ceiling 3 = .ok (.iload_n 1, 1) := by decide +kernel
theorem dL_ceiling_4 : decode cL_ceiling 4 = .ok (.invokevirtual 17, 3) := by decide +kernel
theorem dL_ceiling_7 : decode cL_ceiling 7 = .ok (.i2l, 1) := by decide +kernel
theorem dL_ceiling_8 : decode cL_ceiling 8 = .ok (.lastore, 1) := by decide +kernel
theorem dL_ceiling_9 : decode cL_ceiling 9 = .ok (.goto 6, 3) := by decide +kernel
theorem dL_ceiling_12 : decode cL_ceiling 12 = .ok (.astore_n 3, 1) := by decide +kernel
theorem dL_ceiling_13 : decode cL_ceiling 13 = .ok (.iconst 1, 1) := by decide +kernel
theorem dL_ceiling_14 : decode cL_ceiling 14 = .ok (.ireturn, 1) := by decide +kernel
theorem dL_ceiling_15 : decode cL_ceiling 15 = .ok (.iconst 0, 1) := by decide +kernel
theorem dL_ceiling_16 : decode cL_ceiling 16 = .ok (.ireturn, 1) := by decide +kernel
theorem dL_join_0 : decode cL_join 0 = .ok (.aload_n 2, 1) := by decide +kernel
theorem dL_join_1 : decode cL_join 1 = .ok (.iconst 0, 1) := by decide +kernel
theorem dL_join_2 : decode cL_join 2 = .ok (.aload_n 0, 1) := by decide +kernel
theorem dL_join_3 : decode cL_join 3 = .ok (.iload_n 1, 1) := by decide +kernel
theorem dL_join_4 : decode cL_join 4 = .ok (.invokevirtual 20, 3) := by decide +kernel
theorem dL_join_7 : decode cL_join 7 = .ok (.i2l, 1) := by decide +kernel
theorem dL_join_8 : decode cL_join 8 = .ok (.lastore, 1) := by decide +kernel
theorem dL_join_9 : decode cL_join 9 = .ok (.goto 9, 3) := by decide +kernel
theorem dL_join_12 : decode cL_join 12 = .ok (.astore_n 3, 1) := by decide +kernel
theorem dL_join_13 : decode cL_join 13 = .ok (.iconst 1, 1) := by decide +kernel
theorem dL_join_14 : decode cL_join 14 = .ok (.ireturn, 1) := by decide +kernel
theorem dL_join_15 : decode cL_join 15 = .ok (.astore_n 3, 1) := by decide +kernel
theorem dL_join_16 : decode cL_join 16 = .ok (.iconst 2, 1) := by decide +kernel
theorem dL_join_17 : decode cL_join 17 = .ok (.ireturn, 1) := by decide +kernel
theorem dL_join_18 : decode cL_join 18 = .ok (.iconst 0, 1) := by decide +kernel
theorem dL_join_19 : decode cL_join 19 = .ok (.ireturn, 1) := by decide +kernel
theorem dL_rate_0 : decode cL_rate 0 = .ok (.aload_n 3, 1) := by decide +kernel
theorem dL_rate_1 : decode cL_rate 1 = .ok (.iconst 0, 1) := by decide +kernel
theorem dL_rate_2 : decode cL_rate 2 = .ok (.aload_n 0, 1) := by decide +kernel
theorem dL_rate_3 : decode cL_rate 3 = .ok (.iload_n 1, 1) := by decide +kernel
theorem dL_rate_4 : decode cL_rate 4 = .ok (.iload_n 2, 1) := by decide +kernel
theorem dL_rate_5 : decode cL_rate 5 = .ok (.invokevirtual 23, 3) := by decide +kernel
theorem dL_rate_8 : decode cL_rate 8 = .ok (.i2l, 1) := by decide +kernel
theorem dL_rate_9 : decode cL_rate 9 = .ok (.lastore, 1) := by decide +kernel
theorem dL_rate_10 : decode cL_rate 10 = .ok (.goto 15, 3) := by decide +kernel
theorem dL_rate_13 : decode cL_rate 13 = .ok (.astore 4, 2) := by decide +kernel
theorem dL_rate_15 : decode cL_rate 15 = .ok (.iconst 1, 1) := by decide +kernel
theorem dL_rate_16 : decode cL_rate 16 = .ok (.ireturn, 1) := by decide +kernel
theorem dL_rate_17 : decode cL_rate 17 = .ok (.astore 4, 2) := by decide +kernel
theorem dL_rate_19 : decode cL_rate 19 = .ok (.iconst 2, 1) := by decide +kernel
theorem dL_rate_20 : decode cL_rate 20 = .ok (.ireturn, 1) := by decide +kernel
theorem dL_rate_21 : decode cL_rate 21 = .ok (.astore 4, 2) := by decide +kernel
theorem dL_rate_23 : decode cL_rate 23 = .ok (.iconst 3, 1) := by decide +kernel
theorem dL_rate_24 : decode cL_rate 24 = .ok (.ireturn, 1) := by decide +kernel
theorem dL_rate_25 : decode cL_rate 25 = .ok (.iconst 0, 1) := by decide +kernel
theorem dL_rate_26 : decode cL_rate 26 = .ok (.ireturn, 1) := by decide +kernel
theorem dL_slip_0 : decode cL_slip 0 = .ok (.aload_n 3, 1) := by decide +kernel
theorem dL_slip_1 : decode cL_slip 1 = .ok (.iconst 0, 1) := by decide +kernel
theorem dL_slip_2 : decode cL_slip 2 = .ok (.aload_n 0, 1) := by decide +kernel
theorem dL_slip_3 : decode cL_slip 3 = .ok (.iload_n 1, 1) := by decide +kernel
theorem dL_slip_4 : decode cL_slip 4 = .ok (.iload_n 2, 1) := by decide +kernel
theorem dL_slip_5 : decode cL_slip 5 = .ok (.invokevirtual 29, 3) := by decide +kernel
theorem dL_slip_8 : decode cL_slip 8 = .ok (.i2l, 1) := by decide +kernel
theorem dL_slip_9 : decode cL_slip 9 = .ok (.lastore, 1) := by decide +kernel
theorem dL_slip_10 : decode cL_slip 10 = .ok (.goto 15, 3) := by decide +kernel
theorem dL_slip_13 : decode cL_slip 13 = .ok (.astore 4, 2) := by decide +kernel
theorem dL_slip_15 : decode cL_slip 15 = .ok (.iconst 1, 1) := by decide +kernel
theorem dL_slip_16 : decode cL_slip 16 = .ok (.ireturn, 1) := by decide +kernel
theorem dL_slip_17 : decode cL_slip 17 = .ok (.astore 4, 2) := by decide +kernel
theorem dL_slip_19 : decode cL_slip 19 = .ok (.iconst 2, 1) := by decide +kernel
theorem dL_slip_20 : decode cL_slip 20 = .ok (.ireturn, 1) := by decide +kernel
theorem dL_slip_21 : decode cL_slip 21 = .ok (.astore 4, 2) := by decide +kernel
theorem dL_slip_23 : decode cL_slip 23 = .ok (.iconst 3, 1) := by decide +kernel
theorem dL_slip_24 : decode cL_slip 24 = .ok (.ireturn, 1) := by decide +kernel
theorem dL_slip_25 : decode cL_slip 25 = .ok (.iconst 0, 1) := by decide +kernel
theorem dL_slip_26 : decode cL_slip 26 = .ok (.ireturn, 1) := by decide +kernel
theorem dL_leave_0 : decode cL_leave 0 = .ok (.aload_n 2, 1) := by decide +kernel
theorem dL_leave_1 : decode cL_leave 1 = .ok (.iconst 0, 1) := by decide +kernel
theorem dL_leave_2 : decode cL_leave 2 = .ok (.aload_n 0, 1) := by decide +kernel
theorem dL_leave_3 : decode cL_leave 3 = .ok (.iload_n 1, 1) := by decide +kernel
theorem dL_leave_4 : decode cL_leave 4 = .ok (.invokevirtual 32, 3) := by decide +kernel
theorem dL_leave_7 : decode cL_leave 7 = .ok (.i2l, 1) := by decide +kernel
theorem dL_leave_8 : decode cL_leave 8 = .ok (.lastore, 1) := by decide +kernel
theorem dL_leave_9 : decode cL_leave 9 = .ok (.goto 9, 3) := by decide +kernel
theorem dL_leave_12 : decode cL_leave 12 = .ok (.astore_n 3, 1) := by decide +kernel
theorem dL_leave_13 : decode cL_leave 13 = .ok (.iconst 1, 1) := by decide +kernel
theorem dL_leave_14 : decode cL_leave 14 = .ok (.ireturn, 1) := by decide +kernel
theorem dL_leave_15 : decode cL_leave 15 = .ok (.astore_n 3, 1) := by decide +kernel
theorem dL_leave_16 : decode cL_leave 16 = .ok (.iconst 2, 1) := by decide +kernel
theorem dL_leave_17 : decode cL_leave 17 = .ok (.ireturn, 1) := by decide +kernel
theorem dL_leave_18 : decode cL_leave 18 = .ok (.iconst 0, 1) := by decide +kernel
theorem dL_leave_19 : decode cL_leave 19 = .ok (.ireturn, 1) := by decide +kernel
theorem dL_money_0 : decode cL_money 0 = .ok (.aload_n 2, 1) := by decide +kernel
theorem dL_money_1 : decode cL_money 1 = .ok (.iconst 0, 1) := by decide +kernel
theorem dL_money_2 : decode cL_money 2 = .ok (.aload_n 0, 1) := by decide +kernel
theorem dL_money_3 : decode cL_money 3 = .ok (.iload_n 1, 1) := by decide +kernel
theorem dL_money_4 : decode cL_money 4 = .ok (.invokevirtual 35, 3) := by decide +kernel
theorem dL_money_7 : decode cL_money 7 = .ok (.i2l, 1) := by decide +kernel
theorem dL_money_8 : decode cL_money 8 = .ok (.lastore, 1) := by decide +kernel
theorem dL_money_9 : decode cL_money 9 = .ok (.goto 6, 3) := by decide +kernel
theorem dL_money_12 : decode cL_money 12 = .ok (.astore_n 3, 1) := by decide +kernel
theorem dL_money_13 : decode cL_money 13 = .ok (.iconst 1, 1) := by decide +kernel
theorem dL_money_14 : decode cL_money 14 = .ok (.ireturn, 1) := by decide +kernel
theorem dL_money_15 : decode cL_money 15 = .ok (.iconst 0, 1) := by decide +kernel
theorem dL_money_16 : decode cL_money 16 = .ok (.ireturn, 1) := by decide +kernel
theorem dL_offerMonth_0 : decode cL_offerMonth 0 = .ok (.aload_n 2, 1) := by decide +kernel
theorem dL_offerMonth_1 : decode cL_offerMonth 1 = .ok (.iconst 0, 1) := by decide +kernel
theorem dL_offerMonth_2 : decode cL_offerMonth 2 = .ok (.aload_n 0, 1) := by decide +kernel
theorem dL_offerMonth_3 : decode cL_offerMonth 3 = .ok (.iload_n 1, 1) := by decide +kernel
theorem dL_offerMonth_4 : decode cL_offerMonth 4 = .ok (.invokevirtual 38, 3) := by decide +kernel
theorem dL_offerMonth_7 : decode cL_offerMonth 7 = .ok (.i2l, 1) := by decide +kernel
theorem dL_offerMonth_8 : decode cL_offerMonth 8 = .ok (.lastore, 1) := by decide +kernel
theorem dL_offerMonth_9 : decode cL_offerMonth 9 = .ok (.goto 6, 3) := by decide +kernel
theorem dL_offerMonth_12 : decode cL_offerMonth 12 = .ok (.astore_n 3, 1) := by decide +kernel
theorem dL_offerMonth_13 : decode cL_offerMonth 13 = .ok (.iconst 1, 1) := by decide +kernel
theorem dL_offerMonth_14 : decode cL_offerMonth 14 = .ok (.ireturn, 1) := by decide +kernel
theorem dL_offerMonth_15 : decode cL_offerMonth 15 = .ok (.iconst 0, 1) := by decide +kernel
theorem dL_offerMonth_16 : decode cL_offerMonth 16 = .ok (.ireturn, 1) := by decide +kernel
theorem dL_offerPrice_0 : decode cL_offerPrice 0 = .ok (.aload_n 2, 1) := by decide +kernel
theorem dL_offerPrice_1 : decode cL_offerPrice 1 = .ok (.iconst 0, 1) := by decide +kernel
theorem dL_offerPrice_2 : decode cL_offerPrice 2 = .ok (.aload_n 0, 1) := by decide +kernel
theorem dL_offerPrice_3 : decode cL_offerPrice 3 = .ok (.iload_n 1, 1) := by decide +kernel
theorem dL_offerPrice_4 : decode cL_offerPrice 4 = .ok (.invokevirtual 41, 3) := by decide +kernel
theorem dL_offerPrice_7 : decode cL_offerPrice 7 = .ok (.i2l, 1) := by decide +kernel
theorem dL_offerPrice_8 : decode cL_offerPrice 8 = .ok (.lastore, 1) := by decide +kernel
theorem dL_offerPrice_9 : decode cL_offerPrice 9 = .ok (.goto 6, 3) := by decide +kernel
theorem dL_offerPrice_12 : decode cL_offerPrice 12 = .ok (.astore_n 3, 1) := by decide +kernel
theorem dL_offerPrice_13 : decode cL_offerPrice 13 = .ok (.iconst 1, 1) := by decide +kernel
theorem dL_offerPrice_14 : decode cL_offerPrice 14 = .ok (.ireturn, 1) := by decide +kernel
theorem dL_offerPrice_15 : decode cL_offerPrice 15 = .ok (.iconst 0, 1) := by decide +kernel
theorem dL_offerPrice_16 : decode cL_offerPrice 16 = .ok (.ireturn, 1) := by decide +kernel
theorem dL_resets_0 : decode cL_resets 0 = .ok (.aload_n 2, 1) := by decide +kernel
theorem dL_resets_1 : decode cL_resets 1 = .ok (.iconst 0, 1) := by decide +kernel
theorem dL_resets_2 : decode cL_resets 2 = .ok (.aload_n 0, 1) := by decide +kernel
theorem dL_resets_3 : decode cL_resets 3 = .ok (.iload_n 1, 1) := by decide +kernel
theorem dL_resets_4 : decode cL_resets 4 = .ok (.invokevirtual 44, 3) := by decide +kernel
theorem dL_resets_7 : decode cL_resets 7 = .ok (.i2l, 1) := by decide +kernel
theorem dL_resets_8 : decode cL_resets 8 = .ok (.lastore, 1) := by decide +kernel
theorem dL_resets_9 : decode cL_resets 9 = .ok (.goto 6, 3) := by decide +kernel
theorem dL_resets_12 : decode cL_resets 12 = .ok (.astore_n 3, 1) := by decide +kernel
theorem dL_resets_13 : decode cL_resets 13 = .ok (.iconst 1, 1) := by decide +kernel
theorem dL_resets_14 : decode cL_resets 14 = .ok (.ireturn, 1) := by decide +kernel
theorem dL_resets_15 : decode cL_resets 15 = .ok (.iconst 0, 1) := by decide +kernel
theorem dL_resets_16 : decode cL_resets 16 = .ok (.ireturn, 1) := by decide +kernel
theorem dL_shares_0 : decode cL_shares 0 = .ok (.aload_n 2, 1) := by decide +kernel
theorem dL_shares_1 : decode cL_shares 1 = .ok (.iconst 0, 1) := by decide +kernel
theorem dL_shares_2 : decode cL_shares 2 = .ok (.aload_n 0, 1) := by decide +kernel
theorem dL_shares_3 : decode cL_shares 3 = .ok (.iload_n 1, 1) := by decide +kernel
theorem dL_shares_4 : decode cL_shares 4 = .ok (.invokevirtual 47, 3) := by decide +kernel
theorem dL_shares_7 : decode cL_shares 7 = .ok (.i2l, 1) := by decide +kernel
theorem dL_shares_8 : decode cL_shares 8 = .ok (.lastore, 1) := by decide +kernel
theorem dL_shares_9 : decode cL_shares 9 = .ok (.goto 6, 3) := by decide +kernel
theorem dL_shares_12 : decode cL_shares 12 = .ok (.astore_n 3, 1) := by decide +kernel
theorem dL_shares_13 : decode cL_shares 13 = .ok (.iconst 1, 1) := by decide +kernel
theorem dL_shares_14 : decode cL_shares 14 = .ok (.ireturn, 1) := by decide +kernel
theorem dL_shares_15 : decode cL_shares 15 = .ok (.iconst 0, 1) := by decide +kernel
theorem dL_shares_16 : decode cL_shares 16 = .ok (.ireturn, 1) := by decide +kernel
theorem dL_bought_0 : decode cL_bought 0 = .ok (.aload_n 3, 1) := by decide +kernel
theorem dL_bought_1 : decode cL_bought 1 = .ok (.iconst 0, 1) := by decide +kernel
theorem dL_bought_2 : decode cL_bought 2 = .ok (.aload_n 0, 1) := by decide +kernel
theorem dL_bought_3 : decode cL_bought 3 = .ok (.iload_n 1, 1) := by decide +kernel
theorem dL_bought_4 : decode cL_bought 4 = .ok (.iload_n 2, 1) := by decide +kernel
theorem dL_bought_5 : decode cL_bought 5 = .ok (.invokevirtual 50, 3) := by decide +kernel
theorem dL_bought_8 : decode cL_bought 8 = .ok (.i2l, 1) := by decide +kernel
theorem dL_bought_9 : decode cL_bought 9 = .ok (.lastore, 1) := by decide +kernel
theorem dL_bought_10 : decode cL_bought 10 = .ok (.goto 7, 3) := by decide +kernel
theorem dL_bought_13 : decode cL_bought 13 = .ok (.astore 4, 2) := by decide +kernel
theorem dL_bought_15 : decode cL_bought 15 = .ok (.iconst 1, 1) := by decide +kernel
theorem dL_bought_16 : decode cL_bought 16 = .ok (.ireturn, 1) := by decide +kernel
theorem dL_bought_17 : decode cL_bought 17 = .ok (.iconst 0, 1) := by decide +kernel
theorem dL_bought_18 : decode cL_bought 18 = .ok (.ireturn, 1) := by decide +kernel
theorem dL_paidEach_0 : decode cL_paidEach 0 = .ok (.aload_n 3, 1) := by decide +kernel
theorem dL_paidEach_1 : decode cL_paidEach 1 = .ok (.iconst 0, 1) := by decide +kernel
theorem dL_paidEach_2 : decode cL_paidEach 2 = .ok (.aload_n 0, 1) := by decide +kernel
theorem dL_paidEach_3 : decode cL_paidEach 3 = .ok (.iload_n 1, 1) := by decide +kernel
theorem dL_paidEach_4 : decode cL_paidEach 4 = .ok (.iload_n 2, 1) := by decide +kernel
theorem dL_paidEach_5 : decode cL_paidEach 5 = .ok (.invokevirtual 53, 3) := by decide +kernel
theorem dL_paidEach_8 : decode cL_paidEach 8 = .ok (.i2l, 1) := by decide +kernel
theorem dL_paidEach_9 : decode cL_paidEach 9 = .ok (.lastore, 1) := by decide +kernel
theorem dL_paidEach_10 : decode cL_paidEach 10 = .ok (.goto 7, 3) := by decide +kernel
theorem dL_paidEach_13 : decode cL_paidEach 13 = .ok (.astore 4, 2) := by decide +kernel
theorem dL_paidEach_15 : decode cL_paidEach 15 = .ok (.iconst 1, 1) := by decide +kernel
theorem dL_paidEach_16 : decode cL_paidEach 16 = .ok (.ireturn, 1) := by decide +kernel
theorem dL_paidEach_17 : decode cL_paidEach 17 = .ok (.iconst 0, 1) := by decide +kernel
theorem dL_paidEach_18 : decode cL_paidEach 18 = .ok (.ireturn, 1) := by decide +kernel
theorem dL_counted_0 : decode cL_counted 0 = .ok (.aload_n 3, 1) := by decide +kernel
theorem dL_counted_1 : decode cL_counted 1 = .ok (.iconst 0, 1) := by decide +kernel
theorem dL_counted_2 : decode cL_counted 2 = .ok (.aload_n 0, 1) := by decide +kernel
theorem dL_counted_3 : decode cL_counted 3 = .ok (.iload_n 1, 1) := by decide +kernel
theorem dL_counted_4 : decode cL_counted 4 = .ok (.iload_n 2, 1) := by decide +kernel
theorem dL_counted_5 : decode cL_counted 5 = .ok (.invokevirtual 56, 3) := by decide +kernel
theorem dL_counted_8 : decode cL_counted 8 = .ok (.lastore, 1) := by decide +kernel
theorem dL_counted_9 : decode cL_counted 9 = .ok (.goto 7, 3) := by decide +kernel
theorem dL_counted_12 : decode cL_counted 12 = .ok (.astore 4, 2) := by decide +kernel
theorem dL_counted_14 : decode cL_counted 14 = .ok (.iconst 1, 1) := by decide +kernel
theorem dL_counted_15 : decode cL_counted 15 = .ok (.ireturn, 1) := by decide +kernel
theorem dL_counted_16 : decode cL_counted 16 = .ok (.iconst 0, 1) := by decide +kernel
theorem dL_counted_17 : decode cL_counted 17 = .ok (.ireturn, 1) := by decide +kernel
theorem dL_traced_0 : decode cL_traced 0 = .ok (.aload_n 2, 1) := by decide +kernel
theorem dL_traced_1 : decode cL_traced 1 = .ok (.iconst 0, 1) := by decide +kernel
theorem dL_traced_2 : decode cL_traced 2 = .ok (.aload_n 0, 1) := by decide +kernel
theorem dL_traced_3 : decode cL_traced 3 = .ok (.iload_n 1, 1) := by decide +kernel
theorem dL_traced_4 : decode cL_traced 4 = .ok (.invokevirtual 60, 3) := by decide +kernel
theorem dL_traced_7 : decode cL_traced 7 = .ok (.lastore, 1) := by decide +kernel
theorem dL_traced_8 : decode cL_traced 8 = .ok (.goto 6, 3) := by decide +kernel
theorem dL_traced_11 : decode cL_traced 11 = .ok (.astore_n 3, 1) := by decide +kernel
theorem dL_traced_12 : decode cL_traced 12 = .ok (.iconst 1, 1) := by decide +kernel
theorem dL_traced_13 : decode cL_traced 13 = .ok (.ireturn, 1) := by decide +kernel
theorem dL_traced_14 : decode cL_traced 14 = .ok (.iconst 0, 1) := by decide +kernel
theorem dL_traced_15 : decode cL_traced 15 = .ok (.ireturn, 1) := by decide +kernel
theorem dL_kept_0 : decode cL_kept 0 = .ok (.aload_n 2, 1) := by decide +kernel
theorem dL_kept_1 : decode cL_kept 1 = .ok (.iconst 0, 1) := by decide +kernel
theorem dL_kept_2 : decode cL_kept 2 = .ok (.aload_n 0, 1) := by decide +kernel
theorem dL_kept_3 : decode cL_kept 3 = .ok (.iload_n 1, 1) := by decide +kernel
theorem dL_kept_4 : decode cL_kept 4 = .ok (.invokevirtual 64, 3) := by decide +kernel
theorem dL_kept_7 : decode cL_kept 7 = .ok (.lastore, 1) := by decide +kernel
theorem dL_kept_8 : decode cL_kept 8 = .ok (.goto 6, 3) := by decide +kernel
theorem dL_kept_11 : decode cL_kept 11 = .ok (.astore_n 3, 1) := by decide +kernel
theorem dL_kept_12 : decode cL_kept 12 = .ok (.iconst 1, 1) := by decide +kernel
theorem dL_kept_13 : decode cL_kept 13 = .ok (.ireturn, 1) := by decide +kernel
theorem dL_kept_14 : decode cL_kept 14 = .ok (.iconst 0, 1) := by decide +kernel
theorem dL_kept_15 : decode cL_kept 15 = .ok (.ireturn, 1) := by decide +kernel
theorem dL_sell_0 : decode cL_sell 0 = .ok (.aload_n 3, 1) := by decide +kernel
theorem dL_sell_1 : decode cL_sell 1 = .ok (.iconst 0, 1) := by decide +kernel
theorem dL_sell_2 : decode cL_sell 2 = .ok (.aload_n 0, 1) := by decide +kernel
theorem dL_sell_3 : decode cL_sell 3 = .ok (.iload_n 1, 1) := by decide +kernel
theorem dL_sell_4 : decode cL_sell 4 = .ok (.iload_n 2, 1) := by decide +kernel
theorem dL_sell_5 : decode cL_sell 5 = .ok (.invokevirtual 67, 3) := by decide +kernel
theorem dL_sell_8 : decode cL_sell 8 = .ok (.i2l, 1) := by decide +kernel
theorem dL_sell_9 : decode cL_sell 9 = .ok (.lastore, 1) := by decide +kernel
theorem dL_sell_10 : decode cL_sell 10 = .ok (.goto 15, 3) := by decide +kernel
theorem dL_sell_13 : decode cL_sell 13 = .ok (.astore 4, 2) := by decide +kernel
theorem dL_sell_15 : decode cL_sell 15 = .ok (.iconst 1, 1) := by decide +kernel
theorem dL_sell_16 : decode cL_sell 16 = .ok (.ireturn, 1) := by decide +kernel
theorem dL_sell_17 : decode cL_sell 17 = .ok (.astore 4, 2) := by decide +kernel
theorem dL_sell_19 : decode cL_sell 19 = .ok (.iconst 2, 1) := by decide +kernel
theorem dL_sell_20 : decode cL_sell 20 = .ok (.ireturn, 1) := by decide +kernel
theorem dL_sell_21 : decode cL_sell 21 = .ok (.astore 4, 2) := by decide +kernel
theorem dL_sell_23 : decode cL_sell 23 = .ok (.iconst 3, 1) := by decide +kernel
theorem dL_sell_24 : decode cL_sell 24 = .ok (.ireturn, 1) := by decide +kernel
theorem dL_sell_25 : decode cL_sell 25 = .ok (.iconst 0, 1) := by decide +kernel
theorem dL_sell_26 : decode cL_sell 26 = .ok (.ireturn, 1) := by decide +kernel
theorem dL_pay_0 : decode cL_pay 0 = .ok (.aload_n 2, 1) := by decide +kernel
theorem dL_pay_1 : decode cL_pay 1 = .ok (.iconst 0, 1) := by decide +kernel
theorem dL_pay_2 : decode cL_pay 2 = .ok (.aload_n 0, 1) := by decide +kernel
theorem dL_pay_3 : decode cL_pay 3 = .ok (.iload_n 1, 1) := by decide +kernel
theorem dL_pay_4 : decode cL_pay 4 = .ok (.invokevirtual 70, 3) := by decide +kernel
theorem dL_pay_7 : decode cL_pay 7 = .ok (.lastore, 1) := by decide +kernel
theorem dL_pay_8 : decode cL_pay 8 = .ok (.goto 6, 3) := by decide +kernel
theorem dL_pay_11 : decode cL_pay 11 = .ok (.astore_n 3, 1) := by decide +kernel
theorem dL_pay_12 : decode cL_pay 12 = .ok (.iconst 1, 1) := by decide +kernel
theorem dL_pay_13 : decode cL_pay 13 = .ok (.ireturn, 1) := by decide +kernel
theorem dL_pay_14 : decode cL_pay 14 = .ok (.iconst 0, 1) := by decide +kernel
theorem dL_pay_15 : decode cL_pay 15 = .ok (.ireturn, 1) := by decide +kernel
theorem dL_gain_0 : decode cL_gain 0 = .ok (.aload_n 2, 1) := by decide +kernel
theorem dL_gain_1 : decode cL_gain 1 = .ok (.iconst 0, 1) := by decide +kernel
theorem dL_gain_2 : decode cL_gain 2 = .ok (.aload_n 0, 1) := by decide +kernel
theorem dL_gain_3 : decode cL_gain 3 = .ok (.iload_n 1, 1) := by decide +kernel
theorem dL_gain_4 : decode cL_gain 4 = .ok (.invokevirtual 73, 3) := by decide +kernel
theorem dL_gain_7 : decode cL_gain 7 = .ok (.lastore, 1) := by decide +kernel
theorem dL_gain_8 : decode cL_gain 8 = .ok (.goto 6, 3) := by decide +kernel
theorem dL_gain_11 : decode cL_gain 11 = .ok (.astore_n 3, 1) := by decide +kernel
theorem dL_gain_12 : decode cL_gain 12 = .ok (.iconst 1, 1) := by decide +kernel
theorem dL_gain_13 : decode cL_gain 13 = .ok (.ireturn, 1) := by decide +kernel
theorem dL_gain_14 : decode cL_gain 14 = .ok (.iconst 0, 1) := by decide +kernel
theorem dL_gain_15 : decode cL_gain 15 = .ok (.ireturn, 1) := by decide +kernel
theorem dL_gainNow_0 : decode cL_gainNow 0 = .ok (.aload_n 2, 1) := by decide +kernel
theorem dL_gainNow_1 : decode cL_gainNow 1 = .ok (.iconst 0, 1) := by decide +kernel
theorem dL_gainNow_2 : decode cL_gainNow 2 = .ok (.aload_n 0, 1) := by decide +kernel
theorem dL_gainNow_3 : decode cL_gainNow 3 = .ok (.iload_n 1, 1) := by decide +kernel
theorem dL_gainNow_4 : decode cL_gainNow 4 = .ok (.invokevirtual 76, 3) := by decide +kernel
theorem dL_gainNow_7 : decode cL_gainNow 7 = .ok (.lastore, 1) := by decide +kernel
theorem dL_gainNow_8 : decode cL_gainNow 8 = .ok (.goto 6, 3) := by decide +kernel
theorem dL_gainNow_11 : decode cL_gainNow 11 = .ok (.astore_n 3, 1) := by decide +kernel
theorem dL_gainNow_12 : decode cL_gainNow 12 = .ok (.iconst 1, 1) := by decide +kernel
theorem dL_gainNow_13 : decode cL_gainNow 13 = .ok (.ireturn, 1) := by decide +kernel
theorem dL_gainNow_14 : decode cL_gainNow 14 = .ok (.iconst 0, 1) := by decide +kernel
theorem dL_gainNow_15 : decode cL_gainNow 15 = .ok (.ireturn, 1) := by decide +kernel
