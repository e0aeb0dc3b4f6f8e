set_option maxRecDepth 20000 in
theorem ggX0_payEach_X0_isEarly : GoodIn wsX0_payEach wsX0_isEarly := goodIn_r _ [15, 16, 17, 18, 19, 20, 21, 22, 23, 24] (by decide +kernel) (by decide +kernel)
set_option maxRecDepth 20000 in
theorem gX0_payEach_X0_isEarly : GoodIn wsX0_payEach (wsV RX0 33 RX0 yX0_isEarly wsX0_isEarly) := goodIn_app (goodIn_of _ (by decide +kernel)) ggX0_payEach_X0_isEarly
set_option maxRecDepth 20000 in
theorem ggX0_gainEach_X0_payEach : GoodIn wsX0_gainEach wsX0_payEach := goodIn_r _ [6, 7, 1, 8, 9, 10, 11, 12, 13, 14, 15, 16, 17, 18, 5, 19, 20, 21, 22, 23, 24, 25, 26, 27, 28] (by decide +kernel) (by decide +kernel)
set_option maxRecDepth 20000 in
theorem gX0_gainEach_X0_payEach : GoodIn wsX0_gainEach (wsV RX0 46 RX0 yX0_payEach wsX0_payEach) := goodIn_app (goodIn_of _ (by decide +kernel)) ggX0_gainEach_X0_payEach
set_option maxRecDepth 20000 in
theorem ggX1_buyShares_X1_purchasePrice : GoodIn wsX1_buyShares wsX1_purchasePrice := goodIn_r _ [19] (by decide +kernel) (by decide +kernel)
set_option maxRecDepth 20000 in
theorem gX1_buyShares_X1_purchasePrice : GoodIn wsX1_buyShares (va_wsS RX1 51 yX1_purchasePrice wsX1_purchasePrice) := goodIn_app (goodIn_of _ (by decide +kernel)) ggX1_buyShares_X1_purchasePrice
set_option maxRecDepth 20000 in
theorem ggX1_buyShares_X1_wholeTimes : GoodIn wsX1_buyShares wsX1_wholeTimes := goodIn_r _ [22] (by decide +kernel) (by decide +kernel)
set_option maxRecDepth 20000 in
theorem gX1_buyShares_X1_wholeTimes : GoodIn wsX1_buyShares (va_wsS RX1 55 yX1_wholeTimes wsX1_wholeTimes) := goodIn_app (goodIn_of _ (by decide +kernel)) ggX1_buyShares_X1_wholeTimes
set_option maxRecDepth 20000 in
theorem ggX1_buyShares_X1_countedIn : GoodIn wsX1_buyShares wsX1_countedIn := goodIn_r _ [26, 27, 54, 55, 56, 57, 58, 59, 60, 61, 62, 63, 64, 65, 66, 67] (by decide +kernel) (by decide +kernel)
set_option maxRecDepth 20000 in
theorem gX1_buyShares_X1_countedIn : GoodIn wsX1_buyShares (wsV RX1 59 RX1 yX1_countedIn wsX1_countedIn) := goodIn_app (goodIn_of _ (by decide +kernel)) ggX1_buyShares_X1_countedIn
set_option maxRecDepth 20000 in
theorem ggX1_buyShares_X0_init : GoodIn wsX1_buyShares wsX0_init := goodIn_r _ [29, 30, 31, 32, 33, 34, 35, 36, 37, 38, 39, 68, 69, 70, 71, 72, 73, 74] (by decide +kernel) (by decide +kernel)
set_option maxRecDepth 20000 in
theorem gX1_buyShares_X0_init_n65 : GoodIn wsX1_buyShares (wsX0_init) := ggX1_buyShares_X0_init
set_option maxRecDepth 20000 in
theorem ggX1_buyShares_X1_putLot : GoodIn wsX1_buyShares wsX1_putLot := goodIn_r _ [43, 44, 68, 69, 70, 71, 72, 73, 74, 54, 55, 56, 57, 58, 59, 60, 61, 62, 63, 64, 65, 66, 67] (by decide +kernel) (by decide +kernel)
set_option maxRecDepth 20000 in
theorem gX1_buyShares_X1_putLot : GoodIn wsX1_buyShares (wsV RX1 68 RX1 yX1_putLot wsX1_putLot) := goodIn_app (goodIn_of _ (by decide +kernel)) ggX1_buyShares_X1_putLot
set_option maxRecDepth 20000 in
theorem ggX1_buyShares_X1_addCounted : GoodIn wsX1_buyShares wsX1_addCounted := goodIn_r _ [48, 27, 54, 55, 56, 57, 58, 59, 60, 61, 62, 63, 64, 65, 66, 67] (by decide +kernel) (by decide +kernel)
set_option maxRecDepth 20000 in
theorem gX1_buyShares_X1_addCounted : GoodIn wsX1_buyShares (wsV RX1 72 RX1 yX1_addCounted wsX1_addCounted) := goodIn_app (goodIn_of _ (by decide +kernel)) ggX1_buyShares_X1_addCounted
set_option maxRecDepth 20000 in
theorem ggX1_buyShares_X1_renewOffer : GoodIn wsX1_buyShares wsX1_renewOffer := goodIn_r _ [52, 1, 53, 15, 13, 54, 55, 56, 57, 58, 59, 60, 61, 62, 63, 64, 65, 66, 67] (by decide +kernel) (by decide +kernel)
set_option maxRecDepth 20000 in
theorem gX1_buyShares_X1_renewOffer : GoodIn wsX1_buyShares (wsV RX1 82 RX1 yX1_renewOffer wsX1_renewOffer) := goodIn_app (goodIn_of _ (by decide +kernel)) ggX1_buyShares_X1_renewOffer
set_option maxRecDepth 20000 in
theorem ggX1_lotOf_X2_isPurchaseMonth : GoodIn wsX1_lotOf wsX2_isPurchaseMonth := goodIn_r _ [4] (by decide +kernel) (by decide +kernel)
set_option maxRecDepth 20000 in
theorem gX1_lotOf_X2_isPurchaseMonth_n89 : GoodIn wsX1_lotOf (wsX2_isPurchaseMonth) := ggX1_lotOf_X2_isPurchaseMonth
set_option maxRecDepth 20000 in
theorem ggX1_sellOldest_X0_payEach : GoodIn wsX1_sellOldest wsX0_payEach := goodIn_r _ [11, 12, 13, 14, 15, 3, 4, 5, 16, 17, 18, 19, 20, 21, 9, 22, 23, 24, 43, 44, 45, 46, 47, 48, 49] (by decide +kernel) (by decide +kernel)
set_option maxRecDepth 20000 in
theorem gX1_sellOldest_X0_payEach_n102 : GoodIn wsX1_sellOldest (wsX0_payEach) := ggX1_sellOldest_X0_payEach
set_option maxRecDepth 20000 in
theorem ggX1_sellOldest_X0_gainEach : GoodIn wsX1_sellOldest wsX0_gainEach := goodIn_r _ [27, 13, 28, 8, 10, 9, 11, 12, 14, 15, 3, 4, 5, 16, 17, 18, 19, 20, 21, 22, 23, 24, 43, 44, 45, 46, 47, 48, 49] (by decide +kernel) (by decide +kernel)
set_option maxRecDepth 20000 in
theorem gX1_sellOldest_X0_gainEach_n109 : GoodIn wsX1_sellOldest (wsX0_gainEach) := ggX1_sellOldest_X0_gainEach
set_option maxRecDepth 20000 in
theorem ggX1_sellOldest_X0_isEarly : GoodIn wsX1_sellOldest wsX0_isEarly := goodIn_r _ [22, 23, 24, 43, 44, 45, 46, 47, 48, 49] (by decide +kernel) (by decide +kernel)
set_option maxRecDepth 20000 in
theorem gX1_sellOldest_X0_isEarly_n112 : GoodIn wsX1_sellOldest (wsX0_isEarly) := ggX1_sellOldest_X0_isEarly
set_option maxRecDepth 20000 in
theorem ggX1_gainIfAllSold_X0_gainEach : GoodIn wsX1_gainIfAllSold wsX0_gainEach := goodIn_r _ [5, 6, 7, 8, 9, 3, 10, 11, 12, 13, 14, 15, 16, 17, 18, 19, 20, 21, 22, 23, 24, 25, 40, 41, 42, 43, 44, 45, 46] (by decide +kernel) (by decide +kernel)
set_option maxRecDepth 20000 in
theorem gX1_gainIfAllSold_X0_gainEach_n109 : GoodIn wsX1_gainIfAllSold (wsX0_gainEach) := ggX1_gainIfAllSold_X0_gainEach
set_option maxRecDepth 20000 in
theorem ggX2_next_X2_isPurchaseMonth : GoodIn wsX2_next wsX2_isPurchaseMonth := goodIn_r _ [11] (by decide +kernel) (by decide +kernel)
set_option maxRecDepth 20000 in
theorem gX2_next_X2_isPurchaseMonth : GoodIn wsX2_next (va_wsS RX2 42 yX2_isPurchaseMonth wsX2_isPurchaseMonth) := goodIn_app (goodIn_of _ (by decide +kernel)) ggX2_next_X2_isPurchaseMonth
set_option maxRecDepth 20000 in
theorem ggX2_next_X2_buyForAll : GoodIn wsX2_next wsX2_buyForAll := goodIn_r _ [15, 16, 6, 7, 17, 18, 19, 20, 21, 22, 23, 24, 25, 26, 27, 28, 29, 30, 31, 32, 33, 34, 35, 36, 37, 38, 39, 40, 41, 42, 43, 44, 45, 46, 47, 48, 49, 50, 51, 52, 53, 54, 55, 56, 57, 58, 59, 60, 61, 62, 63, 64, 65, 66, 67, 68, 69, 70, 71, 72, 73, 74, 75, 76, 77, 78, 79, 80, 81, 82, 83, 84, 85, 86, 87, 88, 89, 90, 91, 92, 93, 94, 95, 96, 97, 98, 99] (by decide +kernel) (by decide +kernel)
set_option maxRecDepth 20000 in
theorem gX2_next_X2_buyForAll : GoodIn wsX2_next (wsV RX2 46 RX2 yX2_buyForAll wsX2_buyForAll) := goodIn_app (goodIn_of _ (by decide +kernel)) ggX2_next_X2_buyForAll
set_option maxRecDepth 20000 in
theorem ggX2_join_X2_refuseBadRate : GoodIn wsX2_join wsX2_refuseBadRate := goodIn_ca (goodIn_r _ [13, 14, 15] (by decide +kernel) (by decide +kernel)) (goodIn_sub (fun _ h => List.mem_cons_of_mem _ (List.mem_append_right _ h)) (by decide +kernel))
set_option maxRecDepth 20000 in
theorem gX2_join_X2_refuseBadRate : GoodIn wsX2_join (va_wsS RX2 52 yX2_refuseBadRate wsX2_refuseBadRate) := goodIn_app (goodIn_of _ (by decide +kernel)) ggX2_join_X2_refuseBadRate
set_option maxRecDepth 20000 in
theorem ggX2_join_X1_init : GoodIn wsX2_join wsX1_init := goodIn_r _ [17, 18, 19, 20, 21, 22, 23, 24, 25, 26, 27, 33, 34, 35, 36, 37, 38, 39, 40, 41, 42, 43, 44, 45, 46] (by decide +kernel) (by decide +kernel)
set_option maxRecDepth 20000 in
theorem gX2_join_X1_init_n60 : GoodIn wsX2_join (wsX1_init) := ggX2_join_X1_init
set_option maxRecDepth 20000 in
theorem ggX2_rate_X2_memberOrThrow : GoodIn wsX2_rate wsX2_memberOrThrow := goodIn_ca (goodIn_r _ [5, 6, 7, 8, 33, 34, 35, 36, 37] (by decide +kernel) (by decide +kernel)) (goodIn_sub (fun _ h => List.mem_cons_of_mem _ (List.mem_append_left _ (List.mem_append_left _ (List.mem_append_right _ h)))) (by decide +kernel))
set_option maxRecDepth 20000 in
theorem gX2_rate_X2_memberOrThrow : GoodIn wsX2_rate (wsV RX2 63 RX2 yX2_memberOrThrow wsX2_memberOrThrow) := goodIn_app (goodIn_of _ (by decide +kernel)) ggX2_rate_X2_memberOrThrow
set_option maxRecDepth 20000 in
theorem ggX2_rate_X2_refuseBadRate : GoodIn wsX2_rate wsX2_refuseBadRate := goodIn_ca (goodIn_r _ [11, 12, 13] (by decide +kernel) (by decide +kernel)) (goodIn_sub (fun _ h => List.mem_cons_of_mem _ (List.mem_append_left _ (List.mem_append_right _ h))) (by decide +kernel))
set_option maxRecDepth 20000 in
theorem gX2_rate_X2_refuseBadRate : GoodIn wsX2_rate (va_wsS RX2 52 yX2_refuseBadRate wsX2_refuseBadRate) := goodIn_app (goodIn_of _ (by decide +kernel)) ggX2_rate_X2_refuseBadRate
set_option maxRecDepth 20000 in
theorem ggX2_rate_X2_refuseLeft : GoodIn wsX2_rate wsX2_refuseLeft := goodIn_ca (goodIn_r _ [16, 17, 18, 19, 20, 21, 22, 23, 24, 25, 26, 27, 28, 29, 30, 31, 32] (by decide +kernel) (by decide +kernel)) (goodIn_sub (fun _ h => List.mem_cons_of_mem _ (List.mem_append_right _ h)) (by decide +kernel))
set_option maxRecDepth 20000 in
theorem gX2_rate_X2_refuseLeft : GoodIn wsX2_rate (va_wsS RX2 67 yX2_refuseLeft wsX2_refuseLeft) := goodIn_app (goodIn_of _ (by decide +kernel)) ggX2_rate_X2_refuseLeft
set_option maxRecDepth 20000 in
theorem ggX2_slip_X2_memberOrThrow : GoodIn wsX2_slip wsX2_memberOrThrow := goodIn_ca (goodIn_r _ [8, 9, 10, 11, 24, 25, 26, 27, 28] (by decide +kernel) (by decide +kernel)) (goodIn_sub (fun _ h => List.mem_cons_of_mem _ (List.mem_append_left _ (List.mem_append_right _ h))) (by decide +kernel))
set_option maxRecDepth 20000 in
theorem gX2_slip_X2_memberOrThrow : GoodIn wsX2_slip (wsV RX2 63 RX2 yX2_memberOrThrow wsX2_memberOrThrow) := goodIn_app (goodIn_of _ (by decide +kernel)) ggX2_slip_X2_memberOrThrow
set_option maxRecDepth 20000 in
theorem ggX2_slip_X2_refuseLeft : GoodIn wsX2_slip wsX2_refuseLeft := goodIn_ca (goodIn_r _ [14, 15, 16, 29, 30, 31, 32, 33, 34, 35, 36, 37, 38, 39, 40, 41, 42] (by decide +kernel) (by decide +kernel)) (goodIn_sub (fun _ h => List.mem_cons_of_mem _ (List.mem_append_right _ h)) (by decide +kernel))
set_option maxRecDepth 20000 in
theorem gX2_slip_X2_refuseLeft : GoodIn wsX2_slip (va_wsS RX2 67 yX2_refuseLeft wsX2_refuseLeft) := goodIn_app (goodIn_of _ (by decide +kernel)) ggX2_slip_X2_refuseLeft
set_option maxRecDepth 20000 in
theorem ggX2_slip_X1_takeSlip : GoodIn wsX2_slip wsX1_takeSlip := goodIn_r _ [20, 21, 22, 23, 29, 30, 31, 32, 33, 34, 35, 36, 37, 38, 39, 40, 41, 42] (by decide +kernel) (by decide +kernel)
set_option maxRecDepth 20000 in
theorem gX2_slip_X1_takeSlip_n77 : GoodIn wsX2_slip (wsX1_takeSlip) := ggX2_slip_X1_takeSlip
set_option maxRecDepth 20000 in
theorem ggX2_leave_X2_memberOrThrow : GoodIn wsX2_leave wsX2_memberOrThrow := goodIn_ca (goodIn_r _ [5, 6, 7, 8, 21, 22, 23, 24, 25] (by decide +kernel) (by decide +kernel)) (goodIn_sub (fun _ h => List.mem_cons_of_mem _ (List.mem_append_left _ (List.mem_append_right _ h))) (by decide +kernel))
set_option maxRecDepth 20000 in
theorem gX2_leave_X2_memberOrThrow : GoodIn wsX2_leave (wsV RX2 63 RX2 yX2_memberOrThrow wsX2_memberOrThrow) := goodIn_app (goodIn_of _ (by decide +kernel)) ggX2_leave_X2_memberOrThrow
set_option maxRecDepth 20000 in
theorem ggX2_leave_X2_refuseLeft : GoodIn wsX2_leave wsX2_refuseLeft := goodIn_ca (goodIn_r _ [11, 12, 13, 26, 27, 28, 29, 30, 31, 32, 33, 34, 35, 36, 37, 38, 39] (by decide +kernel) (by decide +kernel)) (goodIn_sub (fun _ h => List.mem_cons_of_mem _ (List.mem_append_right _ h)) (by decide +kernel))
set_option maxRecDepth 20000 in
theorem gX2_leave_X2_refuseLeft : GoodIn wsX2_leave (va_wsS RX2 67 yX2_refuseLeft wsX2_refuseLeft) := goodIn_app (goodIn_of _ (by decide +kernel)) ggX2_leave_X2_refuseLeft
set_option maxRecDepth 20000 in
theorem ggX2_leave_X1_giveBack : GoodIn wsX2_leave wsX1_giveBack := goodIn_r _ [17, 18, 19, 20, 26, 27, 28, 29, 30, 31, 32, 33, 34, 35, 36, 37, 38, 39] (by decide +kernel) (by decide +kernel)
set_option maxRecDepth 20000 in
theorem gX2_leave_X1_giveBack_n81 : GoodIn wsX2_leave (wsX1_giveBack) := ggX2_leave_X1_giveBack
set_option maxRecDepth 20000 in
theorem ggX2_money_X2_memberOrThrow : GoodIn wsX2_money wsX2_memberOrThrow := goodIn_ca (goodIn_r _ [5, 6, 7, 8, 23, 24, 25, 26, 27] (by decide +kernel) (by decide +kernel)) (goodIn_sub (fun _ h => List.mem_cons_of_mem _ (List.mem_append_right _ h)) (by decide +kernel))
set_option maxRecDepth 20000 in
theorem gX2_money_X2_memberOrThrow : GoodIn wsX2_money (wsV RX2 63 RX2 yX2_memberOrThrow wsX2_memberOrThrow) := goodIn_app (goodIn_of _ (by decide +kernel)) ggX2_money_X2_memberOrThrow
set_option maxRecDepth 20000 in
theorem ggX2_offerMonth_X2_memberOrThrow : GoodIn wsX2_offerMonth wsX2_memberOrThrow := goodIn_ca (goodIn_r _ [5, 6, 7, 8, 23, 24, 25, 26, 27] (by decide +kernel) (by decide +kernel)) (goodIn_sub (fun _ h => List.mem_cons_of_mem _ (List.mem_append_right _ h)) (by decide +kernel))
set_option maxRecDepth 20000 in
theorem gX2_offerMonth_X2_memberOrThrow : GoodIn wsX2_offerMonth (wsV RX2 63 RX2 yX2_memberOrThrow wsX2_memberOrThrow) := goodIn_app (goodIn_of _ (by decide +kernel)) ggX2_offerMonth_X2_memberOrThrow
set_option maxRecDepth 20000 in
theorem ggX2_offerPrice_X2_memberOrThrow : GoodIn wsX2_offerPrice wsX2_memberOrThrow := goodIn_ca (goodIn_r _ [5, 6, 7, 8, 23, 24, 25, 26, 27] (by decide +kernel) (by decide +kernel)) (goodIn_sub (fun _ h => List.mem_cons_of_mem _ (List.mem_append_right _ h)) (by decide +kernel))
set_option maxRecDepth 20000 in
theorem gX2_offerPrice_X2_memberOrThrow : GoodIn wsX2_offerPrice (wsV RX2 63 RX2 yX2_memberOrThrow wsX2_memberOrThrow) := goodIn_app (goodIn_of _ (by decide +kernel)) ggX2_offerPrice_X2_memberOrThrow
set_option maxRecDepth 20000 in
theorem ggX2_resets_X2_memberOrThrow : GoodIn wsX2_resets wsX2_memberOrThrow := goodIn_ca (goodIn_r _ [5, 6, 7, 8, 23, 24, 25, 26, 27] (by decide +kernel) (by decide +kernel)) (goodIn_sub (fun _ h => List.mem_cons_of_mem _ (List.mem_append_right _ h)) (by decide +kernel))
set_option maxRecDepth 20000 in
theorem gX2_resets_X2_memberOrThrow : GoodIn wsX2_resets (wsV RX2 63 RX2 yX2_memberOrThrow wsX2_memberOrThrow) := goodIn_app (goodIn_of _ (by decide +kernel)) ggX2_resets_X2_memberOrThrow
set_option maxRecDepth 20000 in
theorem ggX2_shares_X2_memberOrThrow : GoodIn wsX2_shares wsX2_memberOrThrow := goodIn_ca (goodIn_r _ [5, 6, 7, 8, 14, 15, 16, 17, 18] (by decide +kernel) (by decide +kernel)) (goodIn_sub (fun _ h => List.mem_cons_of_mem _ (List.mem_append_right _ h)) (by decide +kernel))
set_option maxRecDepth 20000 in
theorem gX2_shares_X2_memberOrThrow : GoodIn wsX2_shares (wsV RX2 63 RX2 yX2_memberOrThrow wsX2_memberOrThrow) := goodIn_app (goodIn_of _ (by decide +kernel)) ggX2_shares_X2_memberOrThrow
set_option maxRecDepth 20000 in
theorem ggX2_shares_X1_sharesHeld : GoodIn wsX2_shares wsX1_sharesHeld := goodIn_r _ [12, 13, 19, 20, 21, 22, 23, 24, 25, 26, 27, 28, 29, 30, 31, 32, 33, 34, 35, 36, 37, 38, 39] (by decide +kernel) (by decide +kernel)
set_option maxRecDepth 20000 in
theorem gX2_shares_X1_sharesHeld_n98 : GoodIn wsX2_shares (wsX1_sharesHeld) := ggX2_shares_X1_sharesHeld
set_option maxRecDepth 20000 in
theorem ggX2_bought_X2_memberOrThrow : GoodIn wsX2_bought wsX2_memberOrThrow := goodIn_ca (goodIn_r _ [5, 6, 7, 8, 26, 27, 28, 29, 30] (by decide +kernel) (by decide +kernel)) (goodIn_sub (fun _ h => List.mem_cons_of_mem _ (List.mem_append_right _ h)) (by decide +kernel))
set_option maxRecDepth 20000 in
theorem gX2_bought_X2_memberOrThrow : GoodIn wsX2_bought (wsV RX2 63 RX2 yX2_memberOrThrow wsX2_memberOrThrow) := goodIn_app (goodIn_of _ (by decide +kernel)) ggX2_bought_X2_memberOrThrow
set_option maxRecDepth 20000 in
theorem ggX2_bought_X2_refuseBadMonth : GoodIn wsX2_bought wsX2_refuseBadMonth := goodIn_ca (goodIn_r _ [11, 6, 7] (by decide +kernel) (by decide +kernel)) (goodIn_sub (fun _ h => List.mem_cons_of_mem _ (List.mem_append_right _ h)) (by decide +kernel))
set_option maxRecDepth 20000 in
theorem gX2_bought_X2_refuseBadMonth : GoodIn wsX2_bought (va_wsS RX2 102 yX2_refuseBadMonth wsX2_refuseBadMonth) := goodIn_app (goodIn_of _ (by decide +kernel)) ggX2_bought_X2_refuseBadMonth
set_option maxRecDepth 20000 in
theorem ggX2_bought_X1_lotOf : GoodIn wsX2_bought wsX1_lotOf := goodIn_r _ [15, 16, 17, 4, 18, 31, 32, 33, 34, 35, 36, 37, 38, 39, 40, 41, 42, 43, 44] (by decide +kernel) (by decide +kernel)
set_option maxRecDepth 20000 in
theorem gX2_bought_X1_lotOf_n105 : GoodIn wsX2_bought (wsX1_lotOf) := ggX2_bought_X1_lotOf
set_option maxRecDepth 20000 in
theorem ggX2_paidEach_X2_memberOrThrow : GoodIn wsX2_paidEach wsX2_memberOrThrow := goodIn_ca (goodIn_r _ [5, 6, 7, 8, 26, 27, 28, 29, 30] (by decide +kernel) (by decide +kernel)) (goodIn_sub (fun _ h => List.mem_cons_of_mem _ (List.mem_append_right _ h)) (by decide +kernel))
set_option maxRecDepth 20000 in
theorem gX2_paidEach_X2_memberOrThrow : GoodIn wsX2_paidEach (wsV RX2 63 RX2 yX2_memberOrThrow wsX2_memberOrThrow) := goodIn_app (goodIn_of _ (by decide +kernel)) ggX2_paidEach_X2_memberOrThrow
set_option maxRecDepth 20000 in
theorem ggX2_paidEach_X2_refuseBadMonth : GoodIn wsX2_paidEach wsX2_refuseBadMonth := goodIn_ca (goodIn_r _ [11, 6, 7] (by decide +kernel) (by decide +kernel)) (goodIn_sub (fun _ h => List.mem_cons_of_mem _ (List.mem_append_right _ h)) (by decide +kernel))
set_option maxRecDepth 20000 in
theorem gX2_paidEach_X2_refuseBadMonth : GoodIn wsX2_paidEach (va_wsS RX2 102 yX2_refuseBadMonth wsX2_refuseBadMonth) := goodIn_app (goodIn_of _ (by decide +kernel)) ggX2_paidEach_X2_refuseBadMonth
set_option maxRecDepth 20000 in
theorem ggX2_paidEach_X1_lotOf : GoodIn wsX2_paidEach wsX1_lotOf := goodIn_r _ [15, 16, 17, 4, 18, 31, 32, 33, 34, 35, 36, 37, 38, 39, 40, 41, 42, 43, 44] (by decide +kernel) (by decide +kernel)
set_option maxRecDepth 20000 in
theorem gX2_paidEach_X1_lotOf_n105 : GoodIn wsX2_paidEach (wsX1_lotOf) := ggX2_paidEach_X1_lotOf
set_option maxRecDepth 20000 in
theorem ggX2_counted_X2_memberOrThrow : GoodIn wsX2_counted wsX2_memberOrThrow := goodIn_ca (goodIn_r _ [7, 1, 2, 8, 14, 15, 16, 17, 18] (by decide +kernel) (by decide +kernel)) (goodIn_sub (fun _ h => List.mem_cons_of_mem _ (List.mem_append_right _ h)) (by decide +kernel))
set_option maxRecDepth 20000 in
theorem gX2_counted_X2_memberOrThrow : GoodIn wsX2_counted (wsV RX2 63 RX2 yX2_memberOrThrow wsX2_memberOrThrow) := goodIn_app (goodIn_of _ (by decide +kernel)) ggX2_counted_X2_memberOrThrow
set_option maxRecDepth 20000 in
theorem ggX2_counted_X1_countedIn : GoodIn wsX2_counted wsX1_countedIn := goodIn_r _ [12, 13, 19, 20, 21, 22, 23, 24, 25, 26, 27, 28, 29, 30, 31, 32] (by decide +kernel) (by decide +kernel)
set_option maxRecDepth 20000 in
theorem gX2_counted_X1_countedIn_n122 : GoodIn wsX2_counted (wsX1_countedIn) := ggX2_counted_X1_countedIn
set_option maxRecDepth 20000 in
theorem ggX2_traced_X2_memberOrThrow : GoodIn wsX2_traced wsX2_memberOrThrow := goodIn_ca (goodIn_r _ [5, 6, 7, 8, 23, 24, 25, 26, 27] (by decide +kernel) (by decide +kernel)) (goodIn_sub (fun _ h => List.mem_cons_of_mem _ (List.mem_append_right _ h)) (by decide +kernel))
set_option maxRecDepth 20000 in
theorem gX2_traced_X2_memberOrThrow : GoodIn wsX2_traced (wsV RX2 63 RX2 yX2_memberOrThrow wsX2_memberOrThrow) := goodIn_app (goodIn_of _ (by decide +kernel)) ggX2_traced_X2_memberOrThrow
set_option maxRecDepth 20000 in
theorem ggX2_kept_X2_memberOrThrow : GoodIn wsX2_kept wsX2_memberOrThrow := goodIn_ca (goodIn_r _ [5, 6, 7, 8, 23, 24, 25, 26, 27] (by decide +kernel) (by decide +kernel)) (goodIn_sub (fun _ h => List.mem_cons_of_mem _ (List.mem_append_right _ h)) (by decide +kernel))
set_option maxRecDepth 20000 in
theorem gX2_kept_X2_memberOrThrow : GoodIn wsX2_kept (wsV RX2 63 RX2 yX2_memberOrThrow wsX2_memberOrThrow) := goodIn_app (goodIn_of _ (by decide +kernel)) ggX2_kept_X2_memberOrThrow
set_option maxRecDepth 20000 in
theorem ggX2_sell_X2_memberOrThrow : GoodIn wsX2_sell wsX2_memberOrThrow := goodIn_ca (goodIn_r _ [12, 13, 14, 15, 51, 52, 53, 54, 55] (by decide +kernel) (by decide +kernel)) (goodIn_sub (fun _ h => List.mem_cons_of_mem _ (List.mem_append_right _ h)) (by decide +kernel))
set_option maxRecDepth 20000 in
theorem gX2_sell_X2_memberOrThrow : GoodIn wsX2_sell (wsV RX2 63 RX2 yX2_memberOrThrow wsX2_memberOrThrow) := goodIn_app (goodIn_of _ (by decide +kernel)) ggX2_sell_X2_memberOrThrow
set_option maxRecDepth 20000 in
theorem ggX2_sell_X1_sharesHeld : GoodIn wsX2_sell wsX1_sharesHeld := goodIn_r _ [19, 20, 56, 57, 58, 59, 60, 61, 62, 63, 64, 65, 66, 67, 68, 69, 70, 71, 72, 73, 74, 75, 76] (by decide +kernel) (by decide +kernel)
set_option maxRecDepth 20000 in
theorem gX2_sell_X1_sharesHeld_n98 : GoodIn wsX2_sell (wsX1_sharesHeld) := ggX2_sell_X1_sharesHeld
set_option maxRecDepth 20000 in
theorem ggX2_sell_X1_sellOldest : GoodIn wsX2_sell wsX1_sellOldest := goodIn_r _ [23, 20, 24, 25, 26, 27, 28, 29, 30, 31, 32, 33, 34, 35, 36, 37, 38, 39, 40, 41, 42, 43, 44, 45, 46, 47, 48, 49, 50, 56, 57, 58, 59, 60, 61, 62, 63, 64, 65, 66, 67, 68, 69, 70, 71, 72, 73, 74, 75, 76] (by decide +kernel) (by decide +kernel)
set_option maxRecDepth 20000 in
theorem gX2_sell_X1_sellOldest_n140 : GoodIn wsX2_sell (wsX1_sellOldest) := ggX2_sell_X1_sellOldest
set_option maxRecDepth 20000 in
theorem ggX2_pay_X2_memberOrThrow : GoodIn wsX2_pay wsX2_memberOrThrow := goodIn_ca (goodIn_r _ [5, 6, 7, 8, 23, 24, 25, 26, 27] (by decide +kernel) (by decide +kernel)) (goodIn_sub (fun _ h => List.mem_cons_of_mem _ (List.mem_append_right _ h)) (by decide +kernel))
set_option maxRecDepth 20000 in
theorem gX2_pay_X2_memberOrThrow : GoodIn wsX2_pay (wsV RX2 63 RX2 yX2_memberOrThrow wsX2_memberOrThrow) := goodIn_app (goodIn_of _ (by decide +kernel)) ggX2_pay_X2_memberOrThrow
set_option maxRecDepth 20000 in
theorem ggX2_gain_X2_memberOrThrow : GoodIn wsX2_gain wsX2_memberOrThrow := goodIn_ca (goodIn_r _ [5, 6, 7, 8, 23, 24, 25, 26, 27] (by decide +kernel) (by decide +kernel)) (goodIn_sub (fun _ h => List.mem_cons_of_mem _ (List.mem_append_right _ h)) (by decide +kernel))
set_option maxRecDepth 20000 in
theorem gX2_gain_X2_memberOrThrow : GoodIn wsX2_gain (wsV RX2 63 RX2 yX2_memberOrThrow wsX2_memberOrThrow) := goodIn_app (goodIn_of _ (by decide +kernel)) ggX2_gain_X2_memberOrThrow
set_option maxRecDepth 20000 in
theorem ggX2_gainNow_X2_memberOrThrow : GoodIn wsX2_gainNow wsX2_memberOrThrow := goodIn_ca (goodIn_r _ [7, 8, 9, 10, 40, 41, 42, 43, 44] (by decide +kernel) (by decide +kernel)) (goodIn_sub (fun _ h => List.mem_cons_of_mem _ (List.mem_append_right _ h)) (by decide +kernel))
set_option maxRecDepth 20000 in
theorem gX2_gainNow_X2_memberOrThrow : GoodIn wsX2_gainNow (wsV RX2 63 RX2 yX2_memberOrThrow wsX2_memberOrThrow) := goodIn_app (goodIn_of _ (by decide +kernel)) ggX2_gainNow_X2_memberOrThrow
set_option maxRecDepth 20000 in
theorem ggX2_gainNow_X1_gainIfAllSold : GoodIn wsX2_gainNow wsX1_gainIfAllSold := goodIn_r _ [14, 15, 16, 17, 18, 19, 20, 21, 22, 23, 24, 25, 26, 27, 28, 29, 30, 31, 32, 33, 34, 35, 36, 37, 38, 39, 45, 46, 47, 48, 49, 50, 51, 52, 53, 54, 55, 56, 57, 58, 59, 60, 61, 62, 63, 64, 65] (by decide +kernel) (by decide +kernel)
set_option maxRecDepth 20000 in
theorem gX2_gainNow_X1_gainIfAllSold_n150 : GoodIn wsX2_gainNow (wsX1_gainIfAllSold) := ggX2_gainNow_X1_gainIfAllSold
set_option maxRecDepth 20000 in
theorem ggX2_buyForAll_X1_buyShares : GoodIn wsX2_buyForAll wsX1_buyShares := goodIn_r _ [8, 9, 10, 11, 12, 13, 14, 15, 16, 17, 18, 19, 20, 21, 22, 23, 24, 25, 6, 26, 27, 28, 29, 30, 31, 32, 33, 34, 35, 36, 37, 38, 39, 40, 41, 42, 43, 44, 45, 46, 47, 48, 49, 50, 51, 52, 53, 54, 55, 56, 57, 58, 59, 60, 66, 67, 68, 69, 70, 71, 72, 73, 74, 75, 76, 77, 78, 79, 80, 81, 82, 83, 84, 85, 86] (by decide +kernel) (by decide +kernel)
set_option maxRecDepth 20000 in
theorem gX2_buyForAll_X1_buyShares_n166 : GoodIn wsX2_buyForAll (wsX1_buyShares) := ggX2_buyForAll_X1_buyShares
set_option maxRecDepth 20000 in
theorem ggL_buys_L_counted : GoodIn wsL_buys wsL_counted := goodIn_r _ [5] (by decide +kernel) (by decide +kernel)
set_option maxRecDepth 20000 in
theorem gL_buys_L_counted : GoodIn wsL_buys (va_wsS RL 9 yL_counted wsL_counted) := goodIn_app (goodIn_of _ (by decide +kernel)) ggL_buys_L_counted
set_option maxRecDepth 20000 in
theorem ggL_payEach_L_isEarly : GoodIn wsL_payEach wsL_isEarly := goodIn_r _ [4] (by decide +kernel) (by decide +kernel)
set_option maxRecDepth 20000 in
theorem gL_payEach_L_isEarly : GoodIn wsL_payEach (va_wsS RL 16 yL_isEarly wsL_isEarly) := goodIn_app (goodIn_of _ (by decide +kernel)) ggL_payEach_L_isEarly
set_option maxRecDepth 20000 in
theorem ggL_begun_X2_next : GoodIn wsL_begun wsX2_next := goodIn_ca (goodIn_ca (goodIn_r _ [7, 8, 9, 10, 11, 12, 13, 14, 15, 16, 6, 17, 18, 19, 20, 21, 22, 23, 24, 25, 26, 27, 28, 29, 30, 31, 32, 33, 34, 35, 36, 37, 38, 39, 40, 41, 42, 43, 44, 45, 46, 47, 48, 49, 50, 51, 52, 53, 54, 55, 56, 57, 58, 59, 60, 61, 62, 63, 64, 65, 66, 67, 68, 69, 70, 71, 72, 73, 74, 75, 76, 77, 78, 79, 80, 81, 82, 83, 84, 85, 86, 87, 88, 89, 90, 91, 92, 93, 94, 95, 96, 97, 98, 99, 100, 101, 102, 103, 104, 105] (by decide +kernel) (by decide +kernel)) (goodIn_sub (fun _ h => List.mem_cons_of_mem _ (List.mem_append_left _ (List.mem_append_right _ h))) (by decide +kernel))) (goodIn_sub (fun _ h => List.mem_cons_of_mem _ (List.mem_append_right _ h)) (by decide +kernel))
set_option maxRecDepth 20000 in
theorem gL_begun_X2_next : GoodIn wsL_begun (wsV RL 20 RX2 yX2_next wsX2_next) := goodIn_app (goodIn_of _ (by decide +kernel)) ggL_begun_X2_next
set_option maxRecDepth 20000 in
theorem ggL_set_X2_ceiling : GoodIn wsL_set wsX2_ceiling := goodIn_ca (goodIn_r _ [7, 8, 9, 10, 11, 40, 41, 42, 43, 44] (by decide +kernel) (by decide +kernel)) (goodIn_sub (fun _ h => List.mem_cons_of_mem _ (List.mem_append_left _ (List.mem_append_right _ h))) (by decide +kernel))
set_option maxRecDepth 20000 in
theorem gL_set_X2_ceiling : GoodIn wsL_set (wsV RL 30 RX2 yX2_ceiling wsX2_ceiling) := goodIn_app (goodIn_of _ (by decide +kernel)) ggL_set_X2_ceiling
set_option maxRecDepth 20000 in
theorem ggL_set_X2_join : GoodIn wsL_set wsX2_join := goodIn_ca (goodIn_ca (goodIn_r _ [15, 16, 17, 18, 19, 20, 21, 22, 23, 24, 25, 26, 6, 27, 8, 9, 28, 29, 30, 31, 32, 33, 34, 35, 36, 37, 38, 39, 40, 41, 42, 43, 44, 45, 46, 47, 48, 49, 50, 51, 52, 53, 54, 55, 56, 57, 58] (by decide +kernel) (by decide +kernel)) (goodIn_sub (fun _ h => List.mem_cons_of_mem _ (List.mem_append_right _ h)) (by decide +kernel))) (goodIn_sub (fun _ h => List.mem_cons_of_mem _ (List.mem_append_left _ (List.mem_append_right _ h))) (by decide +kernel))
set_option maxRecDepth 20000 in
theorem gL_set_X2_join : GoodIn wsL_set (wsV RL 33 RX2 yX2_join wsX2_join) := goodIn_app (goodIn_of _ (by decide +kernel)) ggL_set_X2_join
set_option maxRecDepth 20000 in
theorem ggL_act_X2_rate : GoodIn wsL_act wsX2_rate := goodIn_ca (goodIn_ca (goodIn_ca (goodIn_r _ [8, 9, 10, 11, 7, 12, 13, 14, 15, 16, 17, 18, 19, 20, 21, 22, 23, 24, 25, 79, 80, 81, 82, 83, 84, 85, 86, 87, 88, 89, 90, 91, 92, 93, 94, 95, 96, 97] (by decide +kernel) (by decide +kernel)) (goodIn_sub (fun _ h => List.mem_cons_of_mem _ (List.mem_append_left _ (List.mem_append_left _ (List.mem_append_right _ h)))) (by decide +kernel))) (goodIn_sub (fun _ h => List.mem_cons_of_mem _ (List.mem_append_left _ (List.mem_append_right _ h))) (by decide +kernel))) (goodIn_sub (fun _ h => List.mem_cons_of_mem _ (List.mem_append_right _ h)) (by decide +kernel))
set_option maxRecDepth 20000 in
theorem gL_act_X2_rate : GoodIn wsL_act (wsV RL 36 RX2 yX2_rate wsX2_rate) := goodIn_app (goodIn_of _ (by decide +kernel)) ggL_act_X2_rate
set_option maxRecDepth 20000 in
theorem ggL_act_X2_slip : GoodIn wsL_act wsX2_slip := goodIn_ca (goodIn_ca (goodIn_ca (goodIn_r _ [29, 19, 20, 30, 9, 10, 11, 7, 12, 13, 14, 15, 21, 22, 23, 24, 25, 31, 32, 33, 34, 35, 36, 37, 93, 94, 95, 96, 97, 79, 80, 81, 82, 83, 84, 85, 86, 87, 88, 89, 90, 91, 92] (by decide +kernel) (by decide +kernel)) (goodIn_sub (fun _ h => List.mem_cons_of_mem _ (List.mem_append_left _ (List.mem_append_right _ h))) (by decide +kernel))) (goodIn_sub (fun _ h => List.mem_cons_of_mem _ (List.mem_append_left _ (List.mem_append_left _ (List.mem_append_right _ h)))) (by decide +kernel))) (goodIn_sub (fun _ h => List.mem_cons_of_mem _ (List.mem_append_right _ h)) (by decide +kernel))
set_option maxRecDepth 20000 in
theorem gL_act_X2_slip : GoodIn wsL_act (wsV RL 40 RX2 yX2_slip wsX2_slip) := goodIn_app (goodIn_of _ (by decide +kernel)) ggL_act_X2_slip
set_option maxRecDepth 20000 in
theorem ggL_act_X2_sell : GoodIn wsL_act wsX2_sell := goodIn_ca (goodIn_ca (goodIn_ca (goodIn_r _ [41, 19, 20, 24, 25, 42, 43, 44, 9, 10, 11, 7, 12, 13, 14, 15, 45, 32, 46, 47, 48, 49, 50, 51, 52, 53, 54, 55, 56, 57, 58, 59, 60, 61, 62, 63, 64, 65, 66, 67, 68, 69, 70, 71, 72, 73, 74, 75, 76, 77, 78, 93, 94, 95, 96, 97, 79, 80, 81, 82, 83, 84, 85, 86, 87, 88, 89, 90, 91, 92, 98, 99, 100, 101, 102, 103, 104] (by decide +kernel) (by decide +kernel)) (goodIn_sub (fun _ h => List.mem_cons_of_mem _ (List.mem_append_left _ (List.mem_append_right _ h))) (by decide +kernel))) (goodIn_sub (fun _ h => List.mem_cons_of_mem _ (List.mem_append_right _ h)) (by decide +kernel))) (goodIn_sub (fun _ h => List.mem_cons_of_mem _ (List.mem_append_left _ (List.mem_append_left _ (List.mem_append_right _ h)))) (by decide +kernel))
set_option maxRecDepth 20000 in
theorem gL_act_X2_sell : GoodIn wsL_act (wsV RL 43 RX2 yX2_sell wsX2_sell) := goodIn_app (goodIn_of _ (by decide +kernel)) ggL_act_X2_sell
set_option maxRecDepth 20000 in
theorem ggL_leaves_X2_leave : GoodIn wsL_leaves wsX2_leave := goodIn_ca (goodIn_ca (goodIn_r _ [7, 8, 9, 10, 6, 11, 12, 13, 14, 15, 16, 17, 18, 19, 20, 21, 22, 23, 24, 25, 26, 27, 28, 29, 30, 31, 32, 33, 34, 35, 36, 37, 38, 39, 40, 41, 42, 43, 44, 45] (by decide +kernel) (by decide +kernel)) (goodIn_sub (fun _ h => List.mem_cons_of_mem _ (List.mem_append_left _ (List.mem_append_right _ h))) (by decide +kernel))) (goodIn_sub (fun _ h => List.mem_cons_of_mem _ (List.mem_append_right _ h)) (by decide +kernel))
set_option maxRecDepth 20000 in
theorem gL_leaves_X2_leave : GoodIn wsL_leaves (wsV RL 48 RX2 yX2_leave wsX2_leave) := goodIn_app (goodIn_of _ (by decide +kernel)) ggL_leaves_X2_leave
set_option maxRecDepth 20000 in
theorem ggL_of_X2_money : GoodIn wsL_of wsX2_money := goodIn_ca (goodIn_r _ [6, 7, 8, 9, 5, 10, 11, 12, 13, 51, 52, 53, 54, 55, 56, 57, 58, 59, 60, 61, 62, 63, 64, 65, 66, 67, 68, 69] (by decide +kernel) (by decide +kernel)) (goodIn_sub (fun _ h => List.mem_cons_of_mem _ (List.mem_append_right _ h)) (by decide +kernel))
set_option maxRecDepth 20000 in
theorem gL_of_X2_money : GoodIn wsL_of (wsV RL 51 RX2 yX2_money wsX2_money) := goodIn_app (goodIn_of _ (by decide +kernel)) ggL_of_X2_money
set_option maxRecDepth 20000 in
theorem ggL_of_X2_offerMonth : GoodIn wsL_of wsX2_offerMonth := goodIn_ca (goodIn_r _ [17, 7, 8, 9, 5, 10, 11, 12, 13, 51, 52, 53, 54, 55, 56, 57, 58, 59, 60, 61, 62, 63, 64, 65, 66, 67, 68, 69] (by decide +kernel) (by decide +kernel)) (goodIn_sub (fun _ h => List.mem_cons_of_mem _ (List.mem_append_right _ h)) (by decide +kernel))
set_option maxRecDepth 20000 in
theorem gL_of_X2_offerMonth : GoodIn wsL_of (wsV RL 54 RX2 yX2_offerMonth wsX2_offerMonth) := goodIn_app (goodIn_of _ (by decide +kernel)) ggL_of_X2_offerMonth
set_option maxRecDepth 20000 in
theorem ggL_of_X2_offerPrice : GoodIn wsL_of wsX2_offerPrice := goodIn_ca (goodIn_r _ [21, 7, 8, 9, 5, 10, 11, 12, 13, 51, 52, 53, 54, 55, 56, 57, 58, 59, 60, 61, 62, 63, 64, 65, 66, 67, 68, 69] (by decide +kernel) (by decide +kernel)) (goodIn_sub (fun _ h => List.mem_cons_of_mem _ (List.mem_append_right _ h)) (by decide +kernel))
set_option maxRecDepth 20000 in
theorem gL_of_X2_offerPrice : GoodIn wsL_of (wsV RL 57 RX2 yX2_offerPrice wsX2_offerPrice) := goodIn_app (goodIn_of _ (by decide +kernel)) ggL_of_X2_offerPrice
set_option maxRecDepth 20000 in
theorem ggL_of_X2_resets : GoodIn wsL_of wsX2_resets := goodIn_ca (goodIn_r _ [25, 7, 8, 9, 5, 10, 11, 12, 13, 51, 52, 53, 54, 55, 56, 57, 58, 59, 60, 61, 62, 63, 64, 65, 66, 67, 68, 69] (by decide +kernel) (by decide +kernel)) (goodIn_sub (fun _ h => List.mem_cons_of_mem _ (List.mem_append_right _ h)) (by decide +kernel))
set_option maxRecDepth 20000 in
theorem gL_of_X2_resets : GoodIn wsL_of (wsV RL 60 RX2 yX2_resets wsX2_resets) := goodIn_app (goodIn_of _ (by decide +kernel)) ggL_of_X2_resets
set_option maxRecDepth 20000 in
theorem ggL_of_X2_shares : GoodIn wsL_of wsX2_shares := goodIn_ca (goodIn_r _ [29, 7, 8, 9, 5, 10, 11, 12, 13, 30, 31, 32, 33, 34, 65, 66, 67, 68, 69, 51, 52, 53, 54, 55, 56, 57, 58, 59, 60, 61, 62, 63, 64, 70, 71, 72, 73, 74, 75, 76] (by decide +kernel) (by decide +kernel)) (goodIn_sub (fun _ h => List.mem_cons_of_mem _ (List.mem_append_right _ h)) (by decide +kernel))
set_option maxRecDepth 20000 in
theorem gL_of_X2_shares : GoodIn wsL_of (wsV RL 63 RX2 yX2_shares wsX2_shares) := goodIn_app (goodIn_of _ (by decide +kernel)) ggL_of_X2_shares
set_option maxRecDepth 20000 in
theorem ggL_of_X2_bought : GoodIn wsL_of wsX2_bought := goodIn_ca (goodIn_r _ [38, 7, 8, 9, 5, 10, 11, 12, 13, 39, 40, 41, 42, 31, 43, 44, 34, 45, 46, 70, 71, 72, 73, 74, 75, 76, 65, 66, 67, 68, 69, 51, 52, 53, 54, 55, 56, 57, 58, 59, 60, 61, 62, 63, 64] (by decide +kernel) (by decide +kernel)) (goodIn_sub (fun _ h => List.mem_cons_of_mem _ (List.mem_append_right _ h)) (by decide +kernel))
set_option maxRecDepth 20000 in
theorem gL_of_X2_bought : GoodIn wsL_of (wsV RL 66 RX2 yX2_bought wsX2_bought) := goodIn_app (goodIn_of _ (by decide +kernel)) ggL_of_X2_bought
set_option maxRecDepth 20000 in
theorem ggL_of_X2_paidEach : GoodIn wsL_of wsX2_paidEach := goodIn_ca (goodIn_r _ [50, 7, 8, 9, 5, 10, 11, 12, 13, 39, 40, 41, 42, 31, 43, 44, 34, 45, 46, 70, 71, 72, 73, 74, 75, 76, 65, 66, 67, 68, 69, 51, 52, 53, 54, 55, 56, 57, 58, 59, 60, 61, 62, 63, 64] (by decide +kernel) (by decide +kernel)) (goodIn_sub (fun _ h => List.mem_cons_of_mem _ (List.mem_append_right _ h)) (by decide +kernel))
set_option maxRecDepth 20000 in
theorem gL_of_X2_paidEach : GoodIn wsL_of (wsV RL 69 RX2 yX2_paidEach wsX2_paidEach) := goodIn_app (goodIn_of _ (by decide +kernel)) ggL_of_X2_paidEach
set_option maxRecDepth 20000 in
theorem ggL_sum_X2_counted : GoodIn wsL_sum wsX2_counted := goodIn_ca (goodIn_r _ [7, 8, 9, 10, 11, 12, 6, 13, 14, 15, 16, 17, 18, 19, 70, 71, 72, 73, 74, 75, 76, 77, 78, 79, 80, 81, 82, 83, 84, 85, 86, 87, 88] (by decide +kernel) (by decide +kernel)) (goodIn_sub (fun _ h => List.mem_cons_of_mem _ (List.mem_append_right _ h)) (by decide +kernel))
set_option maxRecDepth 20000 in
theorem gL_sum_X2_counted : GoodIn wsL_sum (wsV RL 72 RX2 yX2_counted wsX2_counted) := goodIn_app (goodIn_of _ (by decide +kernel)) ggL_sum_X2_counted
set_option maxRecDepth 20000 in
theorem ggL_sum_X2_traced : GoodIn wsL_sum wsX2_traced := goodIn_ca (goodIn_r _ [23, 10, 11, 12, 6, 13, 8, 9, 14, 75, 76, 77, 78, 79, 80, 81, 82, 83, 84, 85, 86, 87, 88, 70, 71, 72, 73, 74] (by decide +kernel) (by decide +kernel)) (goodIn_sub (fun _ h => List.mem_cons_of_mem _ (List.mem_append_right _ h)) (by decide +kernel))
set_option maxRecDepth 20000 in
theorem gL_sum_X2_traced : GoodIn wsL_sum (wsV RL 75 RX2 yX2_traced wsX2_traced) := goodIn_app (goodIn_of _ (by decide +kernel)) ggL_sum_X2_traced
set_option maxRecDepth 20000 in
theorem ggL_sum_X2_kept : GoodIn wsL_sum wsX2_kept := goodIn_ca (goodIn_r _ [27, 10, 11, 12, 6, 13, 8, 9, 14, 75, 76, 77, 78, 79, 80, 81, 82, 83, 84, 85, 86, 87, 88, 70, 71, 72, 73, 74] (by decide +kernel) (by decide +kernel)) (goodIn_sub (fun _ h => List.mem_cons_of_mem _ (List.mem_append_right _ h)) (by decide +kernel))
set_option maxRecDepth 20000 in
theorem gL_sum_X2_kept : GoodIn wsL_sum (wsV RL 79 RX2 yX2_kept wsX2_kept) := goodIn_app (goodIn_of _ (by decide +kernel)) ggL_sum_X2_kept
set_option maxRecDepth 20000 in
theorem ggL_sum_X2_pay : GoodIn wsL_sum wsX2_pay := goodIn_ca (goodIn_r _ [31, 10, 11, 12, 6, 13, 8, 9, 14, 75, 76, 77, 78, 79, 80, 81, 82, 83, 84, 85, 86, 87, 88, 70, 71, 72, 73, 74] (by decide +kernel) (by decide +kernel)) (goodIn_sub (fun _ h => List.mem_cons_of_mem _ (List.mem_append_right _ h)) (by decide +kernel))
set_option maxRecDepth 20000 in
theorem gL_sum_X2_pay : GoodIn wsL_sum (wsV RL 82 RX2 yX2_pay wsX2_pay) := goodIn_app (goodIn_of _ (by decide +kernel)) ggL_sum_X2_pay
set_option maxRecDepth 20000 in
theorem ggL_sum_X2_gain : GoodIn wsL_sum wsX2_gain := goodIn_ca (goodIn_r _ [35, 10, 11, 12, 6, 13, 8, 9, 14, 75, 76, 77, 78, 79, 80, 81, 82, 83, 84, 85, 86, 87, 88, 70, 71, 72, 73, 74] (by decide +kernel) (by decide +kernel)) (goodIn_sub (fun _ h => List.mem_cons_of_mem _ (List.mem_append_right _ h)) (by decide +kernel))
set_option maxRecDepth 20000 in
theorem gL_sum_X2_gain : GoodIn wsL_sum (wsV RL 85 RX2 yX2_gain wsX2_gain) := goodIn_app (goodIn_of _ (by decide +kernel)) ggL_sum_X2_gain
set_option maxRecDepth 20000 in
theorem ggL_sum_X2_gainNow : GoodIn wsL_sum wsX2_gainNow := goodIn_ca (goodIn_r _ [39, 40, 41, 10, 11, 12, 6, 13, 8, 9, 14, 42, 16, 43, 44, 45, 46, 47, 48, 49, 50, 51, 52, 53, 54, 55, 56, 57, 58, 59, 60, 61, 62, 63, 64, 65, 66, 67, 68, 69, 70, 71, 72, 73, 74, 75, 76, 77, 78, 79, 80, 81, 82, 83, 84, 85, 86, 87, 88, 89, 90, 91, 92, 93, 94, 95] (by decide +kernel) (by decide +kernel)) (goodIn_sub (fun _ h => List.mem_cons_of_mem _ (List.mem_append_right _ h)) (by decide +kernel))
set_option maxRecDepth 20000 in
theorem gL_sum_X2_gainNow : GoodIn wsL_sum (wsV RL 88 RX2 yX2_gainNow wsX2_gainNow) := goodIn_app (goodIn_of _ (by decide +kernel)) ggL_sum_X2_gainNow
set_option maxRecDepth 20000 in
theorem ggL_goes_L_some : GoodIn wsL_goes wsL_some := goodIn_r _ [11] (by decide +kernel) (by decide +kernel)
set_option maxRecDepth 20000 in
theorem gL_goes_L_some : GoodIn wsL_goes (va_wsS RL 93 yL_some wsL_some) := goodIn_app (goodIn_of _ (by decide +kernel)) ggL_goes_L_some
set_option maxRecDepth 20000 in
theorem ggL_goes_L_buys : GoodIn wsL_goes wsL_buys := goodIn_r _ [14, 15, 16, 17, 10, 18] rfl (by decide +kernel)
set_option maxRecDepth 20000 in
theorem gL_goes_L_buys : GoodIn wsL_goes (va_wsS RL 98 yL_buys wsL_buys) := goodIn_app (goodIn_of _ (by decide +kernel)) ggL_goes_L_buys
set_option maxRecDepth 20000 in
theorem ggL_goes_L_begun : GoodIn wsL_goes wsL_begun := goodIn_ca (goodIn_ca (goodIn_r _ [21, 22, 23, 24, 25, 26, 27, 28, 29, 30, 31, 32, 33, 34, 35, 36, 37, 38, 39, 40, 41, 42, 43, 44, 45, 46, 47, 48, 49, 50, 51, 52, 53, 54, 55, 56, 57, 58, 59, 60, 61, 62, 63, 64, 65, 66, 67, 68, 69, 70, 71, 72, 73, 74, 75, 76, 77, 78, 79, 80, 81, 82, 83, 84, 85, 86, 87, 88, 89, 90, 91, 92, 93, 94, 95, 96, 97, 98, 99, 100, 190, 191, 192, 193, 194, 195, 196, 197, 198, 199, 200, 201, 202, 203, 204, 205, 206, 207, 208, 209, 210, 211, 212, 213, 214, 215] (by decide +kernel) (by decide +kernel)) (goodIn_sub (fun _ h => List.mem_cons_of_mem _ (List.mem_append_left _ (List.mem_append_left _ (List.mem_append_right _ h)))) (by decide +kernel))) (goodIn_sub (fun _ h => List.mem_cons_of_mem _ (List.mem_append_left _ (List.mem_append_right _ h))) (by decide +kernel))
set_option maxRecDepth 20000 in
theorem gL_goes_L_begun : GoodIn wsL_goes (va_wsS RL 102 yL_begun wsL_begun) := goodIn_app (goodIn_of _ (by decide +kernel)) ggL_goes_L_begun
set_option maxRecDepth 20000 in
theorem ggL_goes_L_set : GoodIn wsL_goes wsL_set := goodIn_ca (goodIn_ca (goodIn_r _ [103, 22, 23, 104, 105, 106, 27, 107, 29, 30, 108, 44, 109, 110, 111, 112, 31, 32, 34, 113, 43, 114, 115, 46, 35, 116, 117, 118, 119, 120, 121, 78, 79, 58, 91, 122, 74, 123, 61, 49, 190, 191, 192, 193, 194, 195, 196, 197, 198, 199, 200, 201, 202, 203, 204, 205, 206, 207, 208] (by decide +kernel) (by decide +kernel)) (goodIn_sub (fun _ h => List.mem_cons_of_mem _ (List.mem_append_left _ (List.mem_append_left _ (List.mem_append_right _ h)))) (by decide +kernel))) (goodIn_sub (fun _ h => List.mem_cons_of_mem _ (List.mem_append_left _ (List.mem_append_right _ h))) (by decide +kernel))
set_option maxRecDepth 20000 in
theorem gL_goes_L_set : GoodIn wsL_goes (va_wsS RL 109 yL_set wsL_set) := goodIn_app (goodIn_of _ (by decide +kernel)) ggL_goes_L_set
set_option maxRecDepth 20000 in
theorem ggL_goes_L_act : GoodIn wsL_goes wsL_act := goodIn_ca (goodIn_ca (goodIn_ca (goodIn_r _ [126, 127, 22, 23, 128, 129, 130, 27, 131, 132, 133, 134, 135, 136, 137, 43, 116, 117, 118, 29, 30, 138, 139, 140, 31, 32, 141, 142, 143, 144, 145, 146, 46, 147, 148, 123, 54, 149, 150, 151, 152, 153, 154, 34, 35, 155, 156, 157, 91, 158, 159, 160, 50, 51, 52, 53, 161, 162, 163, 60, 164, 165, 81, 82, 84, 166, 167, 168, 169, 170, 171, 172, 173, 83, 80, 174, 175, 176, 177, 195, 196, 197, 198, 199, 200, 201, 202, 203, 204, 205, 206, 207, 208, 190, 191, 192, 193, 194, 209, 210, 211, 212, 213, 214, 215] (by decide +kernel) (by decide +kernel)) (goodIn_sub (fun _ h => List.mem_cons_of_mem _ (List.mem_append_right _ h)) (by decide +kernel))) (goodIn_sub (fun _ h => List.mem_cons_of_mem _ (List.mem_append_left _ (List.mem_append_left _ (List.mem_append_right _ h)))) (by decide +kernel))) (goodIn_sub (fun _ h => List.mem_cons_of_mem _ (List.mem_append_left _ (List.mem_append_right _ h))) (by decide +kernel))
set_option maxRecDepth 20000 in
theorem gL_goes_L_act : GoodIn wsL_goes (va_wsS RL 113 yL_act wsL_act) := goodIn_app (goodIn_of _ (by decide +kernel)) ggL_goes_L_act
set_option maxRecDepth 20000 in
theorem ggL_goes_L_leaves : GoodIn wsL_goes wsL_leaves := goodIn_ca (goodIn_ca (goodIn_r _ [180, 127, 23, 181, 182, 183, 27, 184, 132, 133, 134, 135, 136, 137, 43, 138, 139, 140, 31, 32, 185, 46, 186, 187, 54, 188, 189, 190, 191, 192, 193, 194, 195, 196, 197, 198, 199, 200, 201, 202, 203, 204, 205, 206, 207, 208] (by decide +kernel) (by decide +kernel)) (goodIn_sub (fun _ h => List.mem_cons_of_mem _ (List.mem_append_right _ h)) (by decide +kernel))) (goodIn_sub (fun _ h => List.mem_cons_of_mem _ (List.mem_append_left _ (List.mem_append_right _ h))) (by decide +kernel))
set_option maxRecDepth 20000 in
theorem gL_goes_L_leaves : GoodIn wsL_goes (va_wsS RL 117 yL_leaves wsL_leaves) := goodIn_app (goodIn_of _ (by decide +kernel)) ggL_goes_L_leaves
set_option maxRecDepth 20000 in
theorem ggL_sells_L_some : GoodIn wsL_sells wsL_some := goodIn_r _ [5] (by decide +kernel) (by decide +kernel)
set_option maxRecDepth 20000 in
theorem gL_sells_L_some : GoodIn wsL_sells (va_wsS RL 93 yL_some wsL_some) := goodIn_app (goodIn_of _ (by decide +kernel)) ggL_sells_L_some
set_option maxRecDepth 20000 in
theorem ggL_sells_L_payEach : GoodIn wsL_sells wsL_payEach := goodIn_r _ [8, 9, 10, 4, 11] (by decide +kernel) (by decide +kernel)
set_option maxRecDepth 20000 in
theorem gL_sells_L_payEach : GoodIn wsL_sells (va_wsS RL 123 yL_payEach wsL_payEach) := goodIn_app (goodIn_of _ (by decide +kernel)) ggL_sells_L_payEach
set_option maxRecDepth 20000 in
theorem ggL_sells_L_isEarly : GoodIn wsL_sells wsL_isEarly := goodIn_r _ [11] (by decide +kernel) (by decide +kernel)
set_option maxRecDepth 20000 in
theorem gL_sells_L_isEarly : GoodIn wsL_sells (va_wsS RL 16 yL_isEarly wsL_isEarly) := goodIn_app (goodIn_of _ (by decide +kernel)) ggL_sells_L_isEarly
set_option maxRecDepth 20000 in
theorem ggL_sells_L_act : GoodIn wsL_sells wsL_act := goodIn_ca (goodIn_ca (goodIn_ca (goodIn_r _ [14, 15, 16, 17, 18, 19, 20, 21, 22, 23, 24, 25, 26, 27, 28, 29, 30, 31, 32, 33, 34, 35, 36, 37, 38, 39, 40, 41, 42, 43, 44, 45, 46, 47, 48, 49, 50, 51, 52, 53, 54, 55, 56, 57, 58, 59, 60, 61, 62, 63, 64, 65, 66, 67, 68, 69, 70, 71, 72, 73, 74, 75, 76, 77, 78, 79, 80, 81, 82, 83, 84, 85, 86, 87, 88, 89, 90, 91, 92, 93, 94, 95, 96, 97, 98, 99, 100, 101, 102, 103, 104, 105, 106, 107, 108, 109, 110, 111, 112, 113, 114, 115, 116, 117, 118] (by decide +kernel) (by decide +kernel)) (goodIn_sub (fun _ h => List.mem_cons_of_mem _ (List.mem_append_left _ (List.mem_append_left _ (List.mem_append_right _ h)))) (by decide +kernel))) (goodIn_sub (fun _ h => List.mem_cons_of_mem _ (List.mem_append_left _ (List.mem_append_right _ h))) (by decide +kernel))) (goodIn_sub (fun _ h => List.mem_cons_of_mem _ (List.mem_append_right _ h)) (by decide +kernel))
set_option maxRecDepth 20000 in
theorem gL_sells_L_act : GoodIn wsL_sells (va_wsS RL 113 yL_act wsL_act) := goodIn_app (goodIn_of _ (by decide +kernel)) ggL_sells_L_act
set_option maxRecDepth 20000 in
theorem ggL_tells_L_some : GoodIn wsL_tells wsL_some := goodIn_r _ [5] (by decide +kernel) (by decide +kernel)
set_option maxRecDepth 20000 in
theorem gL_tells_L_some : GoodIn wsL_tells (va_wsS RL 93 yL_some wsL_some) := goodIn_app (goodIn_of _ (by decide +kernel)) ggL_tells_L_some
set_option maxRecDepth 20000 in
theorem ggL_tells_L_payEach : GoodIn wsL_tells wsL_payEach := goodIn_r _ [8, 9, 10, 4, 11] (by decide +kernel) (by decide +kernel)
set_option maxRecDepth 20000 in
theorem gL_tells_L_payEach : GoodIn wsL_tells (va_wsS RL 123 yL_payEach wsL_payEach) := goodIn_app (goodIn_of _ (by decide +kernel)) ggL_tells_L_payEach
set_option maxRecDepth 20000 in
theorem ggL_tells_L_of : GoodIn wsL_tells wsL_of := goodIn_ca (goodIn_r _ [14, 15, 16, 17, 18, 19, 20, 21, 22, 23, 24, 25, 26, 27, 28, 29, 30, 31, 32, 33, 34, 35, 36, 37, 38, 39, 40, 41, 42, 43, 44, 45, 46, 47, 48, 49, 50, 51, 52, 53, 54, 55, 56, 57, 58, 59, 60, 61, 62, 63, 64, 132, 133, 134, 135, 136, 137, 138, 139, 140, 141, 142, 143, 144, 145, 146, 147, 148, 149, 150, 151, 152, 153, 154, 155, 156, 157] (by decide +kernel) (by decide +kernel)) (goodIn_sub (fun _ h => List.mem_cons_of_mem _ (List.mem_append_right _ h)) (by decide +kernel))
set_option maxRecDepth 20000 in
theorem gL_tells_L_of : GoodIn wsL_tells (va_wsS RL 127 yL_of wsL_of) := goodIn_app (goodIn_of _ (by decide +kernel)) ggL_tells_L_of
set_option maxRecDepth 20000 in
theorem ggL_tells_L_sum : GoodIn wsL_tells wsL_sum := goodIn_ca (goodIn_r _ [67, 15, 1, 68, 69, 70, 19, 71, 25, 26, 21, 22, 23, 24, 27, 72, 45, 73, 74, 75, 76, 77, 78, 79, 80, 81, 82, 83, 84, 85, 86, 87, 88, 89, 90, 91, 92, 93, 94, 95, 96, 97, 98, 99, 100, 48, 101, 102, 103, 104, 105, 106, 107, 108, 109, 110, 111, 112, 113, 114, 115, 116, 117, 118, 119, 120, 121, 122, 123, 124, 146, 147, 148, 149, 150, 132, 133, 134, 135, 136, 137, 138, 139, 140, 141, 142, 143, 144, 145, 151, 152, 153, 154, 155, 156, 157] (by decide +kernel) (by decide +kernel)) (goodIn_sub (fun _ h => List.mem_cons_of_mem _ (List.mem_append_right _ h)) (by decide +kernel))
set_option maxRecDepth 20000 in
theorem gL_tells_L_sum : GoodIn wsL_tells (va_wsS RL 130 yL_sum wsL_sum) := goodIn_app (goodIn_of _ (by decide +kernel)) ggL_tells_L_sum
set_option maxRecDepth 20000 in
theorem ggL_tells_L_counted : GoodIn wsL_tells wsL_counted := goodIn_r _ [127] (by decide +kernel) (by decide +kernel)
set_option maxRecDepth 20000 in
theorem gL_tells_L_counted : GoodIn wsL_tells (va_wsS RL 9 yL_counted wsL_counted) := goodIn_app (goodIn_of _ (by decide +kernel)) ggL_tells_L_counted
set_option maxRecDepth 20000 in
theorem ggL_tells_X2_month : GoodIn wsL_tells wsX2_month := goodIn_r _ [131, 96, 146, 147, 148, 149, 150] (by decide +kernel) (by decide +kernel)
set_option maxRecDepth 20000 in
theorem gL_tells_X2_month : GoodIn wsL_tells (wsV RL 134 RX2 yX2_month wsX2_month) := goodIn_app (goodIn_of _ (by decide +kernel)) ggL_tells_X2_month
set_option maxRecDepth 20000 in
theorem ggL_law_X2_init : GoodIn wsL_law wsX2_init := goodIn_r _ [8, 9, 10, 11, 12, 13, 14, 15, 16, 17, 18, 289, 290, 291, 292, 293] (by decide +kernel) (by decide +kernel)
set_option maxRecDepth 20000 in
theorem gL_law_X2_init : GoodIn wsL_law (wsX2_init) := ggL_law_X2_init
set_option maxRecDepth 20000 in
theorem ggL_law_L_cell : GoodIn wsL_law wsL_cell := goodIn_r _ [22, 23] (by decide +kernel) (by decide +kernel)
set_option maxRecDepth 20000 in
theorem gL_law_L_cell : GoodIn wsL_law (va_wsS RL 139 yL_cell wsL_cell) := goodIn_app (goodIn_of _ (by decide +kernel)) ggL_law_L_cell
set_option maxRecDepth 20000 in
theorem ggL_law_L_some : GoodIn wsL_law wsL_some := goodIn_r _ [26] (by decide +kernel) (by decide +kernel)
set_option maxRecDepth 20000 in
theorem gL_law_L_some : GoodIn wsL_law (va_wsS RL 93 yL_some wsL_some) := goodIn_app (goodIn_of _ (by decide +kernel)) ggL_law_L_some
set_option maxRecDepth 20000 in
theorem ggL_law_L_goes : GoodIn wsL_law wsL_goes := goodIn_ca (goodIn_ca (goodIn_ca (goodIn_r _ [29, 30, 31, 32, 5, 33, 34, 35, 24, 25, 21, 26, 36, 37, 38, 39, 40, 41, 42, 43, 44, 45, 46, 47, 48, 49, 50, 2, 51, 52, 53, 54, 55, 56, 15, 16, 57, 58, 59, 60, 61, 62, 63, 13, 18, 64, 65, 66, 67, 68, 69, 70, 71, 72, 73, 74, 75, 76, 77, 78, 79, 80, 81, 82, 83, 84, 85, 86, 87, 88, 89, 90, 91, 92, 93, 94, 95, 96, 10, 11, 97, 98, 99, 100, 101, 102, 103, 104, 105, 106, 107, 108, 109, 110, 111, 112, 113, 114, 115, 116, 117, 118, 119, 120, 121, 122, 123, 124, 125, 126, 127, 128, 129, 14, 12, 130, 131, 132, 133, 134, 135, 136, 4, 137, 138, 139, 140, 141, 142, 143, 144, 145, 146, 147, 148, 149, 150, 151, 152, 153, 154, 155, 156, 157, 158, 159, 160, 161, 162, 163, 164, 165, 166, 167, 168, 169, 170, 171, 172, 173, 174, 175, 176, 177, 178, 179, 180, 181, 182, 183, 184, 185, 186, 187, 188, 189, 190, 191, 192, 193, 194, 195, 196, 197, 198, 199, 200, 201, 202, 203, 289, 290, 291, 292, 293, 294, 295, 296, 297, 298, 299, 300, 301, 302, 303, 304, 305, 306, 307, 308, 309, 310, 311, 312, 313, 314] rfl (by decide +kernel)) (goodIn_sub (fun _ h => List.mem_append_left _ (List.mem_append_left _ (List.mem_append_right _ h))) (by decide +kernel))) (goodIn_sub (fun _ h => List.mem_append_left _ (List.mem_append_right _ h)) (by decide +kernel))) (goodIn_sub (fun _ h => List.mem_append_right _ h) (by decide +kernel))
set_option maxRecDepth 20000 in
theorem gL_law_L_goes : GoodIn wsL_law (va_wsS RL 143 yL_goes wsL_goes) := goodIn_app (goodIn_of _ (by decide +kernel)) ggL_law_L_goes
set_option maxRecDepth 20000 in
theorem ggL_law_L_sells : GoodIn wsL_law wsL_sells := goodIn_ca (goodIn_ca (goodIn_ca (goodIn_r _ [206, 207, 24, 25, 21, 26, 208, 209, 210, 211, 212, 213, 138, 139, 140, 141, 46, 47, 142, 143, 144, 2, 145, 146, 147, 148, 149, 150, 151, 13, 131, 132, 133, 52, 53, 152, 153, 154, 54, 55, 155, 156, 157, 158, 159, 160, 65, 161, 162, 137, 73, 163, 164, 165, 166, 167, 168, 15, 16, 169, 170, 171, 108, 172, 173, 174, 69, 70, 71, 72, 175, 176, 177, 79, 178, 179, 98, 99, 101, 180, 181, 182, 183, 184, 185, 186, 187, 100, 97, 188, 189, 190, 191, 294, 295, 296, 297, 298, 299, 300, 301, 302, 303, 304, 305, 306, 307, 289, 290, 291, 292, 293, 308, 309, 310, 311, 312, 313, 314] rfl (by decide +kernel)) (goodIn_sub (fun _ h => List.mem_append_right _ h) (by decide +kernel))) (goodIn_sub (fun _ h => List.mem_append_left _ (List.mem_append_left _ (List.mem_append_right _ h))) (by decide +kernel))) (goodIn_sub (fun _ h => List.mem_append_left _ (List.mem_append_right _ h)) (by decide +kernel))
set_option maxRecDepth 20000 in
theorem gL_law_L_sells : GoodIn wsL_law (va_wsS RL 147 yL_sells wsL_sells) := goodIn_app (goodIn_of _ (by decide +kernel)) ggL_law_L_sells
set_option maxRecDepth 20000 in
theorem ggL_law_L_tells : GoodIn wsL_law wsL_tells := goodIn_ca (goodIn_r _ [216, 217, 24, 25, 21, 26, 208, 209, 210, 211, 212, 213, 218, 219, 220, 141, 221, 222, 223, 2, 224, 146, 147, 148, 149, 150, 151, 13, 225, 226, 227, 228, 229, 230, 231, 232, 233, 234, 235, 236, 237, 238, 239, 240, 169, 65, 170, 171, 108, 241, 242, 243, 244, 245, 246, 247, 248, 249, 250, 58, 59, 251, 252, 253, 254, 255, 256, 257, 258, 259, 260, 261, 90, 91, 92, 93, 262, 263, 264, 265, 266, 267, 268, 269, 270, 271, 272, 273, 274, 275, 276, 277, 278, 279, 280, 281, 15, 16, 282, 283, 284, 188, 79, 189, 190, 99, 191, 177, 178, 179, 98, 101, 180, 70, 71, 72, 181, 182, 183, 184, 185, 186, 187, 100, 97, 40, 41, 42, 285, 286, 287, 288, 294, 295, 296, 297, 298, 299, 300, 301, 302, 303, 304, 305, 306, 307, 289, 290, 291, 292, 293, 308, 309, 310, 311, 312, 313, 314] rfl (by decide +kernel)) (goodIn_sub (fun _ h => List.mem_append_right _ h) (by decide +kernel))
set_option maxRecDepth 20000 in
theorem gL_law_L_tells : GoodIn wsL_law (va_wsS RL 151 yL_tells wsL_tells) := goodIn_app (goodIn_of _ (by decide +kernel)) ggL_law_L_tells
