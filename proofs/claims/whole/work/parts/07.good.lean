set_option maxRecDepth 20000 in
theorem ggX0_payEach_X0_isEarly : GoodIn wsX0_payEach wsX0_isEarly := goodIn_r _ [15, 16, 17, 18, 19, 20, 21, 22, 23, 24] (by decide +kernel) (by decide +kernel)
set_option maxRecDepth 20000 in
theorem gX0_payEach_X0_isEarly : GoodIn wsX0_payEach (wsV RX0 33 RX0 yX0_isEarly wsX0_isEarly) := goodIn_app (goodIn_of _ (by decide +kernel)) ggX0_payEach_X0_isEarly
set_option maxRecDepth 20000 in
theorem ggX0_gainEach_X0_payEach : GoodIn wsX0_gainEach wsX0_payEach := goodIn_r _ [6, 7, 1, 8, 9, 10, 11, 12, 13, 14, 15, 16, 17, 18, 5, 19, 20, 21, 22, 23, 24, 25, 26, 27, 28] (by decide +kernel) (by decide +kernel)
set_option maxRecDepth 20000 in
theorem gX0_gainEach_X0_payEach : GoodIn wsX0_gainEach (wsV RX0 46 RX0 yX0_payEach wsX0_payEach) := goodIn_app (goodIn_of _ (by decide +kernel)) ggX0_gainEach_X0_payEach
set_option maxRecDepth 20000 in
theorem ggX1_buyShares_X1_purchasePrice : GoodIn wsX1_buyShares wsX1_purchasePrice := goodIn_r _ [19] (by decide +kernel) (by decide +kernel)
set_option maxRecDepth 20000 in
theorem gX1_buyShares_X1_purchasePrice : GoodIn wsX1_buyShares (va_wsS RX1 51 yX1_purchasePrice wsX1_purchasePrice) := goodIn_app (goodIn_of _ (by decide +kernel)) ggX1_buyShares_X1_purchasePrice
set_option maxRecDepth 20000 in
theorem ggX1_buyShares_X1_wholeTimes : GoodIn wsX1_buyShares wsX1_wholeTimes := goodIn_r _ [22] (by decide +kernel) (by decide +kernel)
set_option maxRecDepth 20000 in
theorem gX1_buyShares_X1_wholeTimes : GoodIn wsX1_buyShares (va_wsS RX1 55 yX1_wholeTimes wsX1_wholeTimes) := goodIn_app (goodIn_of _ (by decide +kernel)) ggX1_buyShares_X1_wholeTimes
set_option maxRecDepth 20000 in
theorem ggX1_buyShares_X1_countedIn : GoodIn wsX1_buyShares wsX1_countedIn := goodIn_r _ [26, 27, 54, 55, 56, 57, 58, 59, 60, 61, 62, 63, 64, 65, 66, 67] (by decide +kernel) (by decide +kernel)
set_option maxRecDepth 20000 in
theorem gX1_buyShares_X1_countedIn : GoodIn wsX1_buyShares (wsV RX1 59 RX1 yX1_countedIn wsX1_countedIn) := goodIn_app (goodIn_of _ (by decide +kernel)) ggX1_buyShares_X1_countedIn
set_option maxRecDepth 20000 in
theorem ggX1_buyShares_X0_init : GoodIn wsX1_buyShares wsX0_init := goodIn_r _ [29, 30, 31, 32, 33, 34, 35, 36, 37, 38, 39, 68, 69, 70, 71, 72, 73, 74] (by decide +kernel) (by decide +kernel)
set_option maxRecDepth 20000 in
theorem gX1_buyShares_X0_init_n65 : GoodIn wsX1_buyShares (wsX0_init) := ggX1_buyShares_X0_init
set_option maxRecDepth 20000 in
theorem ggX1_buyShares_X1_putLot : GoodIn wsX1_buyShares wsX1_putLot := goodIn_r _ [43, 44, 68, 69, 70, 71, 72, 73, 74, 54, 55, 56, 57, 58, 59, 60, 61, 62, 63, 64, 65, 66, 67] (by decide +kernel) (by decide +kernel)
set_option maxRecDepth 20000 in
theorem gX1_buyShares_X1_putLot : GoodIn wsX1_buyShares (wsV RX1 68 RX1 yX1_putLot wsX1_putLot) := goodIn_app (goodIn_of _ (by decide +kernel)) ggX1_buyShares_X1_putLot
set_option maxRecDepth 20000 in
theorem ggX1_buyShares_X1_addCounted : GoodIn wsX1_buyShares wsX1_addCounted := goodIn_r _ [48, 27, 54, 55, 56, 57, 58, 59, 60, 61, 62, 63, 64, 65, 66, 67] (by decide +kernel) (by decide +kernel)
set_option maxRecDepth 20000 in
theorem gX1_buyShares_X1_addCounted : GoodIn wsX1_buyShares (wsV RX1 72 RX1 yX1_addCounted wsX1_addCounted) := goodIn_app (goodIn_of _ (by decide +kernel)) ggX1_buyShares_X1_addCounted
set_option maxRecDepth 20000 in
theorem ggX1_buyShares_X1_renewOffer : GoodIn wsX1_buyShares wsX1_renewOffer := goodIn_r _ [52, 1, 53, 15, 13, 54, 55, 56, 57, 58, 59, 60, 61, 62, 63, 64, 65, 66, 67] (by decide +kernel) (by decide +kernel)
set_option maxRecDepth 20000 in
theorem gX1_buyShares_X1_renewOffer : GoodIn wsX1_buyShares (wsV RX1 82 RX1 yX1_renewOffer wsX1_renewOffer) := goodIn_app (goodIn_of _ (by decide +kernel)) ggX1_buyShares_X1_renewOffer
set_option maxRecDepth 20000 in
theorem ggX1_lotOf_X2_isPurchaseMonth : GoodIn wsX1_lotOf wsX2_isPurchaseMonth := goodIn_r _ [4] (by decide +kernel) (by decide +kernel)
set_option maxRecDepth 20000 in
theorem gX1_lotOf_X2_isPurchaseMonth_n89 : GoodIn wsX1_lotOf (wsX2_isPurchaseMonth) := ggX1_lotOf_X2_isPurchaseMonth
set_option maxRecDepth 20000 in
theorem ggX1_sellOldest_X0_payEach : GoodIn wsX1_sellOldest wsX0_payEach := goodIn_r _ [11, 12, 13, 14, 15, 3, 4, 5, 16, 17, 18, 19, 20, 21, 9, 22, 23, 24, 43, 44, 45, 46, 47, 48, 49] (by decide +kernel) (by decide +kernel)
set_option maxRecDepth 20000 in
theorem gX1_sellOldest_X0_payEach_n102 : GoodIn wsX1_sellOldest (wsX0_payEach) := ggX1_sellOldest_X0_payEach
set_option maxRecDepth 20000 in
theorem ggX1_sellOldest_X0_gainEach : GoodIn wsX1_sellOldest wsX0_gainEach := goodIn_r _ [27, 13, 28, 8, 10, 9, 11, 12, 14, 15, 3, 4, 5, 16, 17, 18, 19, 20, 21, 22, 23, 24, 43, 44, 45, 46, 47, 48, 49] (by decide +kernel) (by decide +kernel)
set_option maxRecDepth 20000 in
theorem gX1_sellOldest_X0_gainEach_n109 : GoodIn wsX1_sellOldest (wsX0_gainEach) := ggX1_sellOldest_X0_gainEach
set_option maxRecDepth 20000 in
theorem ggX1_sellOldest_X0_isEarly : GoodIn wsX1_sellOldest wsX0_isEarly := goodIn_r _ [22, 23, 24, 43, 44, 45, 46, 47, 48, 49] (by decide +kernel) (by decide +kernel)
set_option maxRecDepth 20000 in
theorem gX1_sellOldest_X0_isEarly_n112 : GoodIn wsX1_sellOldest (wsX0_isEarly) := ggX1_sellOldest_X0_isEarly
set_option maxRecDepth 20000 in
theorem ggX1_gainIfAllSold_X0_gainEach : GoodIn wsX1_gainIfAllSold wsX0_gainEach := goodIn_r _ [5, 6, 7, 8, 9, 3, 10, 11, 12, 13, 14, 15, 16, 17, 18, 19, 20, 21, 22, 23, 24, 25, 40, 41, 42, 43, 44, 45, 46] (by decide +kernel) (by decide +kernel)
set_option maxRecDepth 20000 in
theorem gX1_gainIfAllSold_X0_gainEach_n109 : GoodIn wsX1_gainIfAllSold (wsX0_gainEach) := ggX1_gainIfAllSold_X0_gainEach
set_option maxRecDepth 20000 in
theorem ggX2_next_X2_isPurchaseMonth : GoodIn wsX2_next wsX2_isPurchaseMonth := goodIn_r _ [11] (by decide +kernel) (by decide +kernel)
set_option maxRecDepth 20000 in
theorem gX2_next_X2_isPurchaseMonth : GoodIn wsX2_next (va_wsS RX2 42 yX2_isPurchaseMonth wsX2_isPurchaseMonth) := goodIn_app (goodIn_of _ (by decide +kernel)) ggX2_next_X2_isPurchaseMonth
set_option maxRecDepth 20000 in
theorem ggX2_next_X2_buyForAll : GoodIn wsX2_next wsX2_buyForAll := goodIn_r _ [15, 16, 6, 7, 17, 18, 19, 20, 21, 22, 23, 24, 25, 26, 27, 28, 29, 30, 31, 32, 33, 34, 35, 36, 37, 38, 39, 40, 41, 42, 43, 44, 45, 46, 47, 48, 49, 50, 51, 52, 53, 54, 55, 56, 57, 58, 59, 60, 61, 62, 63, 64, 65, 66, 67, 68, 69, 70, 71, 72, 73, 74, 75, 76, 77, 78, 79, 80, 81, 82, 83, 84, 85, 86, 87, 88, 89, 90, 91, 92, 93, 94, 95, 96, 97, 98, 99] (by decide +kernel) (by decide +kernel)
set_option maxRecDepth 20000 in
theorem gX2_next_X2_buyForAll : GoodIn wsX2_next (wsV RX2 46 RX2 yX2_buyForAll wsX2_buyForAll) := goodIn_app (goodIn_of _ (by decide +kernel)) ggX2_next_X2_buyForAll
set_option maxRecDepth 20000 in
theorem ggX2_join_X2_refuseBadRate : GoodIn wsX2_join wsX2_refuseBadRate := goodIn_ca (goodIn_r _ [13, 14, 15] (by decide +kernel) (by decide +kernel)) (goodIn_sub (fun _ h => List.mem_cons_of_mem _ (List.mem_append_right _ h)) (by decide +kernel))
set_option maxRecDepth 20000 in
theorem gX2_join_X2_refuseBadRate : GoodIn wsX2_join (va_wsS RX2 52 yX2_refuseBadRate wsX2_refuseBadRate) := goodIn_app (goodIn_of _ (by decide +kernel)) ggX2_join_X2_refuseBadRate
set_option maxRecDepth 20000 in
theorem ggX2_join_X1_init : GoodIn wsX2_join wsX1_init := goodIn_r _ [17, 18, 19, 20, 21, 22, 23, 24, 25, 26, 27, 33, 34, 35, 36, 37, 38, 39, 40, 41, 42, 43, 44, 45, 46] (by decide +kernel) (by decide +kernel)
set_option maxRecDepth 20000 in
theorem gX2_join_X1_init_n60 : GoodIn wsX2_join (wsX1_init) := ggX2_join_X1_init
set_option maxRecDepth 20000 in
theorem ggX2_rate_X2_memberOrThrow : GoodIn wsX2_rate wsX2_memberOrThrow := goodIn_ca (goodIn_r _ [5, 6, 7, 8, 33, 34, 35, 36, 37] (by decide +kernel) (by decide +kernel)) (goodIn_sub (fun _ h => List.mem_cons_of_mem _ (List.mem_append_left _ (List.mem_append_left _ (List.mem_append_right _ h)))) (by decide +kernel))
set_option maxRecDepth 20000 in
theorem gX2_rate_X2_memberOrThrow : GoodIn wsX2_rate (wsV RX2 63 RX2 yX2_memberOrThrow wsX2_memberOrThrow) := goodIn_app (goodIn_of _ (by decide +kernel)) ggX2_rate_X2_memberOrThrow
set_option maxRecDepth 20000 in
theorem ggX2_rate_X2_refuseBadRate : GoodIn wsX2_rate wsX2_refuseBadRate := goodIn_ca (goodIn_r _ [11, 12, 13] (by decide +kernel) (by decide +kernel)) (goodIn_sub (fun _ h => List.mem_cons_of_mem _ (List.mem_append_left _ (List.mem_append_right _ h))) (by decide +kernel))
set_option maxRecDepth 20000 in
theorem gX2_rate_X2_refuseBadRate : GoodIn wsX2_rate (va_wsS RX2 52 yX2_refuseBadRate wsX2_refuseBadRate) := goodIn_app (goodIn_of _ (by decide +kernel)) ggX2_rate_X2_refuseBadRate
set_option maxRecDepth 20000 in
theorem ggX2_rate_X2_refuseLeft : GoodIn wsX2_rate wsX2_refuseLeft := goodIn_ca (goodIn_r _ [16, 17, 18, 19, 20, 21, 22, 23, 24, 25, 26, 27, 28, 29, 30, 31, 32] (by decide +kernel) (by decide +kernel)) (goodIn_sub (fun _ h => List.mem_cons_of_mem _ (List.mem_append_right _ h)) (by decide +kernel))
set_option maxRecDepth 20000 in
theorem gX2_rate_X2_refuseLeft : GoodIn wsX2_rate (va_wsS RX2 67 yX2_refuseLeft wsX2_refuseLeft) := goodIn_app (goodIn_of _ (by decide +kernel)) ggX2_rate_X2_refuseLeft
set_option maxRecDepth 20000 in
theorem ggX2_slip_X2_memberOrThrow : GoodIn wsX2_slip wsX2_memberOrThrow := goodIn_ca (goodIn_r _ [8, 9, 10, 11, 24, 25, 26, 27, 28] (by decide +kernel) (by decide +kernel)) (goodIn_sub (fun _ h => List.mem_cons_of_mem _ (List.mem_append_left _ (List.mem_append_right _ h))) (by decide +kernel))
set_option maxRecDepth 20000 in
theorem gX2_slip_X2_memberOrThrow : GoodIn wsX2_slip (wsV RX2 63 RX2 yX2_memberOrThrow wsX2_memberOrThrow) := goodIn_app (goodIn_of _ (by decide +kernel)) ggX2_slip_X2_memberOrThrow
set_option maxRecDepth 20000 in
theorem ggX2_slip_X2_refuseLeft : GoodIn wsX2_slip wsX2_refuseLeft := goodIn_ca (goodIn_r _ [14, 15, 16, 29, 30, 31, 32, 33, 34, 35, 36, 37, 38, 39, 40, 41, 42] (by decide +kernel) (by decide +kernel)) (goodIn_sub (fun _ h => List.mem_cons_of_mem _ (List.mem_append_right _ h)) (by decide +kernel))
set_option maxRecDepth 20000 in
theorem gX2_slip_X2_refuseLeft : GoodIn wsX2_slip (va_wsS RX2 67 yX2_refuseLeft wsX2_refuseLeft) := goodIn_app (goodIn_of _ (by decide +kernel)) ggX2_slip_X2_refuseLeft
set_option maxRecDepth 20000 in
theorem ggX2_slip_X1_takeSlip : GoodIn wsX2_slip wsX1_takeSlip := goodIn_r _ [20, 21, 22, 23, 29, 30, 31, 32, 33, 34, 35, 36, 37, 38, 39, 40, 41, 42] (by decide +kernel) (by decide +kernel)
set_option maxRecDepth 20000 in
theorem gX2_slip_X1_takeSlip_n77 : GoodIn wsX2_slip (wsX1_takeSlip) := ggX2_slip_X1_takeSlip
set_option maxRecDepth 20000 in
theorem ggX2_leave_X2_memberOrThrow : GoodIn wsX2_leave wsX2_memberOrThrow := goodIn_ca (goodIn_r _ [5, 6, 7, 8, 21, 22, 23, 24, 25] (by decide +kernel) (by decide +kernel)) (goodIn_sub (fun _ h => List.mem_cons_of_mem _ (List.mem_append_left _ (List.mem_append_right _ h))) (by decide +kernel))
set_option maxRecDepth 20000 in
theorem gX2_leave_X2_memberOrThrow : GoodIn wsX2_leave (wsV RX2 63 RX2 yX2_memberOrThrow wsX2_memberOrThrow) := goodIn_app (goodIn_of _ (by decide +kernel)) ggX2_leave_X2_memberOrThrow
set_option maxRecDepth 20000 in
theorem ggX2_leave_X2_refuseLeft : GoodIn wsX2_leave wsX2_refuseLeft := goodIn_ca (goodIn_r _ [11, 12, 13, 26, 27, 28, 29, 30, 31, 32, 33, 34, 35, 36, 37, 38, 39] (by decide +kernel) (by decide +kernel)) (goodIn_sub (fun _ h => List.mem_cons_of_mem _ (List.mem_append_right _ h)) (by decide +kernel))
set_option maxRecDepth 20000 in
theorem gX2_leave_X2_refuseLeft : GoodIn wsX2_leave (va_wsS RX2 67 yX2_refuseLeft wsX2_refuseLeft) := goodIn_app (goodIn_of _ (by decide +kernel)) ggX2_leave_X2_refuseLeft
set_option maxRecDepth 20000 in
theorem ggX2_leave_X1_giveBack : GoodIn wsX2_leave wsX1_giveBack := goodIn_r _ [17, 18, 19, 20, 26, 27, 28, 29, 30, 31, 32, 33, 34, 35, 36, 37, 38, 39] (by decide +kernel) (by decide +kernel)
set_option maxRecDepth 20000 in
theorem gX2_leave_X1_giveBack_n81 : GoodIn wsX2_leave (wsX1_giveBack) := ggX2_leave_X1_giveBack
set_option maxRecDepth 20000 in
theorem ggX2_money_X2_memberOrThrow : GoodIn wsX2_money wsX2_memberOrThrow := goodIn_ca (goodIn_r _ [5, 6, 7, 8, 23, 24, 25, 26, 27] (by decide +kernel) (by decide +kernel)) (goodIn_sub (fun _ h => List.mem_cons_of_mem _ (List.mem_append_right _ h)) (by decide +kernel))
set_option maxRecDepth 20000 in
theorem gX2_money_X2_memberOrThrow : GoodIn wsX2_money (wsV RX2 63 RX2 yX2_memberOrThrow wsX2_memberOrThrow) := goodIn_app (goodIn_of _ (by decide +kernel)) ggX2_money_X2_memberOrThrow
set_option maxRecDepth 20000 in
theorem ggX2_offerMonth_X2_memberOrThrow : GoodIn wsX2_offerMonth wsX2_memberOrThrow := goodIn_ca (goodIn_r _ [5, 6, 7, 8, 23, 24, 25, 26, 27] (by decide +kernel) (by decide +kernel)) (goodIn_sub (fun _ h => List.mem_cons_of_mem _ (List.mem_append_right _ h)) (by decide +kernel))
set_option maxRecDepth 20000 in
theorem gX2_offerMonth_X2_memberOrThrow : GoodIn wsX2_offerMonth (wsV RX2 63 RX2 yX2_memberOrThrow wsX2_memberOrThrow) := goodIn_app (goodIn_of _ (by decide +kernel)) ggX2_offerMonth_X2_memberOrThrow
set_option maxRecDepth 20000 in
theorem ggX2_offerPrice_X2_memberOrThrow : GoodIn wsX2_offerPrice wsX2_memberOrThrow := goodIn_ca (goodIn_r _ [5, 6, 7, 8, 23, 24, 25, 26, 27] (by decide +kernel) (by decide +kernel)) (goodIn_sub (fun _ h => List.mem_cons_of_mem _ (List.mem_append_right _ h)) (by decide +kernel))
set_option maxRecDepth 20000 in
theorem gX2_offerPrice_X2_memberOrThrow : GoodIn wsX2_offerPrice (wsV RX2 63 RX2 yX2_memberOrThrow wsX2_memberOrThrow) := goodIn_app (goodIn_of _ (by decide +kernel)) ggX2_offerPrice_X2_memberOrThrow
set_option maxRecDepth 20000 in
theorem ggX2_resets_X2_memberOrThrow : GoodIn wsX2_resets wsX2_memberOrThrow := goodIn_ca (goodIn_r _ [5, 6, 7, 8, 23, 24, 25, 26, 27] (by decide +kernel) (by decide +kernel)) (goodIn_sub (fun _ h => List.mem_cons_of_mem _ (List.mem_append_right _ h)) (by decide +kernel))
set_option maxRecDepth 20000 in
theorem gX2_resets_X2_memberOrThrow : GoodIn wsX2_resets (wsV RX2 63 RX2 yX2_memberOrThrow wsX2_memberOrThrow) := goodIn_app (goodIn_of _ (by decide +kernel)) ggX2_resets_X2_memberOrThrow
set_option maxRecDepth 20000 in
theorem ggX2_shares_X2_memberOrThrow : GoodIn wsX2_shares wsX2_memberOrThrow := goodIn_ca (goodIn_r _ [5, 6, 7, 8, 14, 15, 16, 17, 18] (by decide +kernel) (by decide +kernel)) (goodIn_sub (fun _ h => List.mem_cons_of_mem _ (List.mem_append_right _ h)) (by decide +kernel))
set_option maxRecDepth 20000 in
theorem gX2_shares_X2_memberOrThrow : GoodIn wsX2_shares (wsV RX2 63 RX2 yX2_memberOrThrow wsX2_memberOrThrow) := goodIn_app (goodIn_of _ (by decide +kernel)) ggX2_shares_X2_memberOrThrow
set_option maxRecDepth 20000 in
theorem ggX2_shares_X1_sharesHeld : GoodIn wsX2_shares wsX1_sharesHeld := goodIn_r _ [12, 13, 19, 20, 21, 22, 23, 24, 25, 26, 27, 28, 29, 30, 31, 32, 33, 34, 35, 36, 37, 38, 39] (by decide +kernel) (by decide +kernel)
set_option maxRecDepth 20000 in
theorem gX2_shares_X1_sharesHeld_n98 : GoodIn wsX2_shares (wsX1_sharesHeld) := ggX2_shares_X1_sharesHeld
set_option maxRecDepth 20000 in
theorem ggX2_bought_X2_memberOrThrow : GoodIn wsX2_bought wsX2_memberOrThrow := goodIn_ca (goodIn_r _ [5, 6, 7, 8, 26, 27, 28, 29, 30] (by decide +kernel) (by decide +kernel)) (goodIn_sub (fun _ h => List.mem_cons_of_mem _ (List.mem_append_right _ h)) (by decide +kernel))
set_option maxRecDepth 20000 in
theorem gX2_bought_X2_memberOrThrow : GoodIn wsX2_bought (wsV RX2 63 RX2 yX2_memberOrThrow wsX2_memberOrThrow) := goodIn_app (goodIn_of _ (by decide +kernel)) ggX2_bought_X2_memberOrThrow
set_option maxRecDepth 20000 in
theorem ggX2_bought_X2_refuseBadMonth : GoodIn wsX2_bought wsX2_refuseBadMonth := goodIn_ca (goodIn_r _ [11, 6, 7] (by decide +kernel) (by decide +kernel)) (goodIn_sub (fun _ h => List.mem_cons_of_mem _ (List.mem_append_right _ h)) (by decide +kernel))
set_option maxRecDepth 20000 in
theorem gX2_bought_X2_refuseBadMonth : GoodIn wsX2_bought (va_wsS RX2 102 yX2_refuseBadMonth wsX2_refuseBadMonth) := goodIn_app (goodIn_of _ (by decide +kernel)) ggX2_bought_X2_refuseBadMonth
set_option maxRecDepth 20000 in
theorem ggX2_bought_X1_lotOf : GoodIn wsX2_bought wsX1_lotOf := goodIn_r _ [15, 16, 17, 4, 18, 31, 32, 33, 34, 35, 36, 37, 38, 39, 40, 41, 42, 43, 44] (by decide +kernel) (by decide +kernel)
set_option maxRecDepth 20000 in
theorem gX2_bought_X1_lotOf_n105 : GoodIn wsX2_bought (wsX1_lotOf) := ggX2_bought_X1_lotOf
set_option maxRecDepth 20000 in
theorem ggX2_paidEach_X2_memberOrThrow : GoodIn wsX2_paidEach wsX2_memberOrThrow := goodIn_ca (goodIn_r _ [5, 6, 7, 8, 26, 27, 28, 29, 30] (by decide +kernel) (by decide +kernel)) (goodIn_sub (fun _ h => List.mem_cons_of_mem _ (List.mem_append_right _ h)) (by decide +kernel))
set_option maxRecDepth 20000 in
theorem gX2_paidEach_X2_memberOrThrow : GoodIn wsX2_paidEach (wsV RX2 63 RX2 yX2_memberOrThrow wsX2_memberOrThrow) := goodIn_app (goodIn_of _ (by decide +kernel)) ggX2_paidEach_X2_memberOrThrow
set_option maxRecDepth 20000 in
theorem ggX2_paidEach_X2_refuseBadMonth : GoodIn wsX2_paidEach wsX2_refuseBadMonth := goodIn_ca (goodIn_r _ [11, 6, 7] (by decide +kernel) (by decide +kernel)) (goodIn_sub (fun _ h => List.mem_cons_of_mem _ (List.mem_append_right _ h)) (by decide +kernel))
set_option maxRecDepth 20000 in
theorem gX2_paidEach_X2_refuseBadMonth : GoodIn wsX2_paidEach (va_wsS RX2 102 yX2_refuseBadMonth wsX2_refuseBadMonth) := goodIn_app (goodIn_of _ (by decide +kernel)) ggX2_paidEach_X2_refuseBadMonth
set_option maxRecDepth 20000 in
theorem ggX2_paidEach_X1_lotOf : GoodIn wsX2_paidEach wsX1_lotOf := goodIn_r _ [15, 16, 17, 4, 18, 31, 32, 33, 34, 35, 36, 37, 38, 39, 40, 41, 42, 43, 44] (by decide +kernel) (by decide +kernel)
set_option maxRecDepth 20000 in
theorem gX2_paidEach_X1_lotOf_n105 : GoodIn wsX2_paidEach (wsX1_lotOf) := ggX2_paidEach_X1_lotOf
set_option maxRecDepth 20000 in
theorem ggX2_counted_X2_memberOrThrow : GoodIn wsX2_counted wsX2_memberOrThrow := goodIn_ca (goodIn_r _ [7, 1, 2, 8, 14, 15, 16, 17, 18] (by decide +kernel) (by decide +kernel)) (goodIn_sub (fun _ h => List.mem_cons_of_mem _ (List.mem_append_right _ h)) (by decide +kernel))
set_option maxRecDepth 20000 in
theorem gX2_counted_X2_memberOrThrow : GoodIn wsX2_counted (wsV RX2 63 RX2 yX2_memberOrThrow wsX2_memberOrThrow) := goodIn_app (goodIn_of _ (by decide +kernel)) ggX2_counted_X2_memberOrThrow
set_option maxRecDepth 20000 in
theorem ggX2_counted_X1_countedIn : GoodIn wsX2_counted wsX1_countedIn := goodIn_r _ [12, 13, 19, 20, 21, 22, 23, 24, 25, 26, 27, 28, 29, 30, 31, 32] (by decide +kernel) (by decide +kernel)
set_option maxRecDepth 20000 in
theorem gX2_counted_X1_countedIn_n122 : GoodIn wsX2_counted (wsX1_countedIn) := ggX2_counted_X1_countedIn
set_option maxRecDepth 20000 in
theorem ggX2_traced_X2_memberOrThrow : GoodIn wsX2_traced wsX2_memberOrThrow := goodIn_ca (goodIn_r _ [5, 6, 7, 8, 23, 24, 25, 26, 27] (by decide +kernel) (by decide +kernel)) (goodIn_sub (fun _ h => List.mem_cons_of_mem _ (List.mem_append_right _ h)) (by decide +kernel))
set_option maxRecDepth 20000 in
theorem gX2_traced_X2_memberOrThrow : GoodIn wsX2_traced (wsV RX2 63 RX2 yX2_memberOrThrow wsX2_memberOrThrow) := goodIn_app (goodIn_of _ (by decide +kernel)) ggX2_traced_X2_memberOrThrow
set_option maxRecDepth 20000 in
theorem ggX2_kept_X2_memberOrThrow : GoodIn wsX2_kept wsX2_memberOrThrow := goodIn_ca (goodIn_r _ [5, 6, 7, 8, 23, 24, 25, 26, 27] (by decide +kernel) (by decide +kernel)) (goodIn_sub (fun _ h => List.mem_cons_of_mem _ (List.mem_append_right _ h)) (by decide +kernel))
set_option maxRecDepth 20000 in
theorem gX2_kept_X2_memberOrThrow : GoodIn wsX2_kept (wsV RX2 63 RX2 yX2_memberOrThrow wsX2_memberOrThrow) := goodIn_app (goodIn_of _ (by decide +kernel)) ggX2_kept_X2_memberOrThrow
set_option maxRecDepth 20000 in
theorem ggX2_sell_X2_memberOrThrow : GoodIn wsX2_sell wsX2_memberOrThrow := goodIn_ca (goodIn_r _ [12, 13, 14, 15, 51, 52, 53, 54, 55] (by decide +kernel) (by decide +kernel)) (goodIn_sub (fun _ h => List.mem_cons_of_mem _ (List.mem_append_right _ h)) (by decide +kernel))
set_option maxRecDepth 20000 in
theorem gX2_sell_X2_memberOrThrow : GoodIn wsX2_sell (wsV RX2 63 RX2 yX2_memberOrThrow wsX2_memberOrThrow) := goodIn_app (goodIn_of _ (by decide +kernel)) ggX2_sell_X2_memberOrThrow
set_option maxRecDepth 20000 in
theorem ggX2_sell_X1_sharesHeld : GoodIn wsX2_sell wsX1_sharesHeld := goodIn_r _ [19, 20, 56, 57, 58, 59, 60, 61, 62, 63, 64, 65, 66, 67, 68, 69, 70, 71, 72, 73, 74, 75, 76] (by decide +kernel) (by decide +kernel)
set_option maxRecDepth 20000 in
theorem gX2_sell_X1_sharesHeld_n98 : GoodIn wsX2_sell (wsX1_sharesHeld) := ggX2_sell_X1_sharesHeld
set_option maxRecDepth 20000 in
theorem ggX2_sell_X1_sellOldest : GoodIn wsX2_sell wsX1_sellOldest := goodIn_r _ [23, 20, 24, 25, 26, 27, 28, 29, 30, 31, 32, 33, 34, 35, 36, 37, 38, 39, 40, 41, 42, 43, 44, 45, 46, 47, 48, 49, 50, 56, 57, 58, 59, 60, 61, 62, 63, 64, 65, 66, 67, 68, 69, 70, 71, 72, 73, 74, 75, 76] (by decide +kernel) (by decide +kernel)
set_option maxRecDepth 20000 in
theorem gX2_sell_X1_sellOldest_n140 : GoodIn wsX2_sell (wsX1_sellOldest) := ggX2_sell_X1_sellOldest
set_option maxRecDepth 20000 in
theorem ggX2_pay_X2_memberOrThrow : GoodIn wsX2_pay wsX2_memberOrThrow := goodIn_ca (goodIn_r _ [5, 6, 7, 8, 23, 24, 25, 26, 27] (by decide +kernel) (by decide +kernel)) (goodIn_sub (fun _ h => List.mem_cons_of_mem _ (List.mem_append_right _ h)) (by decide +kernel))
set_option maxRecDepth 20000 in
theorem gX2_pay_X2_memberOrThrow : GoodIn wsX2_pay (wsV RX2 63 RX2 yX2_memberOrThrow wsX2_memberOrThrow) := goodIn_app (goodIn_of _ (by decide +kernel)) ggX2_pay_X2_memberOrThrow
set_option maxRecDepth 20000 in
theorem ggX2_gain_X2_memberOrThrow : GoodIn wsX2_gain wsX2_memberOrThrow := goodIn_ca (goodIn_r _ [5, 6, 7, 8, 23, 24, 25, 26, 27] (by decide +kernel) (by decide +kernel)) (goodIn_sub (fun _ h => List.mem_cons_of_mem _ (List.mem_append_right _ h)) (by decide +kernel))
set_option maxRecDepth 20000 in
theorem gX2_gain_X2_memberOrThrow : GoodIn wsX2_gain (wsV RX2 63 RX2 yX2_memberOrThrow wsX2_memberOrThrow) := goodIn_app (goodIn_of _ (by decide +kernel)) ggX2_gain_X2_memberOrThrow
set_option maxRecDepth 20000 in
theorem ggX2_gainNow_X2_memberOrThrow : GoodIn wsX2_gainNow wsX2_memberOrThrow := goodIn_ca (goodIn_r _ [7, 8, 9, 10, 40, 41, 42, 43, 44] (by decide +kernel) (by decide +kernel)) (goodIn_sub (fun _ h => List.mem_cons_of_mem _ (List.mem_append_right _ h)) (by decide +kernel))
set_option maxRecDepth 20000 in
theorem gX2_gainNow_X2_memberOrThrow : GoodIn wsX2_gainNow (wsV RX2 63 RX2 yX2_memberOrThrow wsX2_memberOrThrow) := goodIn_app (goodIn_of _ (by decide +kernel)) ggX2_gainNow_X2_memberOrThrow
set_option maxRecDepth 20000 in
theorem ggX2_gainNow_X1_gainIfAllSold : GoodIn wsX2_gainNow wsX1_gainIfAllSold := goodIn_r _ [14, 15, 16, 17, 18, 19, 20, 21, 22, 23, 24, 25, 26, 27, 28, 29, 30, 31, 32, 33, 34, 35, 36, 37, 38, 39, 45, 46, 47, 48, 49, 50, 51, 52, 53, 54, 55, 56, 57, 58, 59, 60, 61, 62, 63, 64, 65] (by decide +kernel) (by decide +kernel)
set_option maxRecDepth 20000 in
theorem gX2_gainNow_X1_gainIfAllSold_n150 : GoodIn wsX2_gainNow (wsX1_gainIfAllSold) := ggX2_gainNow_X1_gainIfAllSold
set_option maxRecDepth 20000 in
theorem ggX2_buyForAll_X1_buyShares : GoodIn wsX2_buyForAll wsX1_buyShares := goodIn_r _ [8, 9, 10, 11, 12, 13, 14, 15, 16, 17, 18, 19, 20, 21, 22, 23, 24, 25, 6, 26, 27, 28, 29, 30, 31, 32, 33, 34, 35, 36, 37, 38, 39, 40, 41, 42, 43, 44, 45, 46, 47, 48, 49, 50, 51, 52, 53, 54, 55, 56, 57, 58, 59, 60, 66, 67, 68, 69, 70, 71, 72, 73, 74, 75, 76, 77, 78, 79, 80, 81, 82, 83, 84, 85, 86] (by decide +kernel) (by decide +kernel)
set_option maxRecDepth 20000 in
theorem gX2_buyForAll_X1_buyShares_n166 : GoodIn wsX2_buyForAll (wsX1_buyShares) := ggX2_buyForAll_X1_buyShares
set_option maxRecDepth 20000 in
theorem ggX3_isMember_X3_isIn : GoodIn wsX3_isMember wsX3_isIn := goodIn_r _ [5] (by decide +kernel) (by decide +kernel)
set_option maxRecDepth 20000 in
theorem gX3_isMember_X3_isIn : GoodIn wsX3_isMember (va_wsS RX3 74 yX3_isIn wsX3_isIn) := goodIn_app (goodIn_of _ (by decide +kernel)) ggX3_isMember_X3_isIn
set_option maxRecDepth 20000 in
theorem ggX3_buy_X3_countedIn : GoodIn wsX3_buy wsX3_countedIn := goodIn_r _ [17, 6, 1, 9, 18, 19, 20, 21, 22, 23, 24, 25, 26, 27, 28, 29, 30, 31, 32, 33, 34, 35, 36, 37] (by decide +kernel) (by decide +kernel)
set_option maxRecDepth 20000 in
theorem gX3_buy_X3_countedIn : GoodIn wsX3_buy (wsV RX3 78 RX3 yX3_countedIn wsX3_countedIn) := goodIn_app (goodIn_of _ (by decide +kernel)) ggX3_buy_X3_countedIn
set_option maxRecDepth 20000 in
theorem ggX3_next_X3_isIn : GoodIn wsX3_next wsX3_isIn := goodIn_r _ [9] (by decide +kernel) (by decide +kernel)
set_option maxRecDepth 20000 in
theorem gX3_next_X3_isIn : GoodIn wsX3_next (va_wsS RX3 74 yX3_isIn wsX3_isIn) := goodIn_app (goodIn_of _ (by decide +kernel)) ggX3_next_X3_isIn
set_option maxRecDepth 20000 in
theorem ggX3_next_X3_mayBoth : GoodIn wsX3_next wsX3_mayBoth := goodIn_r _ [13, 14, 33, 34, 35, 36, 37, 38, 39, 40, 41, 42, 43, 44, 45, 46, 47, 48, 49, 50, 51, 52] (by decide +kernel) (by decide +kernel)
set_option maxRecDepth 20000 in
theorem gX3_next_X3_mayBoth : GoodIn wsX3_next (wsV RX3 83 RX3 yX3_mayBoth wsX3_mayBoth) := goodIn_app (goodIn_of _ (by decide +kernel)) ggX3_next_X3_mayBoth
set_option maxRecDepth 20000 in
theorem ggX3_next_X3_buy : GoodIn wsX3_next wsX3_buy := goodIn_r _ [18, 5, 19, 2, 20, 21, 22, 23, 24, 25, 26, 27, 28, 29, 30, 31, 8, 32, 33, 34, 35, 36, 37, 38, 39, 40, 41, 42, 43, 44, 45, 46, 47, 48, 49, 50, 51, 52] (by decide +kernel) (by decide +kernel)
set_option maxRecDepth 20000 in
theorem gX3_next_X3_buy : GoodIn wsX3_next (wsV RX3 87 RX3 yX3_buy wsX3_buy) := goodIn_app (goodIn_of _ (by decide +kernel)) ggX3_next_X3_buy
set_option maxRecDepth 20000 in
theorem ggX3_ceiling_X3_isIn : GoodIn wsX3_ceiling wsX3_isIn := goodIn_r _ [6] (by decide +kernel) (by decide +kernel)
set_option maxRecDepth 20000 in
theorem gX3_ceiling_X3_isIn : GoodIn wsX3_ceiling (va_wsS RX3 74 yX3_isIn wsX3_isIn) := goodIn_app (goodIn_of _ (by decide +kernel)) ggX3_ceiling_X3_isIn
set_option maxRecDepth 20000 in
theorem ggX3_ceiling_X3_may : GoodIn wsX3_ceiling wsX3_may := goodIn_r _ [10, 11, 12, 13, 14, 15, 16, 17, 18, 19, 20, 21, 22, 23, 24, 25, 26, 27, 28, 29, 30, 31] (by decide +kernel) (by decide +kernel)
set_option maxRecDepth 20000 in
theorem gX3_ceiling_X3_may : GoodIn wsX3_ceiling (wsV RX3 92 RX3 yX3_may wsX3_may) := goodIn_app (goodIn_of _ (by decide +kernel)) ggX3_ceiling_X3_may
set_option maxRecDepth 20000 in
theorem ggX3_join_X3_isIn : GoodIn wsX3_join wsX3_isIn := goodIn_r _ [8] (by decide +kernel) (by decide +kernel)
set_option maxRecDepth 20000 in
theorem gX3_join_X3_isIn : GoodIn wsX3_join (va_wsS RX3 74 yX3_isIn wsX3_isIn) := goodIn_app (goodIn_of _ (by decide +kernel)) ggX3_join_X3_isIn
set_option maxRecDepth 20000 in
theorem ggX3_join_X3_mayBoth : GoodIn wsX3_join wsX3_mayBoth := goodIn_r _ [12, 13, 14, 15, 16, 17, 18, 19, 20, 21, 22, 23, 24, 25, 26, 27, 28, 29, 30, 31, 32, 33] (by decide +kernel) (by decide +kernel)
set_option maxRecDepth 20000 in
theorem gX3_join_X3_mayBoth : GoodIn wsX3_join (wsV RX3 83 RX3 yX3_mayBoth wsX3_mayBoth) := goodIn_app (goodIn_of _ (by decide +kernel)) ggX3_join_X3_mayBoth
set_option maxRecDepth 20000 in
theorem ggX3_isStaying_X3_isMember : GoodIn wsX3_isStaying wsX3_isMember := goodIn_r _ [6, 7, 8, 9, 5, 10, 11, 12, 13, 14, 15, 16, 17, 18, 19, 20, 21, 22, 23, 24, 25, 26, 27, 28, 29, 30] (by decide +kernel) (by decide +kernel)
set_option maxRecDepth 20000 in
theorem gX3_isStaying_X3_isMember : GoodIn wsX3_isStaying (wsV RX3 96 RX3 yX3_isMember wsX3_isMember) := goodIn_app (goodIn_of _ (by decide +kernel)) ggX3_isStaying_X3_isMember
set_option maxRecDepth 20000 in
theorem ggX3_rate_X3_isMember : GoodIn wsX3_rate wsX3_isMember := goodIn_r _ [6, 7, 8, 9, 5, 10, 21, 22, 23, 24, 25, 26, 27, 28, 29, 30, 31, 32, 33, 34, 35, 36, 37, 38, 39, 40] (by decide +kernel) (by decide +kernel)
set_option maxRecDepth 20000 in
theorem gX3_rate_X3_isMember : GoodIn wsX3_rate (wsV RX3 96 RX3 yX3_isMember wsX3_isMember) := goodIn_app (goodIn_of _ (by decide +kernel)) ggX3_rate_X3_isMember
set_option maxRecDepth 20000 in
theorem ggX3_rate_X3_isIn : GoodIn wsX3_rate wsX3_isIn := goodIn_r _ [10] (by decide +kernel) (by decide +kernel)
set_option maxRecDepth 20000 in
theorem gX3_rate_X3_isIn : GoodIn wsX3_rate (va_wsS RX3 74 yX3_isIn wsX3_isIn) := goodIn_app (goodIn_of _ (by decide +kernel)) ggX3_rate_X3_isIn
set_option maxRecDepth 20000 in
theorem ggX3_rate_X3_isStaying : GoodIn wsX3_rate wsX3_isStaying := goodIn_r _ [14, 15, 2, 3, 4, 5, 6, 7, 8, 9, 10, 21, 22, 23, 24, 25, 26, 27, 28, 29, 30, 31, 32, 33, 34, 35, 36, 37, 38, 39, 40] (by decide +kernel) (by decide +kernel)
set_option maxRecDepth 20000 in
theorem gX3_rate_X3_isStaying : GoodIn wsX3_rate (wsV RX3 100 RX3 yX3_isStaying wsX3_isStaying) := goodIn_app (goodIn_of _ (by decide +kernel)) ggX3_rate_X3_isStaying
set_option maxRecDepth 20000 in
theorem ggX3_rate_X3_mayAll : GoodIn wsX3_rate wsX3_mayAll := goodIn_r _ [19, 20, 21, 22, 23, 24, 25, 26, 27, 28, 29, 30, 31, 32, 33, 34, 35, 36, 37, 38, 39, 40] (by decide +kernel) (by decide +kernel)
set_option maxRecDepth 20000 in
theorem gX3_rate_X3_mayAll : GoodIn wsX3_rate (wsV RX3 103 RX3 yX3_mayAll wsX3_mayAll) := goodIn_app (goodIn_of _ (by decide +kernel)) ggX3_rate_X3_mayAll
set_option maxRecDepth 20000 in
theorem ggX3_slip_X3_isMember : GoodIn wsX3_slip wsX3_isMember := goodIn_r _ [9, 10, 11, 12, 8, 13, 24, 25, 26, 27, 28, 29, 30, 31, 32, 33, 34, 35, 36, 37, 38, 39, 40, 41, 42, 43] (by decide +kernel) (by decide +kernel)
set_option maxRecDepth 20000 in
theorem gX3_slip_X3_isMember : GoodIn wsX3_slip (wsV RX3 96 RX3 yX3_isMember wsX3_isMember) := goodIn_app (goodIn_of _ (by decide +kernel)) ggX3_slip_X3_isMember
set_option maxRecDepth 20000 in
theorem ggX3_slip_X3_isIn : GoodIn wsX3_slip wsX3_isIn := goodIn_r _ [13] (by decide +kernel) (by decide +kernel)
set_option maxRecDepth 20000 in
theorem gX3_slip_X3_isIn : GoodIn wsX3_slip (va_wsS RX3 74 yX3_isIn wsX3_isIn) := goodIn_app (goodIn_of _ (by decide +kernel)) ggX3_slip_X3_isIn
set_option maxRecDepth 20000 in
theorem ggX3_slip_X3_isStaying : GoodIn wsX3_slip wsX3_isStaying := goodIn_r _ [17, 18, 5, 6, 7, 8, 9, 10, 11, 12, 13, 24, 25, 26, 27, 28, 29, 30, 31, 32, 33, 34, 35, 36, 37, 38, 39, 40, 41, 42, 43] (by decide +kernel) (by decide +kernel)
set_option maxRecDepth 20000 in
theorem gX3_slip_X3_isStaying : GoodIn wsX3_slip (wsV RX3 100 RX3 yX3_isStaying wsX3_isStaying) := goodIn_app (goodIn_of _ (by decide +kernel)) ggX3_slip_X3_isStaying
set_option maxRecDepth 20000 in
theorem ggX3_slip_X3_mayAll : GoodIn wsX3_slip wsX3_mayAll := goodIn_r _ [22, 23, 24, 25, 26, 27, 28, 29, 30, 31, 32, 33, 34, 35, 36, 37, 38, 39, 40, 41, 42, 43] (by decide +kernel) (by decide +kernel)
set_option maxRecDepth 20000 in
theorem gX3_slip_X3_mayAll : GoodIn wsX3_slip (wsV RX3 103 RX3 yX3_mayAll wsX3_mayAll) := goodIn_app (goodIn_of _ (by decide +kernel)) ggX3_slip_X3_mayAll
set_option maxRecDepth 20000 in
theorem ggX3_leave_X3_isMember : GoodIn wsX3_leave wsX3_isMember := goodIn_r _ [8, 9, 10, 11, 7, 12, 22, 23, 24, 25, 26, 27, 28, 29, 30, 31, 32, 33, 34, 35, 36, 37, 38, 39, 40, 41] (by decide +kernel) (by decide +kernel)
set_option maxRecDepth 20000 in
theorem gX3_leave_X3_isMember : GoodIn wsX3_leave (wsV RX3 96 RX3 yX3_isMember wsX3_isMember) := goodIn_app (goodIn_of _ (by decide +kernel)) ggX3_leave_X3_isMember
set_option maxRecDepth 20000 in
theorem ggX3_leave_X3_isStaying : GoodIn wsX3_leave wsX3_isStaying := goodIn_r _ [16, 1, 4, 5, 6, 7, 8, 9, 10, 11, 12, 22, 23, 24, 25, 26, 27, 28, 29, 30, 31, 32, 33, 34, 35, 36, 37, 38, 39, 40, 41] (by decide +kernel) (by decide +kernel)
set_option maxRecDepth 20000 in
theorem gX3_leave_X3_isStaying : GoodIn wsX3_leave (wsV RX3 100 RX3 yX3_isStaying wsX3_isStaying) := goodIn_app (goodIn_of _ (by decide +kernel)) ggX3_leave_X3_isStaying
set_option maxRecDepth 20000 in
theorem ggX3_leave_X3_mayBoth : GoodIn wsX3_leave wsX3_mayBoth := goodIn_r _ [20, 21, 22, 23, 24, 25, 26, 27, 28, 29, 30, 31, 32, 33, 34, 35, 36, 37, 38, 39, 40, 41] (by decide +kernel) (by decide +kernel)
set_option maxRecDepth 20000 in
theorem gX3_leave_X3_mayBoth : GoodIn wsX3_leave (wsV RX3 83 RX3 yX3_mayBoth wsX3_mayBoth) := goodIn_app (goodIn_of _ (by decide +kernel)) ggX3_leave_X3_mayBoth
set_option maxRecDepth 20000 in
theorem ggX3_money_X3_isMember : GoodIn wsX3_money wsX3_isMember := goodIn_r _ [6, 7, 8, 9, 5, 10, 16, 17, 18, 19, 20, 21, 22, 23, 24, 25, 26, 27, 28, 29, 30, 31, 32, 33, 34, 35] (by decide +kernel) (by decide +kernel)
set_option maxRecDepth 20000 in
theorem gX3_money_X3_isMember : GoodIn wsX3_money (wsV RX3 96 RX3 yX3_isMember wsX3_isMember) := goodIn_app (goodIn_of _ (by decide +kernel)) ggX3_money_X3_isMember
set_option maxRecDepth 20000 in
theorem ggX3_money_X3_may : GoodIn wsX3_money wsX3_may := goodIn_r _ [14, 15, 16, 17, 18, 19, 20, 21, 22, 23, 24, 25, 26, 27, 28, 29, 30, 31, 32, 33, 34, 35] (by decide +kernel) (by decide +kernel)
set_option maxRecDepth 20000 in
theorem gX3_money_X3_may : GoodIn wsX3_money (wsV RX3 92 RX3 yX3_may wsX3_may) := goodIn_app (goodIn_of _ (by decide +kernel)) ggX3_money_X3_may
set_option maxRecDepth 20000 in
theorem ggX3_offerMonth_X3_isMember : GoodIn wsX3_offerMonth wsX3_isMember := goodIn_r _ [6, 7, 8, 9, 5, 10, 16, 17, 18, 19, 20, 21, 22, 23, 24, 25, 26, 27, 28, 29, 30, 31, 32, 33, 34, 35] (by decide +kernel) (by decide +kernel)
set_option maxRecDepth 20000 in
theorem gX3_offerMonth_X3_isMember : GoodIn wsX3_offerMonth (wsV RX3 96 RX3 yX3_isMember wsX3_isMember) := goodIn_app (goodIn_of _ (by decide +kernel)) ggX3_offerMonth_X3_isMember
set_option maxRecDepth 20000 in
theorem ggX3_offerMonth_X3_may : GoodIn wsX3_offerMonth wsX3_may := goodIn_r _ [14, 15, 16, 17, 18, 19, 20, 21, 22, 23, 24, 25, 26, 27, 28, 29, 30, 31, 32, 33, 34, 35] (by decide +kernel) (by decide +kernel)
set_option maxRecDepth 20000 in
theorem gX3_offerMonth_X3_may : GoodIn wsX3_offerMonth (wsV RX3 92 RX3 yX3_may wsX3_may) := goodIn_app (goodIn_of _ (by decide +kernel)) ggX3_offerMonth_X3_may
set_option maxRecDepth 20000 in
theorem ggX3_offerPrice_X3_isMember : GoodIn wsX3_offerPrice wsX3_isMember := goodIn_r _ [7, 8, 9, 10, 6, 11, 17, 18, 19, 20, 21, 22, 23, 24, 25, 26, 27, 28, 29, 30, 31, 32, 33, 34, 35, 36] (by decide +kernel) (by decide +kernel)
set_option maxRecDepth 20000 in
theorem gX3_offerPrice_X3_isMember : GoodIn wsX3_offerPrice (wsV RX3 96 RX3 yX3_isMember wsX3_isMember) := goodIn_app (goodIn_of _ (by decide +kernel)) ggX3_offerPrice_X3_isMember
set_option maxRecDepth 20000 in
theorem ggX3_offerPrice_X3_may : GoodIn wsX3_offerPrice wsX3_may := goodIn_r _ [15, 16, 17, 18, 19, 20, 21, 22, 23, 24, 25, 26, 27, 28, 29, 30, 31, 32, 33, 34, 35, 36] (by decide +kernel) (by decide +kernel)
set_option maxRecDepth 20000 in
theorem gX3_offerPrice_X3_may : GoodIn wsX3_offerPrice (wsV RX3 92 RX3 yX3_may wsX3_may) := goodIn_app (goodIn_of _ (by decide +kernel)) ggX3_offerPrice_X3_may
set_option maxRecDepth 20000 in
theorem ggX3_resets_X3_isMember : GoodIn wsX3_resets wsX3_isMember := goodIn_r _ [6, 7, 8, 9, 5, 10, 16, 17, 18, 19, 20, 21, 22, 23, 24, 25, 26, 27, 28, 29, 30, 31, 32, 33, 34, 35] (by decide +kernel) (by decide +kernel)
set_option maxRecDepth 20000 in
theorem gX3_resets_X3_isMember : GoodIn wsX3_resets (wsV RX3 96 RX3 yX3_isMember wsX3_isMember) := goodIn_app (goodIn_of _ (by decide +kernel)) ggX3_resets_X3_isMember
set_option maxRecDepth 20000 in
theorem ggX3_resets_X3_may : GoodIn wsX3_resets wsX3_may := goodIn_r _ [14, 15, 16, 17, 18, 19, 20, 21, 22, 23, 24, 25, 26, 27, 28, 29, 30, 31, 32, 33, 34, 35] (by decide +kernel) (by decide +kernel)
set_option maxRecDepth 20000 in
theorem gX3_resets_X3_may : GoodIn wsX3_resets (wsV RX3 92 RX3 yX3_may wsX3_may) := goodIn_app (goodIn_of _ (by decide +kernel)) ggX3_resets_X3_may
set_option maxRecDepth 20000 in
theorem ggX3_shares_X3_isMember : GoodIn wsX3_shares wsX3_isMember := goodIn_r _ [5, 6, 7, 8, 4, 9, 20, 21, 22, 23, 24, 25, 26, 27, 28, 29, 30, 31, 32, 33, 34, 35, 36, 37, 38, 39] (by decide +kernel) (by decide +kernel)
set_option maxRecDepth 20000 in
theorem gX3_shares_X3_isMember : GoodIn wsX3_shares (wsV RX3 96 RX3 yX3_isMember wsX3_isMember) := goodIn_app (goodIn_of _ (by decide +kernel)) ggX3_shares_X3_isMember
set_option maxRecDepth 20000 in
theorem ggX3_shares_X3_may : GoodIn wsX3_shares wsX3_may := goodIn_r _ [13, 14, 20, 21, 22, 23, 24, 25, 26, 27, 28, 29, 30, 31, 32, 33, 34, 35, 36, 37, 38, 39] (by decide +kernel) (by decide +kernel)
set_option maxRecDepth 20000 in
theorem gX3_shares_X3_may : GoodIn wsX3_shares (wsV RX3 92 RX3 yX3_may wsX3_may) := goodIn_app (goodIn_of _ (by decide +kernel)) ggX3_shares_X3_may
set_option maxRecDepth 20000 in
theorem ggX3_shares_X3_sharesOf : GoodIn wsX3_shares wsX3_sharesOf := goodIn_r _ [18, 19, 20, 21, 22, 23, 24, 25, 26, 27, 28, 29, 30, 31, 32, 33, 34, 35, 36, 37, 38, 39] (by decide +kernel) (by decide +kernel)
set_option maxRecDepth 20000 in
theorem gX3_shares_X3_sharesOf : GoodIn wsX3_shares (wsV RX3 108 RX3 yX3_sharesOf wsX3_sharesOf) := goodIn_app (goodIn_of _ (by decide +kernel)) ggX3_shares_X3_sharesOf
set_option maxRecDepth 20000 in
theorem ggX3_bought_X3_isMember : GoodIn wsX3_bought wsX3_isMember := goodIn_r _ [6, 7, 8, 9, 5, 10, 16, 17, 18, 19, 20, 21, 22, 23, 24, 25, 26, 27, 28, 29, 30, 31, 32, 33, 34, 35] (by decide +kernel) (by decide +kernel)
set_option maxRecDepth 20000 in
theorem gX3_bought_X3_isMember : GoodIn wsX3_bought (wsV RX3 96 RX3 yX3_isMember wsX3_isMember) := goodIn_app (goodIn_of _ (by decide +kernel)) ggX3_bought_X3_isMember
set_option maxRecDepth 20000 in
theorem ggX3_bought_X3_isIn : GoodIn wsX3_bought wsX3_isIn := goodIn_r _ [10] (by decide +kernel) (by decide +kernel)
set_option maxRecDepth 20000 in
theorem gX3_bought_X3_isIn : GoodIn wsX3_bought (va_wsS RX3 74 yX3_isIn wsX3_isIn) := goodIn_app (goodIn_of _ (by decide +kernel)) ggX3_bought_X3_isIn
set_option maxRecDepth 20000 in
theorem ggX3_bought_X3_may : GoodIn wsX3_bought wsX3_may := goodIn_r _ [14, 15, 16, 17, 18, 19, 20, 21, 22, 23, 24, 25, 26, 27, 28, 29, 30, 31, 32, 33, 34, 35] (by decide +kernel) (by decide +kernel)
set_option maxRecDepth 20000 in
theorem gX3_bought_X3_may : GoodIn wsX3_bought (wsV RX3 92 RX3 yX3_may wsX3_may) := goodIn_app (goodIn_of _ (by decide +kernel)) ggX3_bought_X3_may
set_option maxRecDepth 20000 in
theorem ggX3_paidEach_X3_isMember : GoodIn wsX3_paidEach wsX3_isMember := goodIn_r _ [7, 8, 9, 10, 6, 11, 17, 18, 19, 20, 21, 22, 23, 24, 25, 26, 27, 28, 29, 30, 31, 32, 33, 34, 35, 36] (by decide +kernel) (by decide +kernel)
set_option maxRecDepth 20000 in
theorem gX3_paidEach_X3_isMember : GoodIn wsX3_paidEach (wsV RX3 96 RX3 yX3_isMember wsX3_isMember) := goodIn_app (goodIn_of _ (by decide +kernel)) ggX3_paidEach_X3_isMember
set_option maxRecDepth 20000 in
theorem ggX3_paidEach_X3_isIn : GoodIn wsX3_paidEach wsX3_isIn := goodIn_r _ [11] (by decide +kernel) (by decide +kernel)
set_option maxRecDepth 20000 in
theorem gX3_paidEach_X3_isIn : GoodIn wsX3_paidEach (va_wsS RX3 74 yX3_isIn wsX3_isIn) := goodIn_app (goodIn_of _ (by decide +kernel)) ggX3_paidEach_X3_isIn
set_option maxRecDepth 20000 in
theorem ggX3_paidEach_X3_may : GoodIn wsX3_paidEach wsX3_may := goodIn_r _ [15, 16, 17, 18, 19, 20, 21, 22, 23, 24, 25, 26, 27, 28, 29, 30, 31, 32, 33, 34, 35, 36] (by decide +kernel) (by decide +kernel)
set_option maxRecDepth 20000 in
theorem gX3_paidEach_X3_may : GoodIn wsX3_paidEach (wsV RX3 92 RX3 yX3_may wsX3_may) := goodIn_app (goodIn_of _ (by decide +kernel)) ggX3_paidEach_X3_may
set_option maxRecDepth 20000 in
theorem ggX3_counted_X3_isMember : GoodIn wsX3_counted wsX3_isMember := goodIn_r _ [5, 6, 7, 8, 4, 9, 22, 23, 24, 25, 26, 27, 28, 29, 30, 31, 32, 33, 34, 35, 36, 37, 38, 39, 40, 41] (by decide +kernel) (by decide +kernel)
set_option maxRecDepth 20000 in
theorem gX3_counted_X3_isMember : GoodIn wsX3_counted (wsV RX3 96 RX3 yX3_isMember wsX3_isMember) := goodIn_app (goodIn_of _ (by decide +kernel)) ggX3_counted_X3_isMember
set_option maxRecDepth 20000 in
theorem ggX3_counted_X3_isIn : GoodIn wsX3_counted wsX3_isIn := goodIn_r _ [9] (by decide +kernel) (by decide +kernel)
set_option maxRecDepth 20000 in
theorem gX3_counted_X3_isIn : GoodIn wsX3_counted (va_wsS RX3 74 yX3_isIn wsX3_isIn) := goodIn_app (goodIn_of _ (by decide +kernel)) ggX3_counted_X3_isIn
set_option maxRecDepth 20000 in
theorem ggX3_counted_X3_may : GoodIn wsX3_counted wsX3_may := goodIn_r _ [13, 14, 22, 23, 24, 25, 26, 27, 28, 29, 30, 31, 32, 33, 34, 35, 36, 37, 38, 39, 40, 41] (by decide +kernel) (by decide +kernel)
set_option maxRecDepth 20000 in
theorem gX3_counted_X3_may : GoodIn wsX3_counted (wsV RX3 92 RX3 yX3_may wsX3_may) := goodIn_app (goodIn_of _ (by decide +kernel)) ggX3_counted_X3_may
set_option maxRecDepth 20000 in
theorem ggX3_counted_X3_countedIn : GoodIn wsX3_counted wsX3_countedIn := goodIn_r _ [18, 19, 20, 21, 22, 23, 24, 25, 26, 27, 28, 29, 30, 31, 32, 33, 34, 35, 36, 37, 38, 39, 40, 41] (by decide +kernel) (by decide +kernel)
set_option maxRecDepth 20000 in
theorem gX3_counted_X3_countedIn : GoodIn wsX3_counted (wsV RX3 78 RX3 yX3_countedIn wsX3_countedIn) := goodIn_app (goodIn_of _ (by decide +kernel)) ggX3_counted_X3_countedIn
set_option maxRecDepth 20000 in
theorem ggX3_traced_X3_isMember : GoodIn wsX3_traced wsX3_isMember := goodIn_r _ [8, 9, 10, 11, 7, 12, 18, 19, 20, 21, 22, 23, 24, 25, 26, 27, 28, 29, 30, 31, 32, 33, 34, 35, 36, 37] (by decide +kernel) (by decide +kernel)
set_option maxRecDepth 20000 in
theorem gX3_traced_X3_isMember : GoodIn wsX3_traced (wsV RX3 96 RX3 yX3_isMember wsX3_isMember) := goodIn_app (goodIn_of _ (by decide +kernel)) ggX3_traced_X3_isMember
set_option maxRecDepth 20000 in
theorem ggX3_traced_X3_may : GoodIn wsX3_traced wsX3_may := goodIn_r _ [16, 17, 18, 19, 20, 21, 22, 23, 24, 25, 26, 27, 28, 29, 30, 31, 32, 33, 34, 35, 36, 37] (by decide +kernel) (by decide +kernel)
set_option maxRecDepth 20000 in
theorem gX3_traced_X3_may : GoodIn wsX3_traced (wsV RX3 92 RX3 yX3_may wsX3_may) := goodIn_app (goodIn_of _ (by decide +kernel)) ggX3_traced_X3_may
set_option maxRecDepth 20000 in
theorem ggX3_kept_X3_isMember : GoodIn wsX3_kept wsX3_isMember := goodIn_r _ [6, 7, 8, 9, 5, 10, 16, 17, 18, 19, 20, 21, 22, 23, 24, 25, 26, 27, 28, 29, 30, 31, 32, 33, 34, 35] (by decide +kernel) (by decide +kernel)
set_option maxRecDepth 20000 in
theorem gX3_kept_X3_isMember : GoodIn wsX3_kept (wsV RX3 96 RX3 yX3_isMember wsX3_isMember) := goodIn_app (goodIn_of _ (by decide +kernel)) ggX3_kept_X3_isMember
set_option maxRecDepth 20000 in
theorem ggX3_kept_X3_may : GoodIn wsX3_kept wsX3_may := goodIn_r _ [14, 15, 16, 17, 18, 19, 20, 21, 22, 23, 24, 25, 26, 27, 28, 29, 30, 31, 32, 33, 34, 35] (by decide +kernel) (by decide +kernel)
set_option maxRecDepth 20000 in
theorem gX3_kept_X3_may : GoodIn wsX3_kept (wsV RX3 92 RX3 yX3_may wsX3_may) := goodIn_app (goodIn_of _ (by decide +kernel)) ggX3_kept_X3_may
set_option maxRecDepth 20000 in
theorem ggX3_payOf_X3_isEarly : GoodIn wsX3_payOf wsX3_isEarly := goodIn_r _ [9, 3, 4, 10, 11, 12, 13, 14, 15, 16, 17, 18, 19, 20, 21, 22, 23, 24, 25, 26, 27, 28, 29] (by decide +kernel) (by decide +kernel)
set_option maxRecDepth 20000 in
theorem gX3_payOf_X3_isEarly : GoodIn wsX3_payOf (wsV RX3 112 RX3 yX3_isEarly wsX3_isEarly) := goodIn_app (goodIn_of _ (by decide +kernel)) ggX3_payOf_X3_isEarly
set_option maxRecDepth 20000 in
theorem ggX3_gainOf_X3_payOf : GoodIn wsX3_gainOf wsX3_payOf := goodIn_r _ [8, 1, 3, 2, 9, 10, 11, 12, 7, 13, 14, 15, 16, 17, 18, 19, 20, 21, 22, 23, 24, 25, 26, 27, 28, 29, 30, 31, 32, 33] (by decide +kernel) (by decide +kernel)
set_option maxRecDepth 20000 in
theorem gX3_gainOf_X3_payOf : GoodIn wsX3_gainOf (wsV RX3 115 RX3 yX3_payOf wsX3_payOf) := goodIn_app (goodIn_of _ (by decide +kernel)) ggX3_gainOf_X3_payOf
set_option maxRecDepth 20000 in
theorem ggX3_sell_X3_isMember : GoodIn wsX3_sell wsX3_isMember := goodIn_r _ [9, 10, 11, 12, 8, 13, 39, 40, 41, 42, 43, 44, 45, 46, 47, 48, 49, 50, 51, 52, 53, 54, 55, 56, 57, 58] (by decide +kernel) (by decide +kernel)
set_option maxRecDepth 20000 in
theorem gX3_sell_X3_isMember : GoodIn wsX3_sell (wsV RX3 96 RX3 yX3_isMember wsX3_isMember) := goodIn_app (goodIn_of _ (by decide +kernel)) ggX3_sell_X3_isMember
set_option maxRecDepth 20000 in
theorem ggX3_sell_X3_isIn : GoodIn wsX3_sell wsX3_isIn := goodIn_r _ [13] (by decide +kernel) (by decide +kernel)
set_option maxRecDepth 20000 in
theorem gX3_sell_X3_isIn : GoodIn wsX3_sell (va_wsS RX3 74 yX3_isIn wsX3_isIn) := goodIn_app (goodIn_of _ (by decide +kernel)) ggX3_sell_X3_isIn
set_option maxRecDepth 20000 in
theorem ggX3_sell_X3_sharesOf : GoodIn wsX3_sell wsX3_sharesOf := goodIn_r _ [17, 2, 39, 40, 41, 42, 43, 44, 45, 46, 47, 48, 49, 50, 51, 52, 53, 54, 55, 56, 57, 58] (by decide +kernel) (by decide +kernel)
set_option maxRecDepth 20000 in
theorem gX3_sell_X3_sharesOf : GoodIn wsX3_sell (wsV RX3 108 RX3 yX3_sharesOf wsX3_sharesOf) := goodIn_app (goodIn_of _ (by decide +kernel)) ggX3_sell_X3_sharesOf
set_option maxRecDepth 20000 in
theorem ggX3_sell_X3_mayAll : GoodIn wsX3_sell wsX3_mayAll := goodIn_r _ [21, 22, 39, 40, 41, 42, 43, 44, 45, 46, 47, 48, 49, 50, 51, 52, 53, 54, 55, 56, 57, 58] (by decide +kernel) (by decide +kernel)
set_option maxRecDepth 20000 in
theorem gX3_sell_X3_mayAll : GoodIn wsX3_sell (wsV RX3 103 RX3 yX3_mayAll wsX3_mayAll) := goodIn_app (goodIn_of _ (by decide +kernel)) ggX3_sell_X3_mayAll
set_option maxRecDepth 20000 in
theorem ggX3_sell_X3_payOf : GoodIn wsX3_sell wsX3_payOf := goodIn_r _ [26, 27, 28, 29, 30, 31, 32, 33, 8, 34, 39, 40, 41, 42, 43, 44, 45, 46, 47, 48, 49, 50, 51, 52, 53, 54, 55, 56, 57, 58] (by decide +kernel) (by decide +kernel)
set_option maxRecDepth 20000 in
theorem gX3_sell_X3_payOf : GoodIn wsX3_sell (wsV RX3 115 RX3 yX3_payOf wsX3_payOf) := goodIn_app (goodIn_of _ (by decide +kernel)) ggX3_sell_X3_payOf
set_option maxRecDepth 20000 in
theorem ggX3_sell_X3_gainOf : GoodIn wsX3_sell wsX3_gainOf := goodIn_r _ [38, 27, 29, 28, 23, 24, 25, 8, 26, 30, 31, 32, 33, 34, 39, 40, 41, 42, 43, 44, 45, 46, 47, 48, 49, 50, 51, 52, 53, 54, 55, 56, 57, 58] (by decide +kernel) (by decide +kernel)
set_option maxRecDepth 20000 in
theorem gX3_sell_X3_gainOf : GoodIn wsX3_sell (wsV RX3 119 RX3 yX3_gainOf wsX3_gainOf) := goodIn_app (goodIn_of _ (by decide +kernel)) ggX3_sell_X3_gainOf
set_option maxRecDepth 20000 in
theorem ggX3_sell_X3_isEarly : GoodIn wsX3_sell wsX3_isEarly := goodIn_r _ [34, 29, 30, 39, 40, 41, 42, 43, 44, 45, 46, 47, 48, 49, 50, 51, 52, 53, 54, 55, 56, 57, 58] (by decide +kernel) (by decide +kernel)
set_option maxRecDepth 20000 in
theorem gX3_sell_X3_isEarly : GoodIn wsX3_sell (wsV RX3 112 RX3 yX3_isEarly wsX3_isEarly) := goodIn_app (goodIn_of _ (by decide +kernel)) ggX3_sell_X3_isEarly
set_option maxRecDepth 20000 in
theorem ggX3_pay_X3_isMember : GoodIn wsX3_pay wsX3_isMember := goodIn_r _ [6, 7, 8, 9, 5, 10, 16, 17, 18, 19, 20, 21, 22, 23, 24, 25, 26, 27, 28, 29, 30, 31, 32, 33, 34, 35] (by decide +kernel) (by decide +kernel)
set_option maxRecDepth 20000 in
theorem gX3_pay_X3_isMember : GoodIn wsX3_pay (wsV RX3 96 RX3 yX3_isMember wsX3_isMember) := goodIn_app (goodIn_of _ (by decide +kernel)) ggX3_pay_X3_isMember
set_option maxRecDepth 20000 in
theorem ggX3_pay_X3_may : GoodIn wsX3_pay wsX3_may := goodIn_r _ [14, 15, 16, 17, 18, 19, 20, 21, 22, 23, 24, 25, 26, 27, 28, 29, 30, 31, 32, 33, 34, 35] (by decide +kernel) (by decide +kernel)
set_option maxRecDepth 20000 in
theorem gX3_pay_X3_may : GoodIn wsX3_pay (wsV RX3 92 RX3 yX3_may wsX3_may) := goodIn_app (goodIn_of _ (by decide +kernel)) ggX3_pay_X3_may
set_option maxRecDepth 20000 in
theorem ggX3_gain_X3_isMember : GoodIn wsX3_gain wsX3_isMember := goodIn_r _ [6, 7, 8, 9, 5, 10, 16, 17, 18, 19, 20, 21, 22, 23, 24, 25, 26, 27, 28, 29, 30, 31, 32, 33, 34, 35] (by decide +kernel) (by decide +kernel)
set_option maxRecDepth 20000 in
theorem gX3_gain_X3_isMember : GoodIn wsX3_gain (wsV RX3 96 RX3 yX3_isMember wsX3_isMember) := goodIn_app (goodIn_of _ (by decide +kernel)) ggX3_gain_X3_isMember
set_option maxRecDepth 20000 in
theorem ggX3_gain_X3_may : GoodIn wsX3_gain wsX3_may := goodIn_r _ [14, 15, 16, 17, 18, 19, 20, 21, 22, 23, 24, 25, 26, 27, 28, 29, 30, 31, 32, 33, 34, 35] (by decide +kernel) (by decide +kernel)
set_option maxRecDepth 20000 in
theorem gX3_gain_X3_may : GoodIn wsX3_gain (wsV RX3 92 RX3 yX3_may wsX3_may) := goodIn_app (goodIn_of _ (by decide +kernel)) ggX3_gain_X3_may
set_option maxRecDepth 20000 in
theorem ggX3_gainNow_X3_isMember : GoodIn wsX3_gainNow wsX3_isMember := goodIn_r _ [6, 7, 8, 9, 5, 10, 32, 33, 34, 35, 36, 37, 38, 39, 40, 41, 42, 43, 44, 45, 46, 47, 48, 49, 50, 51] (by decide +kernel) (by decide +kernel)
set_option maxRecDepth 20000 in
theorem gX3_gainNow_X3_isMember : GoodIn wsX3_gainNow (wsV RX3 96 RX3 yX3_isMember wsX3_isMember) := goodIn_app (goodIn_of _ (by decide +kernel)) ggX3_gainNow_X3_isMember
set_option maxRecDepth 20000 in
theorem ggX3_gainNow_X3_may : GoodIn wsX3_gainNow wsX3_may := goodIn_r _ [14, 15, 32, 33, 34, 35, 36, 37, 38, 39, 40, 41, 42, 43, 44, 45, 46, 47, 48, 49, 50, 51] (by decide +kernel) (by decide +kernel)
set_option maxRecDepth 20000 in
theorem gX3_gainNow_X3_may : GoodIn wsX3_gainNow (wsV RX3 92 RX3 yX3_may wsX3_may) := goodIn_app (goodIn_of _ (by decide +kernel)) ggX3_gainNow_X3_may
set_option maxRecDepth 20000 in
theorem ggX3_gainNow_X3_gainOf : GoodIn wsX3_gainNow wsX3_gainOf := goodIn_r _ [19, 20, 21, 22, 23, 24, 25, 5, 26, 27, 28, 29, 30, 31, 32, 33, 34, 35, 36, 37, 38, 39, 40, 41, 42, 43, 44, 45, 46, 47, 48, 49, 50, 51] (by decide +kernel) (by decide +kernel)
set_option maxRecDepth 20000 in
theorem gX3_gainNow_X3_gainOf : GoodIn wsX3_gainNow (wsV RX3 119 RX3 yX3_gainOf wsX3_gainOf) := goodIn_app (goodIn_of _ (by decide +kernel)) ggX3_gainNow_X3_gainOf
set_option maxRecDepth 20000 in
theorem ggL_next_X2_next : GoodIn wsL_next wsX2_next := goodIn_ca (goodIn_ca (goodIn_r _ [7, 8, 9, 10, 11, 12, 13, 14, 15, 16, 6, 17, 18, 19, 20, 21, 22, 23, 24, 25, 26, 27, 28, 29, 30, 31, 32, 33, 34, 35, 36, 37, 38, 39, 40, 41, 42, 43, 44, 45, 46, 47, 48, 49, 50, 51, 52, 53, 54, 55, 56, 57, 58, 59, 60, 61, 62, 63, 64, 65, 66, 67, 68, 69, 70, 71, 72, 73, 74, 75, 76, 77, 78, 79, 80, 81, 82, 83, 84, 85, 86, 87, 88, 89, 90, 91, 92, 93, 94, 95, 96, 97, 98, 99, 100, 101, 102, 103, 104, 105] (by decide +kernel) (by decide +kernel)) (goodIn_sub (fun _ h => List.mem_cons_of_mem _ (List.mem_append_left _ (List.mem_append_right _ h))) (by decide +kernel))) (goodIn_sub (fun _ h => List.mem_cons_of_mem _ (List.mem_append_right _ h)) (by decide +kernel))
set_option maxRecDepth 20000 in
theorem gL_next_X2_next : GoodIn wsL_next (wsV RL 7 RX2 yX2_next wsX2_next) := goodIn_app (goodIn_of _ (by decide +kernel)) ggL_next_X2_next
set_option maxRecDepth 20000 in
theorem ggL_ceiling_X2_ceiling : GoodIn wsL_ceiling wsX2_ceiling := goodIn_ca (goodIn_r _ [6, 7, 8, 9, 10, 11, 12, 13, 14, 15] (by decide +kernel) (by decide +kernel)) (goodIn_sub (fun _ h => List.mem_cons_of_mem _ (List.mem_append_right _ h)) (by decide +kernel))
set_option maxRecDepth 20000 in
theorem gL_ceiling_X2_ceiling : GoodIn wsL_ceiling (wsV RL 17 RX2 yX2_ceiling wsX2_ceiling) := goodIn_app (goodIn_of _ (by decide +kernel)) ggL_ceiling_X2_ceiling
set_option maxRecDepth 20000 in
theorem ggL_join_X2_join : GoodIn wsL_join wsX2_join := goodIn_ca (goodIn_ca (goodIn_r _ [7, 8, 9, 10, 11, 12, 13, 14, 15, 16, 17, 18, 6, 19, 20, 21, 22, 23, 24, 25, 26, 27, 28, 29, 30, 31, 32, 33, 34, 35, 36, 37, 38, 39, 40, 41, 42, 43, 44, 45, 46, 47, 48, 49, 50, 51, 52] (by decide +kernel) (by decide +kernel)) (goodIn_sub (fun _ h => List.mem_cons_of_mem _ (List.mem_append_left _ (List.mem_append_right _ h))) (by decide +kernel))) (goodIn_sub (fun _ h => List.mem_cons_of_mem _ (List.mem_append_right _ h)) (by decide +kernel))
set_option maxRecDepth 20000 in
theorem gL_join_X2_join : GoodIn wsL_join (wsV RL 20 RX2 yX2_join wsX2_join) := goodIn_app (goodIn_of _ (by decide +kernel)) ggL_join_X2_join
set_option maxRecDepth 20000 in
theorem ggL_rate_X2_rate : GoodIn wsL_rate wsX2_rate := goodIn_ca (goodIn_ca (goodIn_ca (goodIn_r _ [8, 9, 10, 11, 7, 12, 13, 14, 15, 16, 17, 18, 19, 20, 21, 22, 23, 24, 25, 26, 27, 28, 29, 30, 31, 32, 33, 34, 35, 36, 37, 38, 39, 40, 41, 42, 43, 44] (by decide +kernel) (by decide +kernel)) (goodIn_sub (fun _ h => List.mem_cons_of_mem _ (List.mem_append_left _ (List.mem_append_left _ (List.mem_append_right _ h)))) (by decide +kernel))) (goodIn_sub (fun _ h => List.mem_cons_of_mem _ (List.mem_append_left _ (List.mem_append_right _ h))) (by decide +kernel))) (goodIn_sub (fun _ h => List.mem_cons_of_mem _ (List.mem_append_right _ h)) (by decide +kernel))
set_option maxRecDepth 20000 in
theorem gL_rate_X2_rate : GoodIn wsL_rate (wsV RL 23 RX2 yX2_rate wsX2_rate) := goodIn_app (goodIn_of _ (by decide +kernel)) ggL_rate_X2_rate
set_option maxRecDepth 20000 in
theorem ggL_slip_X2_slip : GoodIn wsL_slip wsX2_slip := goodIn_ca (goodIn_ca (goodIn_ca (goodIn_r _ [8, 9, 10, 11, 12, 13, 14, 7, 15, 16, 17, 18, 19, 20, 21, 22, 23, 24, 25, 26, 27, 28, 29, 30, 31, 32, 33, 34, 35, 36, 37, 38, 39, 40, 41, 42, 43, 44, 45, 46, 47, 48, 49] (by decide +kernel) (by decide +kernel)) (goodIn_sub (fun _ h => List.mem_cons_of_mem _ (List.mem_append_left _ (List.mem_append_left _ (List.mem_append_right _ h)))) (by decide +kernel))) (goodIn_sub (fun _ h => List.mem_cons_of_mem _ (List.mem_append_left _ (List.mem_append_right _ h))) (by decide +kernel))) (goodIn_sub (fun _ h => List.mem_cons_of_mem _ (List.mem_append_right _ h)) (by decide +kernel))
set_option maxRecDepth 20000 in
theorem gL_slip_X2_slip : GoodIn wsL_slip (wsV RL 29 RX2 yX2_slip wsX2_slip) := goodIn_app (goodIn_of _ (by decide +kernel)) ggL_slip_X2_slip
set_option maxRecDepth 20000 in
theorem ggL_leave_X2_leave : GoodIn wsL_leave wsX2_leave := goodIn_ca (goodIn_ca (goodIn_r _ [7, 8, 9, 10, 6, 11, 12, 13, 14, 15, 16, 17, 18, 19, 20, 21, 22, 23, 24, 25, 26, 27, 28, 29, 30, 31, 32, 33, 34, 35, 36, 37, 38, 39, 40, 41, 42, 43, 44, 45] (by decide +kernel) (by decide +kernel)) (goodIn_sub (fun _ h => List.mem_cons_of_mem _ (List.mem_append_left _ (List.mem_append_right _ h))) (by decide +kernel))) (goodIn_sub (fun _ h => List.mem_cons_of_mem _ (List.mem_append_right _ h)) (by decide +kernel))
set_option maxRecDepth 20000 in
theorem gL_leave_X2_leave : GoodIn wsL_leave (wsV RL 32 RX2 yX2_leave wsX2_leave) := goodIn_app (goodIn_of _ (by decide +kernel)) ggL_leave_X2_leave
set_option maxRecDepth 20000 in
theorem ggL_money_X2_money : GoodIn wsL_money wsX2_money := goodIn_ca (goodIn_r _ [6, 7, 8, 9, 5, 10, 11, 12, 13, 14, 15, 16, 17, 18, 19, 20, 21, 22, 23, 24, 25, 26, 27, 28, 29, 30, 31, 32] (by decide +kernel) (by decide +kernel)) (goodIn_sub (fun _ h => List.mem_cons_of_mem _ (List.mem_append_right _ h)) (by decide +kernel))
set_option maxRecDepth 20000 in
theorem gL_money_X2_money : GoodIn wsL_money (wsV RL 35 RX2 yX2_money wsX2_money) := goodIn_app (goodIn_of _ (by decide +kernel)) ggL_money_X2_money
set_option maxRecDepth 20000 in
theorem ggL_offerMonth_X2_offerMonth : GoodIn wsL_offerMonth wsX2_offerMonth := goodIn_ca (goodIn_r _ [6, 7, 8, 9, 5, 10, 11, 12, 13, 14, 15, 16, 17, 18, 19, 20, 21, 22, 23, 24, 25, 26, 27, 28, 29, 30, 31, 32] (by decide +kernel) (by decide +kernel)) (goodIn_sub (fun _ h => List.mem_cons_of_mem _ (List.mem_append_right _ h)) (by decide +kernel))
set_option maxRecDepth 20000 in
theorem gL_offerMonth_X2_offerMonth : GoodIn wsL_offerMonth (wsV RL 38 RX2 yX2_offerMonth wsX2_offerMonth) := goodIn_app (goodIn_of _ (by decide +kernel)) ggL_offerMonth_X2_offerMonth
set_option maxRecDepth 20000 in
theorem ggL_offerPrice_X2_offerPrice : GoodIn wsL_offerPrice wsX2_offerPrice := goodIn_ca (goodIn_r _ [6, 7, 8, 9, 5, 10, 11, 12, 13, 14, 15, 16, 17, 18, 19, 20, 21, 22, 23, 24, 25, 26, 27, 28, 29, 30, 31, 32] (by decide +kernel) (by decide +kernel)) (goodIn_sub (fun _ h => List.mem_cons_of_mem _ (List.mem_append_right _ h)) (by decide +kernel))
set_option maxRecDepth 20000 in
theorem gL_offerPrice_X2_offerPrice : GoodIn wsL_offerPrice (wsV RL 41 RX2 yX2_offerPrice wsX2_offerPrice) := goodIn_app (goodIn_of _ (by decide +kernel)) ggL_offerPrice_X2_offerPrice
set_option maxRecDepth 20000 in
theorem ggL_resets_X2_resets : GoodIn wsL_resets wsX2_resets := goodIn_ca (goodIn_r _ [6, 7, 8, 9, 5, 10, 11, 12, 13, 14, 15, 16, 17, 18, 19, 20, 21, 22, 23, 24, 25, 26, 27, 28, 29, 30, 31, 32] (by decide +kernel) (by decide +kernel)) (goodIn_sub (fun _ h => List.mem_cons_of_mem _ (List.mem_append_right _ h)) (by decide +kernel))
set_option maxRecDepth 20000 in
theorem gL_resets_X2_resets : GoodIn wsL_resets (wsV RL 44 RX2 yX2_resets wsX2_resets) := goodIn_app (goodIn_of _ (by decide +kernel)) ggL_resets_X2_resets
set_option maxRecDepth 20000 in
theorem ggL_shares_X2_shares : GoodIn wsL_shares wsX2_shares := goodIn_ca (goodIn_r _ [6, 7, 8, 9, 5, 10, 11, 12, 13, 14, 15, 16, 17, 18, 19, 20, 21, 22, 23, 24, 25, 26, 27, 28, 29, 30, 31, 32, 33, 34, 35, 36, 37, 38, 39, 40, 41, 42, 43, 44] (by decide +kernel) (by decide +kernel)) (goodIn_sub (fun _ h => List.mem_cons_of_mem _ (List.mem_append_right _ h)) (by decide +kernel))
set_option maxRecDepth 20000 in
theorem gL_shares_X2_shares : GoodIn wsL_shares (wsV RL 47 RX2 yX2_shares wsX2_shares) := goodIn_app (goodIn_of _ (by decide +kernel)) ggL_shares_X2_shares
set_option maxRecDepth 20000 in
theorem ggL_bought_X2_bought : GoodIn wsL_bought wsX2_bought := goodIn_ca (goodIn_r _ [6, 7, 8, 9, 5, 10, 11, 12, 13, 14, 15, 16, 17, 18, 19, 20, 21, 22, 23, 24, 25, 26, 27, 28, 29, 30, 31, 32, 33, 34, 35, 36, 37, 38, 39, 40, 41, 42, 43, 44, 45, 46, 47, 48, 49] (by decide +kernel) (by decide +kernel)) (goodIn_sub (fun _ h => List.mem_cons_of_mem _ (List.mem_append_right _ h)) (by decide +kernel))
set_option maxRecDepth 20000 in
theorem gL_bought_X2_bought : GoodIn wsL_bought (wsV RL 50 RX2 yX2_bought wsX2_bought) := goodIn_app (goodIn_of _ (by decide +kernel)) ggL_bought_X2_bought
set_option maxRecDepth 20000 in
theorem ggL_paidEach_X2_paidEach : GoodIn wsL_paidEach wsX2_paidEach := goodIn_ca (goodIn_r _ [6, 7, 8, 9, 5, 10, 11, 12, 13, 14, 15, 16, 17, 18, 19, 20, 21, 22, 23, 24, 25, 26, 27, 28, 29, 30, 31, 32, 33, 34, 35, 36, 37, 38, 39, 40, 41, 42, 43, 44, 45, 46, 47, 48, 49] (by decide +kernel) (by decide +kernel)) (goodIn_sub (fun _ h => List.mem_cons_of_mem _ (List.mem_append_right _ h)) (by decide +kernel))
set_option maxRecDepth 20000 in
theorem gL_paidEach_X2_paidEach : GoodIn wsL_paidEach (wsV RL 53 RX2 yX2_paidEach wsX2_paidEach) := goodIn_app (goodIn_of _ (by decide +kernel)) ggL_paidEach_X2_paidEach
set_option maxRecDepth 20000 in
theorem ggL_counted_X2_counted : GoodIn wsL_counted wsX2_counted := goodIn_ca (goodIn_r _ [6, 7, 8, 9, 10, 11, 5, 12, 13, 14, 15, 16, 17, 18, 19, 20, 21, 22, 23, 24, 25, 26, 27, 28, 29, 30, 31, 32, 33, 34, 35, 36, 37] (by decide +kernel) (by decide +kernel)) (goodIn_sub (fun _ h => List.mem_cons_of_mem _ (List.mem_append_right _ h)) (by decide +kernel))
set_option maxRecDepth 20000 in
theorem gL_counted_X2_counted : GoodIn wsL_counted (wsV RL 56 RX2 yX2_counted wsX2_counted) := goodIn_app (goodIn_of _ (by decide +kernel)) ggL_counted_X2_counted
set_option maxRecDepth 20000 in
theorem ggL_traced_X2_traced : GoodIn wsL_traced wsX2_traced := goodIn_ca (goodIn_r _ [6, 7, 8, 9, 5, 10, 11, 12, 13, 14, 15, 16, 17, 18, 19, 20, 21, 22, 23, 24, 25, 26, 27, 28, 29, 30, 31, 32] (by decide +kernel) (by decide +kernel)) (goodIn_sub (fun _ h => List.mem_cons_of_mem _ (List.mem_append_right _ h)) (by decide +kernel))
set_option maxRecDepth 20000 in
theorem gL_traced_X2_traced : GoodIn wsL_traced (wsV RL 60 RX2 yX2_traced wsX2_traced) := goodIn_app (goodIn_of _ (by decide +kernel)) ggL_traced_X2_traced
set_option maxRecDepth 20000 in
theorem ggL_kept_X2_kept : GoodIn wsL_kept wsX2_kept := goodIn_ca (goodIn_r _ [6, 7, 8, 9, 5, 10, 11, 12, 13, 14, 15, 16, 17, 18, 19, 20, 21, 22, 23, 24, 25, 26, 27, 28, 29, 30, 31, 32] (by decide +kernel) (by decide +kernel)) (goodIn_sub (fun _ h => List.mem_cons_of_mem _ (List.mem_append_right _ h)) (by decide +kernel))
set_option maxRecDepth 20000 in
theorem gL_kept_X2_kept : GoodIn wsL_kept (wsV RL 64 RX2 yX2_kept wsX2_kept) := goodIn_app (goodIn_of _ (by decide +kernel)) ggL_kept_X2_kept
set_option maxRecDepth 20000 in
theorem ggL_sell_X2_sell : GoodIn wsL_sell wsX2_sell := goodIn_ca (goodIn_ca (goodIn_ca (goodIn_r _ [8, 9, 10, 11, 12, 13, 14, 15, 16, 17, 18, 7, 19, 20, 21, 22, 23, 24, 25, 26, 27, 28, 29, 30, 31, 32, 33, 34, 35, 36, 37, 38, 39, 40, 41, 42, 43, 44, 45, 46, 47, 48, 49, 50, 51, 52, 53, 54, 55, 56, 57, 58, 59, 60, 61, 62, 63, 64, 65, 66, 67, 68, 69, 70, 71, 72, 73, 74, 75, 76, 77, 78, 79, 80, 81, 82, 83] (by decide +kernel) (by decide +kernel)) (goodIn_sub (fun _ h => List.mem_cons_of_mem _ (List.mem_append_left _ (List.mem_append_left _ (List.mem_append_right _ h)))) (by decide +kernel))) (goodIn_sub (fun _ h => List.mem_cons_of_mem _ (List.mem_append_left _ (List.mem_append_right _ h))) (by decide +kernel))) (goodIn_sub (fun _ h => List.mem_cons_of_mem _ (List.mem_append_right _ h)) (by decide +kernel))
set_option maxRecDepth 20000 in
theorem gL_sell_X2_sell : GoodIn wsL_sell (wsV RL 67 RX2 yX2_sell wsX2_sell) := goodIn_app (goodIn_of _ (by decide +kernel)) ggL_sell_X2_sell
set_option maxRecDepth 20000 in
theorem ggL_pay_X2_pay : GoodIn wsL_pay wsX2_pay := goodIn_ca (goodIn_r _ [6, 7, 8, 9, 5, 10, 11, 12, 13, 14, 15, 16, 17, 18, 19, 20, 21, 22, 23, 24, 25, 26, 27, 28, 29, 30, 31, 32] (by decide +kernel) (by decide +kernel)) (goodIn_sub (fun _ h => List.mem_cons_of_mem _ (List.mem_append_right _ h)) (by decide +kernel))
set_option maxRecDepth 20000 in
theorem gL_pay_X2_pay : GoodIn wsL_pay (wsV RL 70 RX2 yX2_pay wsX2_pay) := goodIn_app (goodIn_of _ (by decide +kernel)) ggL_pay_X2_pay
set_option maxRecDepth 20000 in
theorem ggL_gain_X2_gain : GoodIn wsL_gain wsX2_gain := goodIn_ca (goodIn_r _ [6, 7, 8, 9, 5, 10, 11, 12, 13, 14, 15, 16, 17, 18, 19, 20, 21, 22, 23, 24, 25, 26, 27, 28, 29, 30, 31, 32] (by decide +kernel) (by decide +kernel)) (goodIn_sub (fun _ h => List.mem_cons_of_mem _ (List.mem_append_right _ h)) (by decide +kernel))
set_option maxRecDepth 20000 in
theorem gL_gain_X2_gain : GoodIn wsL_gain (wsV RL 73 RX2 yX2_gain wsX2_gain) := goodIn_app (goodIn_of _ (by decide +kernel)) ggL_gain_X2_gain
set_option maxRecDepth 20000 in
theorem ggL_gainNow_X2_gainNow : GoodIn wsL_gainNow wsX2_gainNow := goodIn_ca (goodIn_r _ [6, 7, 8, 9, 10, 11, 5, 12, 13, 14, 15, 16, 17, 18, 19, 20, 21, 22, 23, 24, 25, 26, 27, 28, 29, 30, 31, 32, 33, 34, 35, 36, 37, 38, 39, 40, 41, 42, 43, 44, 45, 46, 47, 48, 49, 50, 51, 52, 53, 54, 55, 56, 57, 58, 59, 60, 61, 62, 63, 64, 65, 66, 67, 68, 69, 70] (by decide +kernel) (by decide +kernel)) (goodIn_sub (fun _ h => List.mem_cons_of_mem _ (List.mem_append_right _ h)) (by decide +kernel))
set_option maxRecDepth 20000 in
theorem gL_gainNow_X2_gainNow : GoodIn wsL_gainNow (wsV RL 76 RX2 yX2_gainNow wsX2_gainNow) := goodIn_app (goodIn_of _ (by decide +kernel)) ggL_gainNow_X2_gainNow
set_option maxRecDepth 20000 in
theorem ggL_law_X2_init : GoodIn wsL_law wsX2_init := goodIn_r _ [9, 10, 11, 12, 13, 14, 15, 16, 17, 18, 19, 461, 462, 463, 464, 465] (by decide +kernel) (by decide +kernel)
set_option maxRecDepth 20000 in
theorem gL_law_X2_init : GoodIn wsL_law (wsX2_init) := ggL_law_X2_init
set_option maxRecDepth 20000 in
theorem ggL_law_X3_init : GoodIn wsL_law wsX3_init := goodIn_r _ [22, 23, 11, 12, 24, 25, 26, 27, 28, 29, 30, 31, 32, 33, 6, 34, 35, 36, 37, 38, 39, 40, 41, 42, 43, 44, 466, 467, 468, 469, 470, 471, 472, 473, 474, 475, 476, 477, 478, 479, 480, 481, 482, 483, 484, 485] (by decide +kernel) (by decide +kernel)
set_option maxRecDepth 20000 in
theorem gL_law_X3_init : GoodIn wsL_law (wsX3_init) := ggL_law_X3_init
set_option maxRecDepth 20000 in
theorem ggL_law_L_next : GoodIn wsL_law wsL_next := goodIn_ca (goodIn_ca (goodIn_r _ [48, 49, 50, 51, 52, 53, 2, 54, 55, 56, 57, 58, 59, 16, 17, 60, 61, 62, 63, 64, 65, 66, 14, 19, 67, 68, 69, 70, 71, 72, 73, 74, 75, 76, 77, 78, 79, 80, 81, 82, 83, 84, 85, 86, 87, 88, 89, 90, 91, 92, 93, 94, 95, 96, 97, 98, 99, 11, 12, 100, 101, 102, 103, 104, 105, 106, 107, 108, 109, 110, 111, 112, 113, 114, 115, 116, 117, 118, 119, 120, 461, 462, 463, 464, 465, 486, 487, 488, 489, 490, 491, 492, 493, 494, 495, 496, 497, 498, 499, 500, 501, 502, 503, 504, 505, 506] (by decide +kernel) (by decide +kernel)) (goodIn_sub (fun _ h => List.mem_append_left _ (List.mem_append_left _ (List.mem_append_right _ h))) (by decide +kernel))) (goodIn_sub (fun _ h => List.mem_append_left _ (List.mem_append_right _ h)) (by decide +kernel))
set_option maxRecDepth 20000 in
theorem gL_law_L_next : GoodIn wsL_law (va_wsS RL 83 yL_next wsL_next) := goodIn_app (goodIn_of _ (by decide +kernel)) ggL_law_L_next
set_option maxRecDepth 20000 in
theorem ggL_law_X3_next : GoodIn wsL_law wsX3_next := goodIn_r _ [124, 125, 24, 126, 31, 26, 127, 128, 5, 129, 130, 131, 132, 133, 134, 135, 136, 137, 138, 36, 28, 32, 41, 42, 43, 44, 34, 37, 38, 139, 140, 141, 142, 466, 467, 468, 469, 470, 471, 472, 473, 474, 475, 476, 477, 478, 479, 480, 481, 482, 483, 484, 485] (by decide +kernel) (by decide +kernel)
set_option maxRecDepth 20000 in
theorem gL_law_X3_next : GoodIn wsL_law (wsV RL 88 RX3 yX3_next wsX3_next) := goodIn_app (goodIn_of _ (by decide +kernel)) ggL_law_X3_next
set_option maxRecDepth 20000 in
theorem ggL_law_X3_thrown : GoodIn wsL_law wsX3_thrown := goodIn_r _ [146, 134, 466, 467, 468, 469, 470, 471, 472, 473, 474, 475, 476, 477, 478, 479, 480, 481, 482, 483, 484, 485] (by decide +kernel) (by decide +kernel)
set_option maxRecDepth 20000 in
theorem gL_law_X3_thrown : GoodIn wsL_law (wsV RL 89 RX3 yX3_thrown wsX3_thrown) := goodIn_app (goodIn_of _ (by decide +kernel)) ggL_law_X3_thrown
set_option maxRecDepth 20000 in
theorem ggL_law_X2_month : GoodIn wsL_law wsX2_month := goodIn_r _ [150, 16, 461, 462, 463, 464, 465] (by decide +kernel) (by decide +kernel)
set_option maxRecDepth 20000 in
theorem gL_law_X2_month : GoodIn wsL_law (wsV RL 93 RX2 yX2_month wsX2_month) := goodIn_app (goodIn_of _ (by decide +kernel)) ggL_law_X2_month
set_option maxRecDepth 20000 in
theorem ggL_law_X3_month : GoodIn wsL_law wsX3_month := goodIn_r _ [154, 134, 24, 466, 467, 468, 469, 470, 471, 472, 473, 474, 475, 476, 477, 478, 479, 480, 481, 482, 483, 484, 485] (by decide +kernel) (by decide +kernel)
set_option maxRecDepth 20000 in
theorem gL_law_X3_month : GoodIn wsL_law (wsV RL 96 RX3 yX3_month wsX3_month) := goodIn_app (goodIn_of _ (by decide +kernel)) ggL_law_X3_month
set_option maxRecDepth 20000 in
theorem ggL_law_L_ceiling : GoodIn wsL_law wsL_ceiling := goodIn_ca (goodIn_r _ [157, 49, 158, 159, 160, 2, 161, 55, 56, 162, 19, 461, 462, 463, 464, 465] (by decide +kernel) (by decide +kernel)) (goodIn_sub (fun _ h => List.mem_append_left _ (List.mem_append_left _ (List.mem_append_right _ h))) (by decide +kernel))
set_option maxRecDepth 20000 in
theorem gL_law_L_ceiling : GoodIn wsL_law (va_wsS RL 97 yL_ceiling wsL_ceiling) := goodIn_app (goodIn_of _ (by decide +kernel)) ggL_law_L_ceiling
set_option maxRecDepth 20000 in
theorem ggL_law_X3_ceiling : GoodIn wsL_law wsX3_ceiling := goodIn_r _ [166, 167, 28, 127, 128, 5, 129, 168, 169, 170, 171, 134, 466, 467, 468, 469, 470, 471, 472, 473, 474, 475, 476, 477, 478, 479, 480, 481, 482, 483, 484, 485] (by decide +kernel) (by decide +kernel)
set_option maxRecDepth 20000 in
theorem gL_law_X3_ceiling : GoodIn wsL_law (wsV RL 99 RX3 yX3_ceiling wsX3_ceiling) := goodIn_app (goodIn_of _ (by decide +kernel)) ggL_law_X3_ceiling
set_option maxRecDepth 20000 in
theorem ggL_law_L_join : GoodIn wsL_law wsL_join := goodIn_ca (goodIn_ca (goodIn_r _ [174, 49, 50, 175, 176, 177, 2, 178, 57, 58, 16, 15, 14, 13, 179, 68, 17, 180, 181, 182, 55, 56, 183, 184, 185, 11, 12, 80, 111, 6, 96, 186, 83, 71, 461, 462, 463, 464, 465, 486, 487, 488, 489, 490, 491, 492, 493, 494, 495, 496, 497, 498, 499] (by decide +kernel) (by decide +kernel)) (goodIn_sub (fun _ h => List.mem_append_left _ (List.mem_append_right _ h)) (by decide +kernel))) (goodIn_sub (fun _ h => List.mem_append_left _ (List.mem_append_left _ (List.mem_append_right _ h))) (by decide +kernel))
set_option maxRecDepth 20000 in
theorem gL_law_L_join : GoodIn wsL_law (va_wsS RL 100 yL_join wsL_join) := goodIn_app (goodIn_of _ (by decide +kernel)) ggL_law_L_join
set_option maxRecDepth 20000 in
theorem ggL_law_X3_join : GoodIn wsL_law wsX3_join := goodIn_r _ [190, 24, 126, 29, 36, 127, 128, 5, 129, 130, 131, 132, 133, 134, 466, 467, 468, 469, 470, 471, 472, 473, 474, 475, 476, 477, 478, 479, 480, 481, 482, 483, 484, 485] (by decide +kernel) (by decide +kernel)
set_option maxRecDepth 20000 in
theorem gL_law_X3_join : GoodIn wsL_law (wsV RL 102 RX3 yX3_join wsX3_join) := goodIn_app (goodIn_of _ (by decide +kernel)) ggL_law_X3_join
set_option maxRecDepth 20000 in
theorem ggL_law_L_rate : GoodIn wsL_law wsL_rate := goodIn_ca (goodIn_ca (goodIn_ca (goodIn_r _ [193, 194, 49, 50, 195, 196, 197, 2, 198, 199, 200, 201, 202, 203, 204, 14, 180, 181, 182, 55, 56, 205, 206, 207, 57, 58, 486, 487, 488, 489, 490, 491, 492, 493, 494, 495, 496, 497, 498, 499, 461, 462, 463, 464, 465] (by decide +kernel) (by decide +kernel)) (goodIn_sub (fun _ h => List.mem_append_right _ h) (by decide +kernel))) (goodIn_sub (fun _ h => List.mem_append_left _ (List.mem_append_left _ (List.mem_append_right _ h))) (by decide +kernel))) (goodIn_sub (fun _ h => List.mem_append_left _ (List.mem_append_right _ h)) (by decide +kernel))
set_option maxRecDepth 20000 in
theorem gL_law_L_rate : GoodIn wsL_law (va_wsS RL 103 yL_rate wsL_rate) := goodIn_app (goodIn_of _ (by decide +kernel)) ggL_law_L_rate
set_option maxRecDepth 20000 in
theorem ggL_law_X3_rate : GoodIn wsL_law wsX3_rate := goodIn_r _ [211, 29, 212, 213, 214, 5, 215, 126, 127, 128, 129, 216, 217, 218, 219, 31, 220, 221, 222, 223, 134, 466, 467, 468, 469, 470, 471, 472, 473, 474, 475, 476, 477, 478, 479, 480, 481, 482, 483, 484, 485] (by decide +kernel) (by decide +kernel)
set_option maxRecDepth 20000 in
theorem gL_law_X3_rate : GoodIn wsL_law (wsV RL 106 RX3 yX3_rate wsX3_rate) := goodIn_app (goodIn_of _ (by decide +kernel)) ggL_law_X3_rate
set_option maxRecDepth 20000 in
theorem ggL_law_L_slip : GoodIn wsL_law wsL_slip := goodIn_ca (goodIn_ca (goodIn_ca (goodIn_r _ [226, 194, 49, 50, 227, 228, 229, 2, 230, 55, 56, 231, 199, 200, 201, 202, 203, 204, 14, 205, 206, 207, 57, 58, 232, 68, 233, 234, 186, 76, 235, 461, 462, 463, 464, 465, 486, 487, 488, 489, 490, 491, 492, 493, 494, 495, 496, 497, 498, 499] (by decide +kernel) (by decide +kernel)) (goodIn_sub (fun _ h => List.mem_append_left _ (List.mem_append_left _ (List.mem_append_right _ h))) (by decide +kernel))) (goodIn_sub (fun _ h => List.mem_append_right _ h) (by decide +kernel))) (goodIn_sub (fun _ h => List.mem_append_left _ (List.mem_append_right _ h)) (by decide +kernel))
set_option maxRecDepth 20000 in
theorem gL_law_L_slip : GoodIn wsL_law (va_wsS RL 107 yL_slip wsL_slip) := goodIn_app (goodIn_of _ (by decide +kernel)) ggL_law_L_slip
set_option maxRecDepth 20000 in
theorem ggL_law_X3_slip : GoodIn wsL_law wsX3_slip := goodIn_r _ [239, 240, 29, 32, 35, 212, 213, 214, 5, 215, 126, 127, 128, 129, 216, 217, 218, 219, 31, 220, 221, 222, 223, 134, 466, 467, 468, 469, 470, 471, 472, 473, 474, 475, 476, 477, 478, 479, 480, 481, 482, 483, 484, 485] (by decide +kernel) (by decide +kernel)
set_option maxRecDepth 20000 in
theorem gL_law_X3_slip : GoodIn wsL_law (wsV RL 109 RX3 yX3_slip wsX3_slip) := goodIn_app (goodIn_of _ (by decide +kernel)) ggL_law_X3_slip
set_option maxRecDepth 20000 in
theorem ggL_law_L_leave : GoodIn wsL_law wsL_leave := goodIn_ca (goodIn_ca (goodIn_r _ [243, 194, 50, 244, 245, 246, 2, 247, 199, 200, 201, 202, 203, 204, 14, 205, 206, 207, 57, 58, 248, 68, 249, 250, 76, 251, 252, 461, 462, 463, 464, 465, 486, 487, 488, 489, 490, 491, 492, 493, 494, 495, 496, 497, 498, 499] (by decide +kernel) (by decide +kernel)) (goodIn_sub (fun _ h => List.mem_append_right _ h) (by decide +kernel))) (goodIn_sub (fun _ h => List.mem_append_left _ (List.mem_append_right _ h)) (by decide +kernel))
set_option maxRecDepth 20000 in
theorem gL_law_L_leave : GoodIn wsL_law (va_wsS RL 110 yL_leave wsL_leave) := goodIn_app (goodIn_of _ (by decide +kernel)) ggL_law_L_leave
set_option maxRecDepth 20000 in
theorem ggL_law_X3_leave : GoodIn wsL_law wsX3_leave := goodIn_r _ [256, 31, 33, 32, 212, 213, 214, 5, 215, 126, 127, 128, 129, 216, 217, 218, 219, 130, 131, 132, 133, 134, 466, 467, 468, 469, 470, 471, 472, 473, 474, 475, 476, 477, 478, 479, 480, 481, 482, 483, 484, 485] (by decide +kernel) (by decide +kernel)
set_option maxRecDepth 20000 in
theorem gL_law_X3_leave : GoodIn wsL_law (wsV RL 112 RX3 yX3_leave wsX3_leave) := goodIn_app (goodIn_of _ (by decide +kernel)) ggL_law_X3_leave
set_option maxRecDepth 20000 in
theorem ggL_law_L_money : GoodIn wsL_law wsL_money := goodIn_ca (goodIn_r _ [259, 194, 260, 261, 262, 2, 263, 199, 200, 201, 202, 203, 204, 14, 486, 487, 488, 489, 490, 491, 492, 493, 494, 495, 496, 497, 498, 499, 461, 462, 463, 464, 465] (by decide +kernel) (by decide +kernel)) (goodIn_sub (fun _ h => List.mem_append_right _ h) (by decide +kernel))
set_option maxRecDepth 20000 in
theorem gL_law_L_money : GoodIn wsL_law (va_wsS RL 113 yL_money wsL_money) := goodIn_app (goodIn_of _ (by decide +kernel)) ggL_law_L_money
set_option maxRecDepth 20000 in
theorem ggL_law_X3_money : GoodIn wsL_law wsX3_money := goodIn_r _ [267, 32, 212, 213, 214, 5, 215, 126, 127, 128, 129, 168, 169, 170, 171, 134, 466, 467, 468, 469, 470, 471, 472, 473, 474, 475, 476, 477, 478, 479, 480, 481, 482, 483, 484, 485] (by decide +kernel) (by decide +kernel)
set_option maxRecDepth 20000 in
theorem gL_law_X3_money : GoodIn wsL_law (wsV RL 115 RX3 yX3_money wsX3_money) := goodIn_app (goodIn_of _ (by decide +kernel)) ggL_law_X3_money
set_option maxRecDepth 20000 in
theorem ggL_law_L_offerMonth : GoodIn wsL_law wsL_offerMonth := goodIn_ca (goodIn_r _ [270, 194, 271, 272, 273, 2, 274, 199, 200, 201, 202, 203, 204, 14, 486, 487, 488, 489, 490, 491, 492, 493, 494, 495, 496, 497, 498, 499, 461, 462, 463, 464, 465] (by decide +kernel) (by decide +kernel)) (goodIn_sub (fun _ h => List.mem_append_right _ h) (by decide +kernel))
set_option maxRecDepth 20000 in
theorem gL_law_L_offerMonth : GoodIn wsL_law (va_wsS RL 116 yL_offerMonth wsL_offerMonth) := goodIn_app (goodIn_of _ (by decide +kernel)) ggL_law_L_offerMonth
set_option maxRecDepth 20000 in
theorem ggL_law_X3_offerMonth : GoodIn wsL_law wsX3_offerMonth := goodIn_r _ [278, 36, 212, 213, 214, 5, 215, 126, 127, 128, 129, 168, 169, 170, 171, 134, 466, 467, 468, 469, 470, 471, 472, 473, 474, 475, 476, 477, 478, 479, 480, 481, 482, 483, 484, 485] (by decide +kernel) (by decide +kernel)
set_option maxRecDepth 20000 in
theorem gL_law_X3_offerMonth : GoodIn wsL_law (wsV RL 118 RX3 yX3_offerMonth wsX3_offerMonth) := goodIn_app (goodIn_of _ (by decide +kernel)) ggL_law_X3_offerMonth
set_option maxRecDepth 20000 in
theorem ggL_law_L_offerPrice : GoodIn wsL_law wsL_offerPrice := goodIn_ca (goodIn_r _ [281, 194, 282, 283, 284, 2, 285, 199, 200, 201, 202, 203, 204, 14, 486, 487, 488, 489, 490, 491, 492, 493, 494, 495, 496, 497, 498, 499, 461, 462, 463, 464, 465] (by decide +kernel) (by decide +kernel)) (goodIn_sub (fun _ h => List.mem_append_right _ h) (by decide +kernel))
set_option maxRecDepth 20000 in
theorem gL_law_L_offerPrice : GoodIn wsL_law (va_wsS RL 119 yL_offerPrice wsL_offerPrice) := goodIn_app (goodIn_of _ (by decide +kernel)) ggL_law_L_offerPrice
set_option maxRecDepth 20000 in
theorem ggL_law_X3_offerPrice : GoodIn wsL_law wsX3_offerPrice := goodIn_r _ [289, 26, 36, 212, 213, 214, 5, 215, 126, 127, 128, 129, 168, 169, 170, 171, 134, 466, 467, 468, 469, 470, 471, 472, 473, 474, 475, 476, 477, 478, 479, 480, 481, 482, 483, 484, 485] (by decide +kernel) (by decide +kernel)
set_option maxRecDepth 20000 in
theorem gL_law_X3_offerPrice : GoodIn wsL_law (wsV RL 121 RX3 yX3_offerPrice wsX3_offerPrice) := goodIn_app (goodIn_of _ (by decide +kernel)) ggL_law_X3_offerPrice
set_option maxRecDepth 20000 in
theorem ggL_law_L_resets : GoodIn wsL_law wsL_resets := goodIn_ca (goodIn_r _ [292, 194, 293, 294, 295, 2, 296, 199, 200, 201, 202, 203, 204, 14, 486, 487, 488, 489, 490, 491, 492, 493, 494, 495, 496, 497, 498, 499, 461, 462, 463, 464, 465] (by decide +kernel) (by decide +kernel)) (goodIn_sub (fun _ h => List.mem_append_right _ h) (by decide +kernel))
set_option maxRecDepth 20000 in
theorem gL_law_L_resets : GoodIn wsL_law (va_wsS RL 122 yL_resets wsL_resets) := goodIn_app (goodIn_of _ (by decide +kernel)) ggL_law_L_resets
set_option maxRecDepth 20000 in
theorem ggL_law_X3_resets : GoodIn wsL_law wsX3_resets := goodIn_r _ [300, 38, 212, 213, 214, 5, 215, 126, 127, 128, 129, 168, 169, 170, 171, 134, 466, 467, 468, 469, 470, 471, 472, 473, 474, 475, 476, 477, 478, 479, 480, 481, 482, 483, 484, 485] (by decide +kernel) (by decide +kernel)
set_option maxRecDepth 20000 in
theorem gL_law_X3_resets : GoodIn wsL_law (wsV RL 124 RX3 yX3_resets wsX3_resets) := goodIn_app (goodIn_of _ (by decide +kernel)) ggL_law_X3_resets
set_option maxRecDepth 20000 in
theorem ggL_law_L_shares : GoodIn wsL_law wsL_shares := goodIn_ca (goodIn_r _ [303, 194, 304, 305, 306, 2, 307, 199, 200, 201, 202, 203, 204, 14, 308, 68, 309, 310, 111, 461, 462, 463, 464, 465, 486, 487, 488, 489, 490, 491, 492, 493, 494, 495, 496, 497, 498, 499, 500, 501, 502, 503, 504, 505, 506] (by decide +kernel) (by decide +kernel)) (goodIn_sub (fun _ h => List.mem_append_right _ h) (by decide +kernel))
set_option maxRecDepth 20000 in
theorem gL_law_L_shares : GoodIn wsL_law (va_wsS RL 125 yL_shares wsL_shares) := goodIn_app (goodIn_of _ (by decide +kernel)) ggL_law_L_shares
set_option maxRecDepth 20000 in
theorem ggL_law_X3_shares : GoodIn wsL_law wsX3_shares := goodIn_r _ [314, 212, 213, 214, 5, 215, 126, 127, 128, 129, 168, 169, 170, 171, 134, 315, 316, 317, 318, 42, 466, 467, 468, 469, 470, 471, 472, 473, 474, 475, 476, 477, 478, 479, 480, 481, 482, 483, 484, 485] (by decide +kernel) (by decide +kernel)
set_option maxRecDepth 20000 in
theorem gL_law_X3_shares : GoodIn wsL_law (wsV RL 127 RX3 yX3_shares wsX3_shares) := goodIn_app (goodIn_of _ (by decide +kernel)) ggL_law_X3_shares
set_option maxRecDepth 20000 in
theorem ggL_law_L_bought : GoodIn wsL_law wsL_bought := goodIn_ca (goodIn_r _ [321, 194, 322, 323, 324, 2, 325, 199, 200, 201, 202, 203, 204, 14, 326, 327, 328, 329, 68, 330, 331, 111, 61, 62, 500, 501, 502, 503, 504, 505, 506, 461, 462, 463, 464, 465, 486, 487, 488, 489, 490, 491, 492, 493, 494, 495, 496, 497, 498, 499] (by decide +kernel) (by decide +kernel)) (goodIn_sub (fun _ h => List.mem_append_right _ h) (by decide +kernel))
set_option maxRecDepth 20000 in
theorem gL_law_L_bought : GoodIn wsL_law (va_wsS RL 128 yL_bought wsL_bought) := goodIn_app (goodIn_of _ (by decide +kernel)) ggL_law_L_bought
set_option maxRecDepth 20000 in
theorem ggL_law_X3_bought : GoodIn wsL_law wsX3_bought := goodIn_r _ [335, 41, 212, 213, 214, 5, 215, 126, 127, 128, 129, 168, 169, 170, 171, 134, 466, 467, 468, 469, 470, 471, 472, 473, 474, 475, 476, 477, 478, 479, 480, 481, 482, 483, 484, 485] (by decide +kernel) (by decide +kernel)
set_option maxRecDepth 20000 in
theorem gL_law_X3_bought : GoodIn wsL_law (wsV RL 130 RX3 yX3_bought wsX3_bought) := goodIn_app (goodIn_of _ (by decide +kernel)) ggL_law_X3_bought
set_option maxRecDepth 20000 in
theorem ggL_law_L_paidEach : GoodIn wsL_law wsL_paidEach := goodIn_ca (goodIn_r _ [338, 194, 339, 340, 341, 2, 342, 199, 200, 201, 202, 203, 204, 14, 326, 327, 328, 329, 68, 330, 331, 111, 61, 62, 500, 501, 502, 503, 504, 505, 506, 461, 462, 463, 464, 465, 486, 487, 488, 489, 490, 491, 492, 493, 494, 495, 496, 497, 498, 499] (by decide +kernel) (by decide +kernel)) (goodIn_sub (fun _ h => List.mem_append_right _ h) (by decide +kernel))
set_option maxRecDepth 20000 in
theorem gL_law_L_paidEach : GoodIn wsL_law (va_wsS RL 131 yL_paidEach wsL_paidEach) := goodIn_app (goodIn_of _ (by decide +kernel)) ggL_law_L_paidEach
set_option maxRecDepth 20000 in
theorem ggL_law_X3_paidEach : GoodIn wsL_law wsX3_paidEach := goodIn_r _ [346, 41, 43, 212, 213, 214, 5, 215, 126, 127, 128, 129, 168, 169, 170, 171, 134, 466, 467, 468, 469, 470, 471, 472, 473, 474, 475, 476, 477, 478, 479, 480, 481, 482, 483, 484, 485] (by decide +kernel) (by decide +kernel)
set_option maxRecDepth 20000 in
theorem gL_law_X3_paidEach : GoodIn wsL_law (wsV RL 133 RX3 yX3_paidEach wsX3_paidEach) := goodIn_app (goodIn_of _ (by decide +kernel)) ggL_law_X3_paidEach
set_option maxRecDepth 20000 in
theorem ggL_law_L_counted : GoodIn wsL_law wsL_counted := goodIn_ca (goodIn_r _ [349, 194, 350, 351, 352, 2, 353, 203, 204, 199, 200, 201, 202, 14, 93, 68, 94, 95, 96, 461, 462, 463, 464, 465, 486, 487, 488, 489, 490, 491, 492, 493, 494, 495, 496, 497, 498, 499] (by decide +kernel) (by decide +kernel)) (goodIn_sub (fun _ h => List.mem_append_right _ h) (by decide +kernel))
set_option maxRecDepth 20000 in
theorem gL_law_L_counted : GoodIn wsL_law (va_wsS RL 134 yL_counted wsL_counted) := goodIn_app (goodIn_of _ (by decide +kernel)) ggL_law_L_counted
set_option maxRecDepth 20000 in
theorem ggL_law_X3_counted : GoodIn wsL_law wsX3_counted := goodIn_r _ [357, 212, 213, 214, 5, 215, 126, 127, 128, 129, 168, 169, 170, 171, 134, 139, 140, 141, 142, 41, 26, 44, 466, 467, 468, 469, 470, 471, 472, 473, 474, 475, 476, 477, 478, 479, 480, 481, 482, 483, 484, 485] (by decide +kernel) (by decide +kernel)
set_option maxRecDepth 20000 in
theorem gL_law_X3_counted : GoodIn wsL_law (wsV RL 136 RX3 yX3_counted wsX3_counted) := goodIn_app (goodIn_of _ (by decide +kernel)) ggL_law_X3_counted
set_option maxRecDepth 20000 in
theorem ggL_law_L_traced : GoodIn wsL_law wsL_traced := goodIn_ca (goodIn_r _ [360, 194, 361, 362, 363, 2, 364, 199, 200, 201, 202, 203, 204, 14, 486, 487, 488, 489, 490, 491, 492, 493, 494, 495, 496, 497, 498, 499, 461, 462, 463, 464, 465] (by decide +kernel) (by decide +kernel)) (goodIn_sub (fun _ h => List.mem_append_right _ h) (by decide +kernel))
set_option maxRecDepth 20000 in
theorem gL_law_L_traced : GoodIn wsL_law (va_wsS RL 137 yL_traced wsL_traced) := goodIn_app (goodIn_of _ (by decide +kernel)) ggL_law_L_traced
set_option maxRecDepth 20000 in
theorem ggL_law_X3_traced : GoodIn wsL_law wsX3_traced := goodIn_r _ [368, 34, 32, 33, 212, 213, 214, 5, 215, 126, 127, 128, 129, 168, 169, 170, 171, 134, 466, 467, 468, 469, 470, 471, 472, 473, 474, 475, 476, 477, 478, 479, 480, 481, 482, 483, 484, 485] (by decide +kernel) (by decide +kernel)
set_option maxRecDepth 20000 in
theorem gL_law_X3_traced : GoodIn wsL_law (wsV RL 139 RX3 yX3_traced wsX3_traced) := goodIn_app (goodIn_of _ (by decide +kernel)) ggL_law_X3_traced
set_option maxRecDepth 20000 in
theorem ggL_law_L_kept : GoodIn wsL_law wsL_kept := goodIn_ca (goodIn_r _ [371, 194, 372, 373, 374, 2, 375, 199, 200, 201, 202, 203, 204, 14, 486, 487, 488, 489, 490, 491, 492, 493, 494, 495, 496, 497, 498, 499, 461, 462, 463, 464, 465] (by decide +kernel) (by decide +kernel)) (goodIn_sub (fun _ h => List.mem_append_right _ h) (by decide +kernel))
set_option maxRecDepth 20000 in
theorem gL_law_L_kept : GoodIn wsL_law (va_wsS RL 140 yL_kept wsL_kept) := goodIn_app (goodIn_of _ (by decide +kernel)) ggL_law_L_kept
set_option maxRecDepth 20000 in
theorem ggL_law_X3_kept : GoodIn wsL_law wsX3_kept := goodIn_r _ [379, 35, 212, 213, 214, 5, 215, 126, 127, 128, 129, 168, 169, 170, 171, 134, 466, 467, 468, 469, 470, 471, 472, 473, 474, 475, 476, 477, 478, 479, 480, 481, 482, 483, 484, 485] (by decide +kernel) (by decide +kernel)
set_option maxRecDepth 20000 in
theorem gL_law_X3_kept : GoodIn wsL_law (wsV RL 142 RX3 yX3_kept wsX3_kept) := goodIn_app (goodIn_of _ (by decide +kernel)) ggL_law_X3_kept
set_option maxRecDepth 20000 in
theorem ggL_law_L_sell : GoodIn wsL_law wsL_sell := goodIn_ca (goodIn_ca (goodIn_ca (goodIn_r _ [382, 194, 49, 50, 383, 384, 385, 2, 386, 55, 56, 57, 58, 387, 16, 17, 199, 200, 201, 202, 203, 204, 14, 308, 68, 309, 310, 111, 388, 389, 390, 72, 73, 74, 75, 391, 392, 393, 82, 394, 395, 101, 102, 104, 396, 397, 398, 399, 400, 401, 402, 403, 103, 100, 404, 405, 406, 407, 461, 462, 463, 464, 465, 486, 487, 488, 489, 490, 491, 492, 493, 494, 495, 496, 497, 498, 499, 500, 501, 502, 503, 504, 505, 506] (by decide +kernel) (by decide +kernel)) (goodIn_sub (fun _ h => List.mem_append_left _ (List.mem_append_left _ (List.mem_append_right _ h))) (by decide +kernel))) (goodIn_sub (fun _ h => List.mem_append_left _ (List.mem_append_right _ h)) (by decide +kernel))) (goodIn_sub (fun _ h => List.mem_append_right _ h) (by decide +kernel))
set_option maxRecDepth 20000 in
theorem gL_law_L_sell : GoodIn wsL_law (va_wsS RL 143 yL_sell wsL_sell) := goodIn_app (goodIn_of _ (by decide +kernel)) ggL_law_L_sell
set_option maxRecDepth 20000 in
theorem ggL_law_X3_sell : GoodIn wsL_law wsX3_sell := goodIn_r _ [411, 412, 42, 39, 40, 212, 213, 214, 5, 215, 126, 127, 128, 129, 315, 316, 317, 318, 220, 221, 222, 223, 134, 413, 414, 415, 416, 26, 43, 24, 44, 417, 418, 419, 420, 421, 422, 423, 424, 466, 467, 468, 469, 470, 471, 472, 473, 474, 475, 476, 477, 478, 479, 480, 481, 482, 483, 484, 485] (by decide +kernel) (by decide +kernel)
set_option maxRecDepth 20000 in
theorem gL_law_X3_sell : GoodIn wsL_law (wsV RL 145 RX3 yX3_sell wsX3_sell) := goodIn_app (goodIn_of _ (by decide +kernel)) ggL_law_X3_sell
set_option maxRecDepth 20000 in
theorem ggL_law_L_pay : GoodIn wsL_law wsL_pay := goodIn_ca (goodIn_r _ [427, 194, 428, 429, 430, 2, 431, 199, 200, 201, 202, 203, 204, 14, 486, 487, 488, 489, 490, 491, 492, 493, 494, 495, 496, 497, 498, 499, 461, 462, 463, 464, 465] (by decide +kernel) (by decide +kernel)) (goodIn_sub (fun _ h => List.mem_append_right _ h) (by decide +kernel))
set_option maxRecDepth 20000 in
theorem gL_law_L_pay : GoodIn wsL_law (va_wsS RL 146 yL_pay wsL_pay) := goodIn_app (goodIn_of _ (by decide +kernel)) ggL_law_L_pay
set_option maxRecDepth 20000 in
theorem ggL_law_X3_pay : GoodIn wsL_law wsX3_pay := goodIn_r _ [435, 39, 212, 213, 214, 5, 215, 126, 127, 128, 129, 168, 169, 170, 171, 134, 466, 467, 468, 469, 470, 471, 472, 473, 474, 475, 476, 477, 478, 479, 480, 481, 482, 483, 484, 485] (by decide +kernel) (by decide +kernel)
set_option maxRecDepth 20000 in
theorem gL_law_X3_pay : GoodIn wsL_law (wsV RL 148 RX3 yX3_pay wsX3_pay) := goodIn_app (goodIn_of _ (by decide +kernel)) ggL_law_X3_pay
set_option maxRecDepth 20000 in
theorem ggL_law_L_gain : GoodIn wsL_law wsL_gain := goodIn_ca (goodIn_r _ [438, 194, 439, 440, 441, 2, 442, 199, 200, 201, 202, 203, 204, 14, 486, 487, 488, 489, 490, 491, 492, 493, 494, 495, 496, 497, 498, 499, 461, 462, 463, 464, 465] (by decide +kernel) (by decide +kernel)) (goodIn_sub (fun _ h => List.mem_append_right _ h) (by decide +kernel))
set_option maxRecDepth 20000 in
theorem gL_law_L_gain : GoodIn wsL_law (va_wsS RL 149 yL_gain wsL_gain) := goodIn_app (goodIn_of _ (by decide +kernel)) ggL_law_L_gain
set_option maxRecDepth 20000 in
theorem ggL_law_X3_gain : GoodIn wsL_law wsX3_gain := goodIn_r _ [446, 40, 212, 213, 214, 5, 215, 126, 127, 128, 129, 168, 169, 170, 171, 134, 466, 467, 468, 469, 470, 471, 472, 473, 474, 475, 476, 477, 478, 479, 480, 481, 482, 483, 484, 485] (by decide +kernel) (by decide +kernel)
set_option maxRecDepth 20000 in
theorem gL_law_X3_gain : GoodIn wsL_law (wsV RL 151 RX3 yX3_gain wsX3_gain) := goodIn_app (goodIn_of _ (by decide +kernel)) ggL_law_X3_gain
set_option maxRecDepth 20000 in
theorem ggL_law_L_gainNow : GoodIn wsL_law wsL_gainNow := goodIn_ca (goodIn_r _ [449, 194, 450, 451, 452, 2, 453, 16, 17, 199, 200, 201, 202, 203, 204, 14, 454, 68, 455, 456, 111, 404, 82, 405, 406, 102, 407, 393, 394, 395, 101, 104, 396, 73, 74, 75, 397, 398, 399, 400, 401, 402, 403, 103, 100, 461, 462, 463, 464, 465, 486, 487, 488, 489, 490, 491, 492, 493, 494, 495, 496, 497, 498, 499, 500, 501, 502, 503, 504, 505, 506] (by decide +kernel) (by decide +kernel)) (goodIn_sub (fun _ h => List.mem_append_right _ h) (by decide +kernel))
set_option maxRecDepth 20000 in
theorem gL_law_L_gainNow : GoodIn wsL_law (va_wsS RL 152 yL_gainNow wsL_gainNow) := goodIn_app (goodIn_of _ (by decide +kernel)) ggL_law_L_gainNow
set_option maxRecDepth 20000 in
theorem ggL_law_X3_gainNow : GoodIn wsL_law wsX3_gainNow := goodIn_r _ [460, 42, 212, 213, 214, 5, 215, 126, 127, 128, 129, 168, 169, 170, 171, 134, 421, 422, 423, 424, 26, 24, 43, 413, 414, 415, 416, 44, 417, 418, 419, 420, 466, 467, 468, 469, 470, 471, 472, 473, 474, 475, 476, 477, 478, 479, 480, 481, 482, 483, 484, 485] (by decide +kernel) (by decide +kernel)
set_option maxRecDepth 20000 in
theorem gL_law_X3_gainNow : GoodIn wsL_law (wsV RL 154 RX3 yX3_gainNow wsX3_gainNow) := goodIn_app (goodIn_of _ (by decide +kernel)) ggL_law_X3_gainNow
