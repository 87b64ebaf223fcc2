set_option maxRecDepth 20000 in
theorem ggX4_bid_X4_banned : GoodIn wsX4_bid wsX4_banned := goodIn_r _ [21, 22, 23, 36, 37, 38, 39, 40, 41, 42, 43, 44, 45, 46, 47, 48, 49, 50, 51, 52] (by decide +kernel) (by decide +kernel)
set_option maxRecDepth 20000 in
theorem gX4_bid_X4_banned : GoodIn wsX4_bid (wsV RX4 87 RX4 yX4_banned wsX4_banned) := goodIn_app (goodIn_of _ (by decide +kernel)) ggX4_bid_X4_banned
set_option maxRecDepth 20000 in
theorem ggX4_bid_X4_asked__ : GoodIn wsX4_bid wsX4_asked__ := goodIn_r _ [27, 28, 36, 37, 38, 39, 40, 41, 42, 43, 44, 45, 46, 47, 48, 49, 50, 51, 52] (by decide +kernel) (by decide +kernel)
set_option maxRecDepth 20000 in
theorem gX4_bid_X4_asked__ : GoodIn wsX4_bid (wsV RX4 90 RX4 yX4_asked__ wsX4_asked__) := goodIn_app (goodIn_of _ (by decide +kernel)) ggX4_bid_X4_asked__
set_option maxRecDepth 20000 in
theorem ggX4_bid_X4_offer : GoodIn wsX4_bid wsX4_offer := goodIn_r _ [32, 33, 6, 34, 5, 4, 35, 36, 37, 38, 39, 40, 41, 42, 43, 44, 45, 46, 47, 48, 49, 50, 51, 52] (by decide +kernel) (by decide +kernel)
set_option maxRecDepth 20000 in
theorem gX4_bid_X4_offer : GoodIn wsX4_bid (wsV RX4 100 RX4 yX4_offer wsX4_offer) := goodIn_app (goodIn_of _ (by decide +kernel)) ggX4_bid_X4_offer
set_option maxRecDepth 20000 in
theorem ggX4_cancelSale_X4_isCard : GoodIn wsX4_cancelSale wsX4_isCard := goodIn_r _ [7, 8, 9, 10, 6, 11, 17, 18, 19, 20, 21, 22, 23, 24, 25, 26, 27, 28, 29, 30, 31, 32, 33] (by decide +kernel) (by decide +kernel)
set_option maxRecDepth 20000 in
theorem gX4_cancelSale_X4_isCard : GoodIn wsX4_cancelSale (wsV RX4 75 RX4 yX4_isCard wsX4_isCard) := goodIn_app (goodIn_of _ (by decide +kernel)) ggX4_cancelSale_X4_isCard
set_option maxRecDepth 20000 in
theorem ggX4_cancelSale_X4_asked_ : GoodIn wsX4_cancelSale wsX4_asked_ := goodIn_r _ [15, 16, 17, 18, 19, 20, 21, 22, 23, 24, 25, 26, 27, 28, 29, 30, 31, 32, 33] (by decide +kernel) (by decide +kernel)
set_option maxRecDepth 20000 in
theorem gX4_cancelSale_X4_asked_ : GoodIn wsX4_cancelSale (wsV RX4 71 RX4 yX4_asked_ wsX4_asked_) := goodIn_app (goodIn_of _ (by decide +kernel)) ggX4_cancelSale_X4_asked_
set_option maxRecDepth 20000 in
theorem ggX4_cancelBid_X4_isPlayer : GoodIn wsX4_cancelBid wsX4_isPlayer := goodIn_r _ [6, 7, 8, 5, 9] (by decide +kernel) (by decide +kernel)
set_option maxRecDepth 20000 in
theorem gX4_cancelBid_X4_isPlayer : GoodIn wsX4_cancelBid (va_wsS RX4 64 yX4_isPlayer wsX4_isPlayer) := goodIn_app (goodIn_of _ (by decide +kernel)) ggX4_cancelBid_X4_isPlayer
set_option maxRecDepth 20000 in
theorem ggX4_cancelBid_X4_isKind : GoodIn wsX4_cancelBid wsX4_isKind := goodIn_r _ [12, 7, 8, 5, 9] (by decide +kernel) (by decide +kernel)
set_option maxRecDepth 20000 in
theorem gX4_cancelBid_X4_isKind : GoodIn wsX4_cancelBid (va_wsS RX4 68 yX4_isKind wsX4_isKind) := goodIn_app (goodIn_of _ (by decide +kernel)) ggX4_cancelBid_X4_isKind
set_option maxRecDepth 20000 in
theorem ggX4_cancelBid_X4_asked_ : GoodIn wsX4_cancelBid wsX4_asked_ := goodIn_r _ [16, 17, 18, 19, 20, 21, 22, 23, 24, 25, 26, 27, 28, 29, 30, 31, 32, 33, 34] (by decide +kernel) (by decide +kernel)
set_option maxRecDepth 20000 in
theorem gX4_cancelBid_X4_asked_ : GoodIn wsX4_cancelBid (wsV RX4 71 RX4 yX4_asked_ wsX4_asked_) := goodIn_app (goodIn_of _ (by decide +kernel)) ggX4_cancelBid_X4_asked_
set_option maxRecDepth 20000 in
theorem ggX4_leastSale_X4_isKind : GoodIn wsX4_leastSale wsX4_isKind := goodIn_r _ [5, 6, 7, 4, 8] (by decide +kernel) (by decide +kernel)
set_option maxRecDepth 20000 in
theorem gX4_leastSale_X4_isKind : GoodIn wsX4_leastSale (va_wsS RX4 68 yX4_isKind wsX4_isKind) := goodIn_app (goodIn_of _ (by decide +kernel)) ggX4_leastSale_X4_isKind
set_option maxRecDepth 20000 in
theorem ggX4_leastSale_X4_asked : GoodIn wsX4_leastSale wsX4_asked := goodIn_r _ [12, 13, 23, 24, 25, 26, 27, 28, 29, 30, 31, 32, 33, 34, 35, 36, 37, 38, 39] (by decide +kernel) (by decide +kernel)
set_option maxRecDepth 20000 in
theorem gX4_leastSale_X4_asked : GoodIn wsX4_leastSale (wsV RX4 78 RX4 yX4_asked wsX4_asked) := goodIn_app (goodIn_of _ (by decide +kernel)) ggX4_leastSale_X4_asked
set_option maxRecDepth 20000 in
theorem ggX4_leastSale_X4_offer : GoodIn wsX4_leastSale wsX4_offer := goodIn_r _ [17, 18, 19, 20, 21, 1, 22, 23, 24, 25, 26, 27, 28, 29, 30, 31, 32, 33, 34, 35, 36, 37, 38, 39] (by decide +kernel) (by decide +kernel)
set_option maxRecDepth 20000 in
theorem gX4_leastSale_X4_offer : GoodIn wsX4_leastSale (wsV RX4 100 RX4 yX4_offer wsX4_offer) := goodIn_app (goodIn_of _ (by decide +kernel)) ggX4_leastSale_X4_offer
set_option maxRecDepth 20000 in
theorem ggX4_greatestBid_X4_isKind : GoodIn wsX4_greatestBid wsX4_isKind := goodIn_r _ [5, 6, 7, 4, 8] (by decide +kernel) (by decide +kernel)
set_option maxRecDepth 20000 in
theorem gX4_greatestBid_X4_isKind : GoodIn wsX4_greatestBid (va_wsS RX4 68 yX4_isKind wsX4_isKind) := goodIn_app (goodIn_of _ (by decide +kernel)) ggX4_greatestBid_X4_isKind
set_option maxRecDepth 20000 in
theorem ggX4_greatestBid_X4_asked : GoodIn wsX4_greatestBid wsX4_asked := goodIn_r _ [12, 13, 19, 20, 21, 22, 23, 24, 25, 26, 27, 28, 29, 30, 31, 32, 33, 34, 35] (by decide +kernel) (by decide +kernel)
set_option maxRecDepth 20000 in
theorem gX4_greatestBid_X4_asked : GoodIn wsX4_greatestBid (wsV RX4 78 RX4 yX4_asked wsX4_asked) := goodIn_app (goodIn_of _ (by decide +kernel)) ggX4_greatestBid_X4_asked
set_option maxRecDepth 20000 in
theorem ggX4_greatestBid_X4_bidder : GoodIn wsX4_greatestBid wsX4_bidder := goodIn_r _ [17, 1, 18, 19, 20, 21, 22, 23, 24, 25, 26, 27, 28, 29, 30, 31, 32, 33, 34, 35] (by decide +kernel) (by decide +kernel)
set_option maxRecDepth 20000 in
theorem gX4_greatestBid_X4_bidder : GoodIn wsX4_greatestBid (wsV RX4 96 RX4 yX4_bidder wsX4_bidder) := goodIn_app (goodIn_of _ (by decide +kernel)) ggX4_greatestBid_X4_bidder
set_option maxRecDepth 20000 in
theorem ggX4_swap_X4_isCard : GoodIn wsX4_swap wsX4_isCard := goodIn_r _ [8, 9, 10, 11, 7, 12, 18, 19, 20, 21, 22, 23, 24, 25, 26, 27, 28, 29, 30, 31, 32, 33, 34] (by decide +kernel) (by decide +kernel)
set_option maxRecDepth 20000 in
theorem gX4_swap_X4_isCard : GoodIn wsX4_swap (wsV RX4 75 RX4 yX4_isCard wsX4_isCard) := goodIn_app (goodIn_of _ (by decide +kernel)) ggX4_swap_X4_isCard
set_option maxRecDepth 20000 in
theorem ggX4_swap_X4_asked__ : GoodIn wsX4_swap wsX4_asked__ := goodIn_r _ [16, 17, 18, 19, 20, 21, 22, 23, 24, 25, 26, 27, 28, 29, 30, 31, 32, 33, 34] (by decide +kernel) (by decide +kernel)
set_option maxRecDepth 20000 in
theorem gX4_swap_X4_asked__ : GoodIn wsX4_swap (wsV RX4 90 RX4 yX4_asked__ wsX4_asked__) := goodIn_app (goodIn_of _ (by decide +kernel)) ggX4_swap_X4_asked__
set_option maxRecDepth 20000 in
theorem ggX4_agree_X4_isCard : GoodIn wsX4_agree wsX4_isCard := goodIn_r _ [8, 9, 10, 11, 7, 12, 18, 19, 20, 21, 22, 23, 24, 25, 26, 27, 28, 29, 30, 31, 32, 33, 34] (by decide +kernel) (by decide +kernel)
set_option maxRecDepth 20000 in
theorem gX4_agree_X4_isCard : GoodIn wsX4_agree (wsV RX4 75 RX4 yX4_isCard wsX4_isCard) := goodIn_app (goodIn_of _ (by decide +kernel)) ggX4_agree_X4_isCard
set_option maxRecDepth 20000 in
theorem ggX4_agree_X4_asked_ : GoodIn wsX4_agree wsX4_asked_ := goodIn_r _ [16, 17, 18, 19, 20, 21, 22, 23, 24, 25, 26, 27, 28, 29, 30, 31, 32, 33, 34] (by decide +kernel) (by decide +kernel)
set_option maxRecDepth 20000 in
theorem gX4_agree_X4_asked_ : GoodIn wsX4_agree (wsV RX4 71 RX4 yX4_asked_ wsX4_asked_) := goodIn_app (goodIn_of _ (by decide +kernel)) ggX4_agree_X4_asked_
set_option maxRecDepth 20000 in
theorem ggX4_cancelSwap_X4_isCard : GoodIn wsX4_cancelSwap wsX4_isCard := goodIn_r _ [6, 7, 8, 9, 5, 10, 16, 17, 18, 19, 20, 21, 22, 23, 24, 25, 26, 27, 28, 29, 30, 31, 32] (by decide +kernel) (by decide +kernel)
set_option maxRecDepth 20000 in
theorem gX4_cancelSwap_X4_isCard : GoodIn wsX4_cancelSwap (wsV RX4 75 RX4 yX4_isCard wsX4_isCard) := goodIn_app (goodIn_of _ (by decide +kernel)) ggX4_cancelSwap_X4_isCard
set_option maxRecDepth 20000 in
theorem ggX4_cancelSwap_X4_asked_ : GoodIn wsX4_cancelSwap wsX4_asked_ := goodIn_r _ [14, 15, 16, 17, 18, 19, 20, 21, 22, 23, 24, 25, 26, 27, 28, 29, 30, 31, 32] (by decide +kernel) (by decide +kernel)
set_option maxRecDepth 20000 in
theorem gX4_cancelSwap_X4_asked_ : GoodIn wsX4_cancelSwap (wsV RX4 71 RX4 yX4_asked_ wsX4_asked_) := goodIn_app (goodIn_of _ (by decide +kernel)) ggX4_cancelSwap_X4_asked_
set_option maxRecDepth 20000 in
theorem ggX4_lend_X4_isCard : GoodIn wsX4_lend wsX4_isCard := goodIn_r _ [10, 11, 12, 13, 9, 14, 23, 24, 25, 26, 27, 28, 29, 30, 31, 32, 33, 34, 35, 36, 37, 38, 39] (by decide +kernel) (by decide +kernel)
set_option maxRecDepth 20000 in
theorem gX4_lend_X4_isCard : GoodIn wsX4_lend (wsV RX4 75 RX4 yX4_isCard wsX4_isCard) := goodIn_app (goodIn_of _ (by decide +kernel)) ggX4_lend_X4_isCard
set_option maxRecDepth 20000 in
theorem ggX4_lend_X4_isPlayer : GoodIn wsX4_lend wsX4_isPlayer := goodIn_r _ [17, 12, 13, 9, 14] (by decide +kernel) (by decide +kernel)
set_option maxRecDepth 20000 in
theorem gX4_lend_X4_isPlayer : GoodIn wsX4_lend (va_wsS RX4 64 yX4_isPlayer wsX4_isPlayer) := goodIn_app (goodIn_of _ (by decide +kernel)) ggX4_lend_X4_isPlayer
set_option maxRecDepth 20000 in
theorem ggX4_lend_X4_in : GoodIn wsX4_lend wsX4_in := goodIn_r _ [14] (by decide +kernel) (by decide +kernel)
set_option maxRecDepth 20000 in
theorem gX4_lend_X4_in : GoodIn wsX4_lend (va_wsS RX4 54 yX4_in wsX4_in) := goodIn_app (goodIn_of _ (by decide +kernel)) ggX4_lend_X4_in
set_option maxRecDepth 20000 in
theorem ggX4_lend_X4_asked__ : GoodIn wsX4_lend wsX4_asked__ := goodIn_r _ [21, 22, 23, 24, 25, 26, 27, 28, 29, 30, 31, 32, 33, 34, 35, 36, 37, 38, 39] (by decide +kernel) (by decide +kernel)
set_option maxRecDepth 20000 in
theorem gX4_lend_X4_asked__ : GoodIn wsX4_lend (wsV RX4 90 RX4 yX4_asked__ wsX4_asked__) := goodIn_app (goodIn_of _ (by decide +kernel)) ggX4_lend_X4_asked__
set_option maxRecDepth 20000 in
theorem ggX4_ban_X4_isKind : GoodIn wsX4_ban wsX4_isKind := goodIn_r _ [6, 7, 8, 5, 9] (by decide +kernel) (by decide +kernel)
set_option maxRecDepth 20000 in
theorem gX4_ban_X4_isKind : GoodIn wsX4_ban (va_wsS RX4 68 yX4_isKind wsX4_isKind) := goodIn_app (goodIn_of _ (by decide +kernel)) ggX4_ban_X4_isKind
set_option maxRecDepth 20000 in
theorem ggX4_ban_X4_asked_ : GoodIn wsX4_ban wsX4_asked_ := goodIn_r _ [13, 14, 28, 29, 30, 31, 32, 33, 34, 35, 36, 37, 38, 39, 40, 41, 42, 43, 44] (by decide +kernel) (by decide +kernel)
set_option maxRecDepth 20000 in
theorem gX4_ban_X4_asked_ : GoodIn wsX4_ban (wsV RX4 71 RX4 yX4_asked_ wsX4_asked_) := goodIn_app (goodIn_of _ (by decide +kernel)) ggX4_ban_X4_asked_
set_option maxRecDepth 20000 in
theorem ggX4_ban_X4_banned : GoodIn wsX4_ban wsX4_banned := goodIn_r _ [18, 2, 1, 28, 29, 30, 31, 32, 33, 34, 35, 36, 37, 38, 39, 40, 41, 42, 43, 44] (by decide +kernel) (by decide +kernel)
set_option maxRecDepth 20000 in
theorem gX4_ban_X4_banned : GoodIn wsX4_ban (wsV RX4 87 RX4 yX4_banned wsX4_banned) := goodIn_app (goodIn_of _ (by decide +kernel)) ggX4_ban_X4_banned
set_option maxRecDepth 20000 in
theorem ggX4_ban_X4_clears : GoodIn wsX4_ban wsX4_clears := goodIn_r _ [22, 23, 24, 25, 26, 27, 28, 29, 30, 31, 32, 33, 34, 35, 36, 37, 38, 39, 40, 41, 42, 43, 44] (by decide +kernel) (by decide +kernel)
set_option maxRecDepth 20000 in
theorem gX4_ban_X4_clears : GoodIn wsX4_ban (wsV RX4 103 RX4 yX4_clears wsX4_clears) := goodIn_app (goodIn_of _ (by decide +kernel)) ggX4_ban_X4_clears
set_option maxRecDepth 20000 in
theorem ggX4_lift_X4_isKind : GoodIn wsX4_lift wsX4_isKind := goodIn_r _ [6, 7, 8, 5, 9] (by decide +kernel) (by decide +kernel)
set_option maxRecDepth 20000 in
theorem gX4_lift_X4_isKind : GoodIn wsX4_lift (va_wsS RX4 68 yX4_isKind wsX4_isKind) := goodIn_app (goodIn_of _ (by decide +kernel)) ggX4_lift_X4_isKind
set_option maxRecDepth 20000 in
theorem ggX4_lift_X4_asked : GoodIn wsX4_lift wsX4_asked := goodIn_r _ [13, 14, 15, 16, 17, 18, 19, 20, 21, 22, 23, 24, 25, 26, 27, 28, 29, 30, 31] (by decide +kernel) (by decide +kernel)
set_option maxRecDepth 20000 in
theorem gX4_lift_X4_asked : GoodIn wsX4_lift (wsV RX4 78 RX4 yX4_asked wsX4_asked) := goodIn_app (goodIn_of _ (by decide +kernel)) ggX4_lift_X4_asked
set_option maxRecDepth 20000 in
theorem ggX4_isBanned_X4_isKind : GoodIn wsX4_isBanned wsX4_isKind := goodIn_r _ [4, 5, 6, 3, 7] (by decide +kernel) (by decide +kernel)
set_option maxRecDepth 20000 in
theorem gX4_isBanned_X4_isKind : GoodIn wsX4_isBanned (va_wsS RX4 68 yX4_isKind wsX4_isKind) := goodIn_app (goodIn_of _ (by decide +kernel)) ggX4_isBanned_X4_isKind
set_option maxRecDepth 20000 in
theorem ggX4_isBanned_X4_asked : GoodIn wsX4_isBanned wsX4_asked := goodIn_r _ [11, 12, 19, 20, 21, 22, 23, 24, 25, 26, 27, 28, 29, 30, 31, 32, 33, 34, 35] (by decide +kernel) (by decide +kernel)
set_option maxRecDepth 20000 in
theorem gX4_isBanned_X4_asked : GoodIn wsX4_isBanned (wsV RX4 78 RX4 yX4_asked wsX4_asked) := goodIn_app (goodIn_of _ (by decide +kernel)) ggX4_isBanned_X4_asked
set_option maxRecDepth 20000 in
theorem ggX4_isBanned_X4_banned : GoodIn wsX4_isBanned wsX4_banned := goodIn_r _ [16, 17, 18, 19, 20, 21, 22, 23, 24, 25, 26, 27, 28, 29, 30, 31, 32, 33, 34, 35] (by decide +kernel) (by decide +kernel)
set_option maxRecDepth 20000 in
theorem gX4_isBanned_X4_banned : GoodIn wsX4_isBanned (wsV RX4 87 RX4 yX4_banned wsX4_banned) := goodIn_app (goodIn_of _ (by decide +kernel)) ggX4_isBanned_X4_banned
set_option maxRecDepth 20000 in
theorem ggX4_pass_X4_in : GoodIn wsX4_pass wsX4_in := goodIn_r _ [8] (by decide +kernel) (by decide +kernel)
set_option maxRecDepth 20000 in
theorem gX4_pass_X4_in : GoodIn wsX4_pass (va_wsS RX4 54 yX4_in wsX4_in) := goodIn_app (goodIn_of _ (by decide +kernel)) ggX4_pass_X4_in
set_option maxRecDepth 20000 in
theorem ggX4_pass_X4_asked : GoodIn wsX4_pass wsX4_asked := goodIn_r _ [12, 13, 26, 27, 28, 29, 30, 31, 32, 33, 34, 35, 36, 37, 38, 39, 40, 41, 42] (by decide +kernel) (by decide +kernel)
set_option maxRecDepth 20000 in
theorem gX4_pass_X4_asked : GoodIn wsX4_pass (wsV RX4 78 RX4 yX4_asked wsX4_asked) := goodIn_app (goodIn_of _ (by decide +kernel)) ggX4_pass_X4_asked
set_option maxRecDepth 20000 in
theorem ggX4_pass_X4_banned : GoodIn wsX4_pass wsX4_banned := goodIn_r _ [17, 18, 1, 26, 27, 28, 29, 30, 31, 32, 33, 34, 35, 36, 37, 38, 39, 40, 41, 42] (by decide +kernel) (by decide +kernel)
set_option maxRecDepth 20000 in
theorem gX4_pass_X4_banned : GoodIn wsX4_pass (wsV RX4 87 RX4 yX4_banned wsX4_banned) := goodIn_app (goodIn_of _ (by decide +kernel)) ggX4_pass_X4_banned
set_option maxRecDepth 20000 in
theorem ggX4_pass_X4_clears : GoodIn wsX4_pass wsX4_clears := goodIn_r _ [22, 2, 3, 23, 24, 25, 26, 27, 28, 29, 30, 31, 32, 33, 34, 35, 36, 37, 38, 39, 40, 41, 42] (by decide +kernel) (by decide +kernel)
set_option maxRecDepth 20000 in
theorem gX4_pass_X4_clears : GoodIn wsX4_pass (wsV RX4 103 RX4 yX4_clears wsX4_clears) := goodIn_app (goodIn_of _ (by decide +kernel)) ggX4_pass_X4_clears
set_option maxRecDepth 20000 in
theorem ggX4_toggleDeck_X4_isPlayer : GoodIn wsX4_toggleDeck wsX4_isPlayer := goodIn_r _ [5, 6, 7, 4, 8] (by decide +kernel) (by decide +kernel)
set_option maxRecDepth 20000 in
theorem gX4_toggleDeck_X4_isPlayer : GoodIn wsX4_toggleDeck (va_wsS RX4 64 yX4_isPlayer wsX4_isPlayer) := goodIn_app (goodIn_of _ (by decide +kernel)) ggX4_toggleDeck_X4_isPlayer
set_option maxRecDepth 20000 in
theorem ggX4_toggleDeck_X4_isCard : GoodIn wsX4_toggleDeck wsX4_isCard := goodIn_r _ [12, 13, 6, 7, 4, 8, 23, 24, 25, 26, 27, 28, 29, 30, 31, 32, 33, 34, 35, 36, 37, 38, 39] (by decide +kernel) (by decide +kernel)
set_option maxRecDepth 20000 in
theorem gX4_toggleDeck_X4_isCard : GoodIn wsX4_toggleDeck (wsV RX4 75 RX4 yX4_isCard wsX4_isCard) := goodIn_app (goodIn_of _ (by decide +kernel)) ggX4_toggleDeck_X4_isCard
set_option maxRecDepth 20000 in
theorem ggX4_toggleDeck_X4_asked : GoodIn wsX4_toggleDeck wsX4_asked := goodIn_r _ [17, 18, 23, 24, 25, 26, 27, 28, 29, 30, 31, 32, 33, 34, 35, 36, 37, 38, 39] (by decide +kernel) (by decide +kernel)
set_option maxRecDepth 20000 in
theorem gX4_toggleDeck_X4_asked : GoodIn wsX4_toggleDeck (wsV RX4 78 RX4 yX4_asked wsX4_asked) := goodIn_app (goodIn_of _ (by decide +kernel)) ggX4_toggleDeck_X4_asked
set_option maxRecDepth 20000 in
theorem ggX4_toggleDeck_X4_size : GoodIn wsX4_toggleDeck wsX4_size := goodIn_r _ [22, 13, 1, 23, 24, 25, 26, 27, 28, 29, 30, 31, 32, 33, 34, 35, 36, 37, 38, 39] (by decide +kernel) (by decide +kernel)
set_option maxRecDepth 20000 in
theorem gX4_toggleDeck_X4_size : GoodIn wsX4_toggleDeck (wsV RX4 106 RX4 yX4_size wsX4_size) := goodIn_app (goodIn_of _ (by decide +kernel)) ggX4_toggleDeck_X4_size
set_option maxRecDepth 20000 in
theorem ggX4_right_X4_size : GoodIn wsX4_right wsX4_size := goodIn_r _ [9, 1, 2, 25, 26, 27, 28, 29, 30, 31, 32, 33, 34, 35, 36, 37, 38, 39, 40, 41] (by decide +kernel) (by decide +kernel)
set_option maxRecDepth 20000 in
theorem gX4_right_X4_size : GoodIn wsX4_right (wsV RX4 106 RX4 yX4_size wsX4_size) := goodIn_app (goodIn_of _ (by decide +kernel)) ggX4_right_X4_size
set_option maxRecDepth 20000 in
theorem ggX4_right_X4_in : GoodIn wsX4_right wsX4_in := goodIn_r _ [12] (by decide +kernel) (by decide +kernel)
set_option maxRecDepth 20000 in
theorem gX4_right_X4_in : GoodIn wsX4_right (va_wsS RX4 54 yX4_in wsX4_in) := goodIn_app (goodIn_of _ (by decide +kernel)) ggX4_right_X4_in
set_option maxRecDepth 20000 in
theorem ggX4_right_X4_holds : GoodIn wsX4_right wsX4_holds := goodIn_r _ [16, 3, 17, 18, 25, 26, 27, 28, 29, 30, 31, 32, 33, 34, 35, 36, 37, 38, 39, 40, 41] (by decide +kernel) (by decide +kernel)
set_option maxRecDepth 20000 in
theorem gX4_right_X4_holds : GoodIn wsX4_right (wsV RX4 84 RX4 yX4_holds wsX4_holds) := goodIn_app (goodIn_of _ (by decide +kernel)) ggX4_right_X4_holds
set_option maxRecDepth 20000 in
theorem ggX4_right_X4_banned : GoodIn wsX4_right wsX4_banned := goodIn_r _ [22, 23, 24, 25, 26, 27, 28, 29, 30, 31, 32, 33, 34, 35, 36, 37, 38, 39, 40, 41] (by decide +kernel) (by decide +kernel)
set_option maxRecDepth 20000 in
theorem gX4_right_X4_banned : GoodIn wsX4_right (wsV RX4 87 RX4 yX4_banned wsX4_banned) := goodIn_app (goodIn_of _ (by decide +kernel)) ggX4_right_X4_banned
set_option maxRecDepth 20000 in
theorem ggX4_isRight_X4_isPlayer : GoodIn wsX4_isRight wsX4_isPlayer := goodIn_r _ [4, 5, 6, 3, 7] (by decide +kernel) (by decide +kernel)
set_option maxRecDepth 20000 in
theorem gX4_isRight_X4_isPlayer : GoodIn wsX4_isRight (va_wsS RX4 64 yX4_isPlayer wsX4_isPlayer) := goodIn_app (goodIn_of _ (by decide +kernel)) ggX4_isRight_X4_isPlayer
set_option maxRecDepth 20000 in
theorem ggX4_isRight_X4_asked : GoodIn wsX4_isRight wsX4_asked := goodIn_r _ [11, 12, 37, 38, 39, 40, 41, 42, 43, 44, 45, 46, 47, 48, 49, 50, 51, 52, 53] (by decide +kernel) (by decide +kernel)
set_option maxRecDepth 20000 in
theorem gX4_isRight_X4_asked : GoodIn wsX4_isRight (wsV RX4 78 RX4 yX4_asked wsX4_asked) := goodIn_app (goodIn_of _ (by decide +kernel)) ggX4_isRight_X4_asked
set_option maxRecDepth 20000 in
theorem ggX4_isRight_X4_right : GoodIn wsX4_isRight wsX4_right := goodIn_r _ [16, 17, 18, 19, 20, 21, 22, 23, 3, 24, 5, 6, 7, 25, 26, 27, 28, 29, 30, 31, 32, 33, 34, 35, 36, 37, 38, 39, 40, 41, 42, 43, 44, 45, 46, 47, 48, 49, 50, 51, 52, 53] (by decide +kernel) (by decide +kernel)
set_option maxRecDepth 20000 in
theorem gX4_isRight_X4_right : GoodIn wsX4_isRight (wsV RX4 109 RX4 yX4_right wsX4_right) := goodIn_app (goodIn_of _ (by decide +kernel)) ggX4_isRight_X4_right
set_option maxRecDepth 20000 in
theorem ggX4_strength_X4_isPlayer : GoodIn wsX4_strength wsX4_isPlayer := goodIn_r _ [4, 5, 6, 3, 7] (by decide +kernel) (by decide +kernel)
set_option maxRecDepth 20000 in
theorem gX4_strength_X4_isPlayer : GoodIn wsX4_strength (va_wsS RX4 64 yX4_isPlayer wsX4_isPlayer) := goodIn_app (goodIn_of _ (by decide +kernel)) ggX4_strength_X4_isPlayer
set_option maxRecDepth 20000 in
theorem ggX4_strength_X4_asked : GoodIn wsX4_strength wsX4_asked := goodIn_r _ [11, 12, 20, 21, 22, 23, 24, 25, 26, 27, 28, 29, 30, 31, 32, 33, 34, 35, 36] (by decide +kernel) (by decide +kernel)
set_option maxRecDepth 20000 in
theorem gX4_strength_X4_asked : GoodIn wsX4_strength (wsV RX4 78 RX4 yX4_asked wsX4_asked) := goodIn_app (goodIn_of _ (by decide +kernel)) ggX4_strength_X4_asked
set_option maxRecDepth 20000 in
theorem ggX4_strength_X4_strengthOf : GoodIn wsX4_strength wsX4_strengthOf := goodIn_r _ [16, 17, 18, 19, 20, 21, 22, 23, 24, 25, 26, 27, 28, 29, 30, 31, 32, 33, 34, 35, 36] (by decide +kernel) (by decide +kernel)
set_option maxRecDepth 20000 in
theorem gX4_strength_X4_strengthOf : GoodIn wsX4_strength (wsV RX4 112 RX4 yX4_strengthOf wsX4_strengthOf) := goodIn_app (goodIn_of _ (by decide +kernel)) ggX4_strength_X4_strengthOf
set_option maxRecDepth 20000 in
theorem ggX4_play_X4_isPlayer : GoodIn wsX4_play wsX4_isPlayer := goodIn_r _ [5, 6, 7, 4, 8] (by decide +kernel) (by decide +kernel)
set_option maxRecDepth 20000 in
theorem gX4_play_X4_isPlayer : GoodIn wsX4_play (va_wsS RX4 64 yX4_isPlayer wsX4_isPlayer) := goodIn_app (goodIn_of _ (by decide +kernel)) ggX4_play_X4_isPlayer
set_option maxRecDepth 20000 in
theorem ggX4_play_X4_right : GoodIn wsX4_play wsX4_right := goodIn_r _ [12, 13, 14, 15, 16, 17, 18, 19, 4, 20, 6, 7, 8, 21, 22, 23, 24, 25, 26, 27, 28, 29, 30, 31, 32, 42, 43, 44, 45, 46, 47, 48, 49, 50, 51, 52, 53, 54, 55, 56, 57, 58] (by decide +kernel) (by decide +kernel)
set_option maxRecDepth 20000 in
theorem gX4_play_X4_right : GoodIn wsX4_play (wsV RX4 109 RX4 yX4_right wsX4_right) := goodIn_app (goodIn_of _ (by decide +kernel)) ggX4_play_X4_right
set_option maxRecDepth 20000 in
theorem ggX4_play_X4_asked__ : GoodIn wsX4_play wsX4_asked__ := goodIn_r _ [36, 37, 42, 43, 44, 45, 46, 47, 48, 49, 50, 51, 52, 53, 54, 55, 56, 57, 58] (by decide +kernel) (by decide +kernel)
set_option maxRecDepth 20000 in
theorem gX4_play_X4_asked__ : GoodIn wsX4_play (wsV RX4 90 RX4 yX4_asked__ wsX4_asked__) := goodIn_app (goodIn_of _ (by decide +kernel)) ggX4_play_X4_asked__
set_option maxRecDepth 20000 in
theorem ggX4_play_X4_strengthOf : GoodIn wsX4_play wsX4_strengthOf := goodIn_r _ [41, 13, 14, 16, 42, 43, 44, 45, 46, 47, 48, 49, 50, 51, 52, 53, 54, 55, 56, 57, 58] (by decide +kernel) (by decide +kernel)
set_option maxRecDepth 20000 in
theorem gX4_play_X4_strengthOf : GoodIn wsX4_play (wsV RX4 112 RX4 yX4_strengthOf wsX4_strengthOf) := goodIn_app (goodIn_of _ (by decide +kernel)) ggX4_play_X4_strengthOf
