set_option maxRecDepth 20000 in
theorem ggX0_bestBidder_X0_has : GoodIn wsX0_bestBidder wsX0_has := goodIn_r _ [5, 6, 12, 13] (by decide +kernel) (by decide +kernel)
set_option maxRecDepth 20000 in
theorem gX0_bestBidder_X0_has : GoodIn wsX0_bestBidder (wsV RX0 19 RX0 yX0_has wsX0_has) := goodIn_app (goodIn_of _ (by decide +kernel)) ggX0_bestBidder_X0_has
set_option maxRecDepth 20000 in
theorem ggX0_bestBidder_X0_isBefore : GoodIn wsX0_bestBidder wsX0_isBefore := goodIn_r _ [10, 6, 11, 12, 13] (by decide +kernel) (by decide +kernel)
set_option maxRecDepth 20000 in
theorem gX0_bestBidder_X0_isBefore : GoodIn wsX0_bestBidder (wsV RX0 23 RX0 yX0_isBefore wsX0_isBefore) := goodIn_app (goodIn_of _ (by decide +kernel)) ggX0_bestBidder_X0_isBefore
set_option maxRecDepth 20000 in
theorem ggX1_takeSalesOf_X1_isOnSale : GoodIn wsX1_takeSalesOf wsX1_isOnSale := goodIn_r _ [6, 7, 8, 14, 15, 16, 17, 18, 19, 20, 21, 22] (by decide +kernel) (by decide +kernel)
set_option maxRecDepth 20000 in
theorem gX1_takeSalesOf_X1_isOnSale : GoodIn wsX1_takeSalesOf (wsV RX1 40 RX1 yX1_isOnSale wsX1_isOnSale) := goodIn_app (goodIn_of _ (by decide +kernel)) ggX1_takeSalesOf_X1_isOnSale
set_option maxRecDepth 20000 in
theorem ggX1_takeSalesOf_X1_takeSale : GoodIn wsX1_takeSalesOf wsX1_takeSale := goodIn_r _ [12, 7, 13, 14, 15, 16, 17, 18, 19, 20, 21, 22] (by decide +kernel) (by decide +kernel)
set_option maxRecDepth 20000 in
theorem gX1_takeSalesOf_X1_takeSale : GoodIn wsX1_takeSalesOf (wsV RX1 44 RX1 yX1_takeSale wsX1_takeSale) := goodIn_app (goodIn_of _ (by decide +kernel)) ggX1_takeSalesOf_X1_takeSale
set_option maxRecDepth 20000 in
theorem ggX1_bestSale_X1_isOnSale : GoodIn wsX1_bestSale wsX1_isOnSale := goodIn_r _ [7, 8, 9, 16, 17, 18, 19, 20, 21, 22, 23, 24] (by decide +kernel) (by decide +kernel)
set_option maxRecDepth 20000 in
theorem gX1_bestSale_X1_isOnSale : GoodIn wsX1_bestSale (wsV RX1 40 RX1 yX1_isOnSale wsX1_isOnSale) := goodIn_app (goodIn_of _ (by decide +kernel)) ggX1_bestSale_X1_isOnSale
set_option maxRecDepth 20000 in
theorem ggX1_bestSale_X1_saleIsBefore : GoodIn wsX1_bestSale wsX1_saleIsBefore := goodIn_r _ [13, 14, 15, 16, 17, 18, 19, 20, 21, 22, 23, 24] (by decide +kernel) (by decide +kernel)
set_option maxRecDepth 20000 in
theorem gX1_bestSale_X1_saleIsBefore : GoodIn wsX1_bestSale (wsV RX1 48 RX1 yX1_saleIsBefore wsX1_saleIsBefore) := goodIn_app (goodIn_of _ (by decide +kernel)) ggX1_bestSale_X1_saleIsBefore
set_option maxRecDepth 20000 in
theorem ggX1_canBeSwapped_X1_has : GoodIn wsX1_canBeSwapped wsX1_has := goodIn_r _ [8, 9, 10, 11, 12, 13, 14, 15, 16, 17, 18] (by decide +kernel) (by decide +kernel)
set_option maxRecDepth 20000 in
theorem gX1_canBeSwapped_X1_has : GoodIn wsX1_canBeSwapped (wsV RX1 51 RX1 yX1_has wsX1_has) := goodIn_app (goodIn_of _ (by decide +kernel)) ggX1_canBeSwapped_X1_has
set_option maxRecDepth 20000 in
theorem ggX3_init_X1_init : GoodIn wsX3_init wsX1_init := goodIn_r _ [23, 24, 2, 3, 16, 25, 26, 27, 28, 29, 30, 31, 32, 33, 50, 51, 52, 53, 54, 55, 56, 57, 58] (by decide +kernel) (by decide +kernel)
set_option maxRecDepth 20000 in
theorem gX3_init_X1_init_n9 : GoodIn wsX3_init (wsX1_init) := ggX3_init_X1_init
set_option maxRecDepth 20000 in
theorem ggX3_init_X0_init : GoodIn wsX3_init wsX0_init := goodIn_r _ [35, 36, 2, 3, 37, 16, 38, 39, 67, 68] (by decide +kernel) (by decide +kernel)
set_option maxRecDepth 20000 in
theorem gX3_init_X0_init_n18 : GoodIn wsX3_init (wsX0_init) := ggX3_init_X0_init
set_option maxRecDepth 20000 in
theorem ggX3_init_X2_init : GoodIn wsX3_init wsX2_init := goodIn_r _ [41, 42, 2, 3, 16, 43, 44, 45, 69, 70, 71] (by decide +kernel) (by decide +kernel)
set_option maxRecDepth 20000 in
theorem gX3_init_X2_init_n25 : GoodIn wsX3_init (wsX2_init) := ggX3_init_X2_init
set_option maxRecDepth 20000 in
theorem ggX3_init_J7_fill_53178 : GoodIn wsX3_init wsJ7_fill_53178 := goodIn_r _ [49] (by decide +kernel) (by decide +kernel)
set_option maxRecDepth 20000 in
theorem gX3_init_J7_fill_53178 : GoodIn wsX3_init (va_wsS RX3 34 yJ7_fill_53178 wsJ7_fill_53178) := goodIn_app (goodIn_of _ (by decide +kernel)) ggX3_init_J7_fill_53178
set_option maxRecDepth 20000 in
theorem ggX3_mint_X3_needPlayer : GoodIn wsX3_mint wsX3_needPlayer := goodIn_ca (goodIn_r _ [8, 9, 10] (by decide +kernel) (by decide +kernel)) (goodIn_sub (fun _ h => List.mem_cons_of_mem _ (List.mem_append_right _ h)) (by decide +kernel))
set_option maxRecDepth 20000 in
theorem gX3_mint_X3_needPlayer : GoodIn wsX3_mint (va_wsS RX3 53 yX3_needPlayer wsX3_needPlayer) := goodIn_app (goodIn_of _ (by decide +kernel)) ggX3_mint_X3_needPlayer
set_option maxRecDepth 20000 in
theorem ggX3_mint_X3_needKind : GoodIn wsX3_mint wsX3_needKind := goodIn_ca (goodIn_r _ [13, 9, 10] (by decide +kernel) (by decide +kernel)) (goodIn_sub (fun _ h => List.mem_cons_of_mem _ (List.mem_append_right _ h)) (by decide +kernel))
set_option maxRecDepth 20000 in
theorem gX3_mint_X3_needKind : GoodIn wsX3_mint (va_wsS RX3 57 yX3_needKind wsX3_needKind) := goodIn_app (goodIn_of _ (by decide +kernel)) ggX3_mint_X3_needKind
set_option maxRecDepth 20000 in
theorem ggX3_mint_X1_isFull : GoodIn wsX3_mint wsX1_isFull := goodIn_r _ [18, 19, 43, 44, 45, 46, 47, 48, 49, 50, 51] (by decide +kernel) (by decide +kernel)
set_option maxRecDepth 20000 in
theorem gX3_mint_X1_isFull : GoodIn wsX3_mint (wsV RX3 60 RX1 yX1_isFull wsX1_isFull) := goodIn_app (goodIn_of _ (by decide +kernel)) ggX3_mint_X1_isFull
set_option maxRecDepth 20000 in
theorem ggX3_mint_X1_add : GoodIn wsX3_mint wsX1_add := goodIn_r _ [23, 19, 24, 25, 26, 43, 44, 45, 46, 47, 48, 49, 50, 51] (by decide +kernel) (by decide +kernel)
set_option maxRecDepth 20000 in
theorem gX3_mint_X1_add : GoodIn wsX3_mint (wsV RX3 71 RX1 yX1_add wsX1_add) := goodIn_app (goodIn_of _ (by decide +kernel)) ggX3_mint_X1_add
set_option maxRecDepth 20000 in
theorem ggX3_mint_X2_record : GoodIn wsX3_mint wsX2_record := goodIn_r _ [31, 32, 33, 34, 52, 53, 54] (by decide +kernel) (by decide +kernel)
set_option maxRecDepth 20000 in
theorem gX3_mint_X2_record : GoodIn wsX3_mint (wsV RX3 75 RX2 yX2_record wsX2_record) := goodIn_app (goodIn_of _ (by decide +kernel)) ggX3_mint_X2_record
set_option maxRecDepth 20000 in
theorem ggX3_owner_X3_needCard : GoodIn wsX3_owner wsX3_needCard := goodIn_ca (goodIn_r _ [7, 8, 9, 1, 10, 11, 12, 13, 14, 15, 16, 17, 18, 19, 20, 21, 22, 23, 24, 25, 26, 27, 28, 29, 30, 31, 32] (by decide +kernel) (by decide +kernel)) (goodIn_sub (fun _ h => List.mem_cons_of_mem _ (List.mem_append_right _ h)) (by decide +kernel))
set_option maxRecDepth 20000 in
theorem gX3_owner_X3_needCard : GoodIn wsX3_owner (wsV RX3 79 RX3 yX3_needCard wsX3_needCard) := goodIn_app (goodIn_of _ (by decide +kernel)) ggX3_owner_X3_needCard
set_option maxRecDepth 20000 in
theorem ggX3_ownerByHistory_X3_needCard : GoodIn wsX3_ownerByHistory wsX3_needCard := goodIn_ca (goodIn_r _ [6, 7, 8, 9, 10, 11, 12, 13, 14, 15, 24, 25, 26, 27, 28, 29, 30, 31, 32, 33, 34, 35, 36, 37, 38, 39, 40] (by decide +kernel) (by decide +kernel)) (goodIn_sub (fun _ h => List.mem_cons_of_mem _ (List.mem_append_right _ h)) (by decide +kernel))
set_option maxRecDepth 20000 in
theorem gX3_ownerByHistory_X3_needCard : GoodIn wsX3_ownerByHistory (wsV RX3 79 RX3 yX3_needCard wsX3_needCard) := goodIn_app (goodIn_of _ (by decide +kernel)) ggX3_ownerByHistory_X3_needCard
set_option maxRecDepth 20000 in
theorem ggX3_ownerByHistory_X2_lastOwner : GoodIn wsX3_ownerByHistory wsX2_lastOwner := goodIn_r _ [20, 21, 22, 23, 41, 42, 43] (by decide +kernel) (by decide +kernel)
set_option maxRecDepth 20000 in
theorem gX3_ownerByHistory_X2_lastOwner : GoodIn wsX3_ownerByHistory (wsV RX3 85 RX2 yX2_lastOwner wsX2_lastOwner) := goodIn_app (goodIn_of _ (by decide +kernel)) ggX3_ownerByHistory_X2_lastOwner
set_option maxRecDepth 20000 in
theorem ggX3_holder_X3_needCard : GoodIn wsX3_holder wsX3_needCard := goodIn_ca (goodIn_r _ [6, 7, 8, 1, 9, 10, 11, 12, 13, 14, 22, 23, 24, 25, 26, 27, 28, 29, 30, 31, 32, 33, 34, 35, 36, 37, 38] (by decide +kernel) (by decide +kernel)) (goodIn_sub (fun _ h => List.mem_cons_of_mem _ (List.mem_append_right _ h)) (by decide +kernel))
set_option maxRecDepth 20000 in
theorem gX3_holder_X3_needCard : GoodIn wsX3_holder (wsV RX3 79 RX3 yX3_needCard wsX3_needCard) := goodIn_app (goodIn_of _ (by decide +kernel)) ggX3_holder_X3_needCard
set_option maxRecDepth 20000 in
theorem ggX3_holder_X1_holderOf : GoodIn wsX3_holder wsX1_holderOf := goodIn_r _ [18, 19, 20, 21, 30, 31, 32, 33, 34, 35, 36, 37, 38] (by decide +kernel) (by decide +kernel)
set_option maxRecDepth 20000 in
theorem gX3_holder_X1_holderOf : GoodIn wsX3_holder (wsV RX3 89 RX1 yX1_holderOf wsX1_holderOf) := goodIn_app (goodIn_of _ (by decide +kernel)) ggX3_holder_X1_holderOf
set_option maxRecDepth 20000 in
theorem ggX3_stateOf_X3_needCard : GoodIn wsX3_stateOf wsX3_needCard := goodIn_ca (goodIn_r _ [7, 8, 9, 1, 10, 11, 12, 13, 14, 15, 16, 17, 18, 19, 20, 21, 22, 23, 24, 25, 26, 27, 28, 29, 30, 31, 32] (by decide +kernel) (by decide +kernel)) (goodIn_sub (fun _ h => List.mem_cons_of_mem _ (List.mem_append_right _ h)) (by decide +kernel))
set_option maxRecDepth 20000 in
theorem gX3_stateOf_X3_needCard : GoodIn wsX3_stateOf (wsV RX3 79 RX3 yX3_needCard wsX3_needCard) := goodIn_app (goodIn_of _ (by decide +kernel)) ggX3_stateOf_X3_needCard
set_option maxRecDepth 20000 in
theorem ggX3_coins_X3_needPlayer : GoodIn wsX3_coins wsX3_needPlayer := goodIn_ca (goodIn_r _ [5, 6, 7] (by decide +kernel) (by decide +kernel)) (goodIn_sub (fun _ h => List.mem_cons_of_mem _ (List.mem_append_right _ h)) (by decide +kernel))
set_option maxRecDepth 20000 in
theorem gX3_coins_X3_needPlayer : GoodIn wsX3_coins (va_wsS RX3 53 yX3_needPlayer wsX3_needPlayer) := goodIn_app (goodIn_of _ (by decide +kernel)) ggX3_coins_X3_needPlayer
set_option maxRecDepth 20000 in
theorem ggX3_sell_X3_needCard : GoodIn wsX3_sell wsX3_needCard := goodIn_ca (goodIn_r _ [15, 16, 17, 3, 18, 19, 20, 21, 22, 23, 74, 75, 76, 77, 78, 79, 80, 81, 82, 83, 84, 85, 86, 87, 88, 89, 90] (by decide +kernel) (by decide +kernel)) (goodIn_sub (fun _ h => List.mem_cons_of_mem _ (List.mem_append_left _ (List.mem_append_right _ h))) (by decide +kernel))
set_option maxRecDepth 20000 in
theorem gX3_sell_X3_needCard : GoodIn wsX3_sell (wsV RX3 79 RX3 yX3_needCard wsX3_needCard) := goodIn_app (goodIn_of _ (by decide +kernel)) ggX3_sell_X3_needCard
set_option maxRecDepth 20000 in
theorem ggX3_sell_X3_needPrice : GoodIn wsX3_sell wsX3_needPrice := goodIn_ca (goodIn_r _ [26, 27, 28] (by decide +kernel) (by decide +kernel)) (goodIn_sub (fun _ h => List.mem_cons_of_mem _ (List.mem_append_right _ h)) (by decide +kernel))
set_option maxRecDepth 20000 in
theorem gX3_sell_X3_needPrice : GoodIn wsX3_sell (va_wsS RX3 95 yX3_needPrice wsX3_needPrice) := goodIn_app (goodIn_of _ (by decide +kernel)) ggX3_sell_X3_needPrice
set_option maxRecDepth 20000 in
theorem ggX3_sell_X3_bannedToday : GoodIn wsX3_sell wsX3_bannedToday := goodIn_r _ [32, 33, 34, 74, 75, 76, 77, 78, 79, 80, 81] (by decide +kernel) (by decide +kernel)
set_option maxRecDepth 20000 in
theorem gX3_sell_X3_bannedToday : GoodIn wsX3_sell (wsV RX3 101 RX3 yX3_bannedToday wsX3_bannedToday) := goodIn_app (goodIn_of _ (by decide +kernel)) ggX3_sell_X3_bannedToday
set_option maxRecDepth 20000 in
theorem ggX3_sell_X0_bestBidder : GoodIn wsX3_sell wsX0_bestBidder := goodIn_r _ [39, 40, 41, 42, 38, 43, 44, 45, 46, 47, 48, 49, 91, 92] (by decide +kernel) (by decide +kernel)
set_option maxRecDepth 20000 in
theorem gX3_sell_X0_bestBidder : GoodIn wsX3_sell (wsV RX3 107 RX0 yX0_bestBidder wsX0_bestBidder) := goodIn_app (goodIn_of _ (by decide +kernel)) ggX3_sell_X0_bestBidder
set_option maxRecDepth 20000 in
theorem ggX3_sell_X1_putSale : GoodIn wsX3_sell wsX1_putSale := goodIn_r _ [53, 54, 55, 56, 82, 83, 84, 85, 86, 87, 88, 89, 90] (by decide +kernel) (by decide +kernel)
set_option maxRecDepth 20000 in
theorem gX3_sell_X1_putSale : GoodIn wsX3_sell (wsV RX3 114 RX1 yX1_putSale wsX1_putSale) := goodIn_app (goodIn_of _ (by decide +kernel)) ggX3_sell_X1_putSale
set_option maxRecDepth 20000 in
theorem ggX3_sell_X0_take : GoodIn wsX3_sell wsX0_take := goodIn_r _ [60, 44, 91, 92] (by decide +kernel) (by decide +kernel)
set_option maxRecDepth 20000 in
theorem gX3_sell_X0_take : GoodIn wsX3_sell (wsV RX3 118 RX0 yX0_take wsX0_take) := goodIn_app (goodIn_of _ (by decide +kernel)) ggX3_sell_X0_take
set_option maxRecDepth 20000 in
theorem ggX3_sell_X3_giveTo : GoodIn wsX3_sell wsX3_giveTo := goodIn_r _ [64, 3, 7, 5, 65, 66, 67, 68, 69, 70, 71, 72, 73, 74, 75, 76, 77, 78, 79, 80, 81, 82, 83, 84, 85, 86, 87, 88, 89, 90, 93, 94, 95] (by decide +kernel) (by decide +kernel)
set_option maxRecDepth 20000 in
theorem gX3_sell_X3_giveTo : GoodIn wsX3_sell (wsV RX3 121 RX3 yX3_giveTo wsX3_giveTo) := goodIn_app (goodIn_of _ (by decide +kernel)) ggX3_sell_X3_giveTo
set_option maxRecDepth 20000 in
theorem ggX3_bid_X3_needPlayer : GoodIn wsX3_bid wsX3_needPlayer := goodIn_ca (goodIn_r _ [12, 13, 14] (by decide +kernel) (by decide +kernel)) (goodIn_sub (fun _ h => List.mem_cons_of_mem _ (List.mem_append_left _ (List.mem_append_right _ h))) (by decide +kernel))
set_option maxRecDepth 20000 in
theorem gX3_bid_X3_needPlayer : GoodIn wsX3_bid (va_wsS RX3 53 yX3_needPlayer wsX3_needPlayer) := goodIn_app (goodIn_of _ (by decide +kernel)) ggX3_bid_X3_needPlayer
set_option maxRecDepth 20000 in
theorem ggX3_bid_X3_needKind : GoodIn wsX3_bid wsX3_needKind := goodIn_ca (goodIn_r _ [17, 13, 14] (by decide +kernel) (by decide +kernel)) (goodIn_sub (fun _ h => List.mem_cons_of_mem _ (List.mem_append_left _ (List.mem_append_right _ h))) (by decide +kernel))
set_option maxRecDepth 20000 in
theorem gX3_bid_X3_needKind : GoodIn wsX3_bid (va_wsS RX3 57 yX3_needKind wsX3_needKind) := goodIn_app (goodIn_of _ (by decide +kernel)) ggX3_bid_X3_needKind
set_option maxRecDepth 20000 in
theorem ggX3_bid_X3_needPrice : GoodIn wsX3_bid wsX3_needPrice := goodIn_ca (goodIn_r _ [20, 21, 22] (by decide +kernel) (by decide +kernel)) (goodIn_sub (fun _ h => List.mem_cons_of_mem _ (List.mem_append_right _ h)) (by decide +kernel))
set_option maxRecDepth 20000 in
theorem gX3_bid_X3_needPrice : GoodIn wsX3_bid (va_wsS RX3 95 yX3_needPrice wsX3_needPrice) := goodIn_app (goodIn_of _ (by decide +kernel)) ggX3_bid_X3_needPrice
set_option maxRecDepth 20000 in
theorem ggX3_bid_X0_has : GoodIn wsX3_bid wsX0_has := goodIn_r _ [27, 28, 94, 95] (by decide +kernel) (by decide +kernel)
set_option maxRecDepth 20000 in
theorem gX3_bid_X0_has : GoodIn wsX3_bid (wsV RX3 124 RX0 yX0_has wsX0_has) := goodIn_app (goodIn_of _ (by decide +kernel)) ggX3_bid_X0_has
set_option maxRecDepth 20000 in
theorem ggX3_bid_X3_bannedToday : GoodIn wsX3_bid wsX3_bannedToday := goodIn_r _ [32, 33, 34, 77, 78, 79, 80, 81, 82, 83, 84] (by decide +kernel) (by decide +kernel)
set_option maxRecDepth 20000 in
theorem gX3_bid_X3_bannedToday : GoodIn wsX3_bid (wsV RX3 101 RX3 yX3_bannedToday wsX3_bannedToday) := goodIn_app (goodIn_of _ (by decide +kernel)) ggX3_bid_X3_bannedToday
set_option maxRecDepth 20000 in
theorem ggX3_bid_X1_bestSale : GoodIn wsX3_bid wsX1_bestSale := goodIn_r _ [39, 40, 41, 42, 43, 44, 38, 45, 46, 47, 48, 49, 50, 51, 52, 53, 85, 86, 87, 88, 89, 90, 91, 92, 93] (by decide +kernel) (by decide +kernel)
set_option maxRecDepth 20000 in
theorem gX3_bid_X1_bestSale : GoodIn wsX3_bid (wsV RX3 130 RX1 yX1_bestSale wsX1_bestSale) := goodIn_app (goodIn_of _ (by decide +kernel)) ggX3_bid_X1_bestSale
set_option maxRecDepth 20000 in
theorem ggX3_bid_X0_put : GoodIn wsX3_bid wsX0_put := goodIn_r _ [57, 28, 58, 94, 95] (by decide +kernel) (by decide +kernel)
set_option maxRecDepth 20000 in
theorem gX3_bid_X0_put : GoodIn wsX3_bid (wsV RX3 136 RX0 yX0_put wsX0_put) := goodIn_app (goodIn_of _ (by decide +kernel)) ggX3_bid_X0_put
set_option maxRecDepth 20000 in
theorem ggX3_bid_X1_takeSale : GoodIn wsX3_bid wsX1_takeSale := goodIn_r _ [62, 46, 52, 85, 86, 87, 88, 89, 90, 91, 92, 93] (by decide +kernel) (by decide +kernel)
set_option maxRecDepth 20000 in
theorem gX3_bid_X1_takeSale : GoodIn wsX3_bid (wsV RX3 140 RX1 yX1_takeSale wsX1_takeSale) := goodIn_app (goodIn_of _ (by decide +kernel)) ggX3_bid_X1_takeSale
set_option maxRecDepth 20000 in
theorem ggX3_bid_X3_giveTo : GoodIn wsX3_bid wsX3_giveTo := goodIn_r _ [66, 5, 8, 67, 68, 69, 70, 71, 72, 73, 74, 75, 76, 77, 78, 79, 80, 81, 82, 83, 84, 85, 86, 87, 88, 89, 90, 91, 92, 93, 96, 97, 98] (by decide +kernel) (by decide +kernel)
set_option maxRecDepth 20000 in
theorem gX3_bid_X3_giveTo : GoodIn wsX3_bid (wsV RX3 121 RX3 yX3_giveTo wsX3_giveTo) := goodIn_app (goodIn_of _ (by decide +kernel)) ggX3_bid_X3_giveTo
set_option maxRecDepth 20000 in
theorem ggX3_cancelSale_X3_needCard : GoodIn wsX3_cancelSale wsX3_needCard := goodIn_ca (goodIn_r _ [9, 10, 11, 3, 12, 13, 14, 15, 16, 17, 24, 25, 26, 27, 28, 29, 30, 31, 32, 33, 34, 35, 36, 37, 38, 39, 40] (by decide +kernel) (by decide +kernel)) (goodIn_sub (fun _ h => List.mem_cons_of_mem _ (List.mem_append_right _ h)) (by decide +kernel))
set_option maxRecDepth 20000 in
theorem gX3_cancelSale_X3_needCard : GoodIn wsX3_cancelSale (wsV RX3 79 RX3 yX3_needCard wsX3_needCard) := goodIn_app (goodIn_of _ (by decide +kernel)) ggX3_cancelSale_X3_needCard
set_option maxRecDepth 20000 in
theorem ggX3_cancelSale_X1_takeSale : GoodIn wsX3_cancelSale wsX1_takeSale := goodIn_r _ [21, 22, 23, 32, 33, 34, 35, 36, 37, 38, 39, 40] (by decide +kernel) (by decide +kernel)
set_option maxRecDepth 20000 in
theorem gX3_cancelSale_X1_takeSale : GoodIn wsX3_cancelSale (wsV RX3 140 RX1 yX1_takeSale wsX1_takeSale) := goodIn_app (goodIn_of _ (by decide +kernel)) ggX3_cancelSale_X1_takeSale
set_option maxRecDepth 20000 in
theorem ggX3_cancelBid_X3_needPlayer : GoodIn wsX3_cancelBid wsX3_needPlayer := goodIn_ca (goodIn_r _ [7, 8, 9] (by decide +kernel) (by decide +kernel)) (goodIn_sub (fun _ h => List.mem_cons_of_mem _ (List.mem_append_right _ h)) (by decide +kernel))
set_option maxRecDepth 20000 in
theorem gX3_cancelBid_X3_needPlayer : GoodIn wsX3_cancelBid (va_wsS RX3 53 yX3_needPlayer wsX3_needPlayer) := goodIn_app (goodIn_of _ (by decide +kernel)) ggX3_cancelBid_X3_needPlayer
set_option maxRecDepth 20000 in
theorem ggX3_cancelBid_X3_needKind : GoodIn wsX3_cancelBid wsX3_needKind := goodIn_ca (goodIn_r _ [12, 8, 9] (by decide +kernel) (by decide +kernel)) (goodIn_sub (fun _ h => List.mem_cons_of_mem _ (List.mem_append_right _ h)) (by decide +kernel))
set_option maxRecDepth 20000 in
theorem gX3_cancelBid_X3_needKind : GoodIn wsX3_cancelBid (va_wsS RX3 57 yX3_needKind wsX3_needKind) := goodIn_app (goodIn_of _ (by decide +kernel)) ggX3_cancelBid_X3_needKind
set_option maxRecDepth 20000 in
theorem ggX3_cancelBid_X0_has : GoodIn wsX3_cancelBid wsX0_has := goodIn_r _ [17, 18, 36, 37] (by decide +kernel) (by decide +kernel)
set_option maxRecDepth 20000 in
theorem gX3_cancelBid_X0_has : GoodIn wsX3_cancelBid (wsV RX3 124 RX0 yX0_has wsX0_has) := goodIn_app (goodIn_of _ (by decide +kernel)) ggX3_cancelBid_X0_has
set_option maxRecDepth 20000 in
theorem ggX3_cancelBid_X3_giveBidBack : GoodIn wsX3_cancelBid wsX3_giveBidBack := goodIn_r _ [22, 3, 23, 24, 25, 26, 16, 27, 18, 28, 29, 30, 31, 32, 33, 34, 35, 36, 37] (by decide +kernel) (by decide +kernel)
set_option maxRecDepth 20000 in
theorem gX3_cancelBid_X3_giveBidBack : GoodIn wsX3_cancelBid (wsV RX3 147 RX3 yX3_giveBidBack wsX3_giveBidBack) := goodIn_app (goodIn_of _ (by decide +kernel)) ggX3_cancelBid_X3_giveBidBack
set_option maxRecDepth 20000 in
theorem ggX3_leastSale_X3_needKind : GoodIn wsX3_leastSale wsX3_needKind := goodIn_ca (goodIn_r _ [6, 7, 8] (by decide +kernel) (by decide +kernel)) (goodIn_sub (fun _ h => List.mem_cons_of_mem _ (List.mem_append_right _ h)) (by decide +kernel))
set_option maxRecDepth 20000 in
theorem gX3_leastSale_X3_needKind : GoodIn wsX3_leastSale (va_wsS RX3 57 yX3_needKind wsX3_needKind) := goodIn_app (goodIn_of _ (by decide +kernel)) ggX3_leastSale_X3_needKind
set_option maxRecDepth 20000 in
theorem ggX3_leastSale_X1_bestSale : GoodIn wsX3_leastSale wsX1_bestSale := goodIn_r _ [13, 14, 15, 16, 17, 18, 12, 19, 20, 21, 22, 23, 24, 25, 26, 27, 36, 37, 38, 39, 40, 41, 42, 43, 44] (by decide +kernel) (by decide +kernel)
set_option maxRecDepth 20000 in
theorem gX3_leastSale_X1_bestSale : GoodIn wsX3_leastSale (wsV RX3 130 RX1 yX1_bestSale wsX1_bestSale) := goodIn_app (goodIn_of _ (by decide +kernel)) ggX3_leastSale_X1_bestSale
set_option maxRecDepth 20000 in
theorem ggX3_greatestBid_X3_needKind : GoodIn wsX3_greatestBid wsX3_needKind := goodIn_ca (goodIn_r _ [6, 7, 8] (by decide +kernel) (by decide +kernel)) (goodIn_sub (fun _ h => List.mem_cons_of_mem _ (List.mem_append_right _ h)) (by decide +kernel))
set_option maxRecDepth 20000 in
theorem gX3_greatestBid_X3_needKind : GoodIn wsX3_greatestBid (va_wsS RX3 57 yX3_needKind wsX3_needKind) := goodIn_app (goodIn_of _ (by decide +kernel)) ggX3_greatestBid_X3_needKind
set_option maxRecDepth 20000 in
theorem ggX3_greatestBid_X0_bestBidder : GoodIn wsX3_greatestBid wsX0_bestBidder := goodIn_r _ [13, 14, 15, 16, 12, 17, 18, 19, 20, 21, 22, 23, 32, 33] (by decide +kernel) (by decide +kernel)
set_option maxRecDepth 20000 in
theorem gX3_greatestBid_X0_bestBidder : GoodIn wsX3_greatestBid (wsV RX3 107 RX0 yX0_bestBidder wsX0_bestBidder) := goodIn_app (goodIn_of _ (by decide +kernel)) ggX3_greatestBid_X0_bestBidder
set_option maxRecDepth 20000 in
theorem ggX3_swap_X3_needCard : GoodIn wsX3_swap wsX3_needCard := goodIn_ca (goodIn_r _ [13, 14, 15, 5, 16, 17, 18, 19, 20, 21, 22, 23, 24, 25, 26, 27, 28, 29, 30, 31, 32, 33, 34, 35, 36, 37, 38] (by decide +kernel) (by decide +kernel)) (goodIn_sub (fun _ h => List.mem_cons_of_mem _ (List.mem_append_right _ h)) (by decide +kernel))
set_option maxRecDepth 20000 in
theorem gX3_swap_X3_needCard : GoodIn wsX3_swap (wsV RX3 79 RX3 yX3_needCard wsX3_needCard) := goodIn_app (goodIn_of _ (by decide +kernel)) ggX3_swap_X3_needCard
set_option maxRecDepth 20000 in
theorem ggX3_agree_X3_needCard : GoodIn wsX3_agree wsX3_needCard := goodIn_ca (goodIn_r _ [10, 11, 12, 3, 13, 14, 15, 16, 17, 18, 41, 42, 43, 44, 45, 46, 47, 48, 49, 50, 51, 52, 53, 54, 55, 56, 57] (by decide +kernel) (by decide +kernel)) (goodIn_sub (fun _ h => List.mem_cons_of_mem _ (List.mem_append_right _ h)) (by decide +kernel))
set_option maxRecDepth 20000 in
theorem gX3_agree_X3_needCard : GoodIn wsX3_agree (wsV RX3 79 RX3 yX3_needCard wsX3_needCard) := goodIn_app (goodIn_of _ (by decide +kernel)) ggX3_agree_X3_needCard
set_option maxRecDepth 20000 in
theorem ggX3_agree_X1_canBeSwapped : GoodIn wsX3_agree wsX1_canBeSwapped := goodIn_r _ [22, 23, 24, 25, 26, 14, 15, 16, 17, 18, 49, 50, 51, 52, 53, 54, 55, 56, 57] (by decide +kernel) (by decide +kernel)
set_option maxRecDepth 20000 in
theorem gX3_agree_X1_canBeSwapped : GoodIn wsX3_agree (wsV RX3 160 RX1 yX1_canBeSwapped wsX1_canBeSwapped) := goodIn_app (goodIn_of _ (by decide +kernel)) ggX3_agree_X1_canBeSwapped
set_option maxRecDepth 20000 in
theorem ggX3_agree_X3_giveTo : GoodIn wsX3_agree wsX3_giveTo := goodIn_r _ [30, 3, 5, 31, 32, 33, 34, 35, 36, 37, 38, 39, 40, 41, 42, 43, 44, 45, 46, 47, 48, 49, 50, 51, 52, 53, 54, 55, 56, 57, 58, 59, 60] (by decide +kernel) (by decide +kernel)
set_option maxRecDepth 20000 in
theorem gX3_agree_X3_giveTo : GoodIn wsX3_agree (wsV RX3 121 RX3 yX3_giveTo wsX3_giveTo) := goodIn_app (goodIn_of _ (by decide +kernel)) ggX3_agree_X3_giveTo
set_option maxRecDepth 20000 in
theorem ggX3_cancelSwap_X3_needCard : GoodIn wsX3_cancelSwap wsX3_needCard := goodIn_ca (goodIn_r _ [9, 10, 11, 3, 12, 13, 14, 15, 16, 17, 18, 19, 20, 21, 22, 23, 24, 25, 26, 27, 28, 29, 30, 31, 32, 33, 34] (by decide +kernel) (by decide +kernel)) (goodIn_sub (fun _ h => List.mem_cons_of_mem _ (List.mem_append_right _ h)) (by decide +kernel))
set_option maxRecDepth 20000 in
theorem gX3_cancelSwap_X3_needCard : GoodIn wsX3_cancelSwap (wsV RX3 79 RX3 yX3_needCard wsX3_needCard) := goodIn_app (goodIn_of _ (by decide +kernel)) ggX3_cancelSwap_X3_needCard
set_option maxRecDepth 20000 in
theorem ggX3_lend_X3_needCard : GoodIn wsX3_lend wsX3_needCard := goodIn_ca (goodIn_r _ [13, 14, 15, 5, 16, 17, 18, 19, 20, 21, 32, 33, 34, 35, 36, 37, 38, 39, 40, 41, 42, 43, 44, 45, 46, 47, 48] (by decide +kernel) (by decide +kernel)) (goodIn_sub (fun _ h => List.mem_cons_of_mem _ (List.mem_append_right _ h)) (by decide +kernel))
set_option maxRecDepth 20000 in
theorem gX3_lend_X3_needCard : GoodIn wsX3_lend (wsV RX3 79 RX3 yX3_needCard wsX3_needCard) := goodIn_app (goodIn_of _ (by decide +kernel)) ggX3_lend_X3_needCard
set_option maxRecDepth 20000 in
theorem ggX3_lend_X3_needPlayer : GoodIn wsX3_lend wsX3_needPlayer := goodIn_ca (goodIn_r _ [24, 14, 15] (by decide +kernel) (by decide +kernel)) (goodIn_sub (fun _ h => List.mem_cons_of_mem _ (List.mem_append_right _ h)) (by decide +kernel))
set_option maxRecDepth 20000 in
theorem gX3_lend_X3_needPlayer : GoodIn wsX3_lend (va_wsS RX3 53 yX3_needPlayer wsX3_needPlayer) := goodIn_app (goodIn_of _ (by decide +kernel)) ggX3_lend_X3_needPlayer
