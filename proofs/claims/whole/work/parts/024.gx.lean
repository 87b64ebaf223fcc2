set_option maxRecDepth 20000 in
theorem ggX3_lend_X1_lendTo : GoodIn wsX3_lend wsX1_lendTo := goodIn_r _ [28, 29, 30, 31, 40, 41, 42, 43, 44, 45, 46, 47, 48] (by decide +kernel) (by decide +kernel)
set_option maxRecDepth 20000 in
theorem gX3_lend_X1_lendTo : GoodIn wsX3_lend (wsV RX3 169 RX1 yX1_lendTo wsX1_lendTo) := goodIn_app (goodIn_of _ (by decide +kernel)) ggX3_lend_X1_lendTo
set_option maxRecDepth 20000 in
theorem ggX3_ban_X3_needKind : GoodIn wsX3_ban wsX3_needKind := goodIn_ca (goodIn_r _ [8, 9, 10] (by decide +kernel) (by decide +kernel)) (goodIn_sub (fun _ h => List.mem_cons_of_mem _ (List.mem_append_right _ h)) (by decide +kernel))
set_option maxRecDepth 20000 in
theorem gX3_ban_X3_needKind : GoodIn wsX3_ban (va_wsS RX3 57 yX3_needKind wsX3_needKind) := goodIn_app (goodIn_of _ (by decide +kernel)) ggX3_ban_X3_needKind
set_option maxRecDepth 20000 in
theorem ggX3_ban_X3_bannedToday : GoodIn wsX3_ban wsX3_bannedToday := goodIn_r _ [14, 4, 3, 53, 54, 55, 56, 57, 58, 59, 60] (by decide +kernel) (by decide +kernel)
set_option maxRecDepth 20000 in
theorem gX3_ban_X3_bannedToday : GoodIn wsX3_ban (wsV RX3 101 RX3 yX3_bannedToday wsX3_bannedToday) := goodIn_app (goodIn_of _ (by decide +kernel)) ggX3_ban_X3_bannedToday
set_option maxRecDepth 20000 in
theorem ggX3_ban_X3_clearMarket : GoodIn wsX3_ban wsX3_clearMarket := goodIn_r _ [18, 19, 20, 21, 22, 23, 24, 25, 26, 27, 28, 29, 30, 31, 32, 33, 34, 35, 36, 37, 38, 39, 40, 41, 42, 43, 44, 45, 46, 7, 47, 48, 49, 50, 51, 52, 53, 54, 55, 56, 57, 58, 59, 60, 61, 62, 63, 64, 65, 66, 67, 68, 69, 70, 71] (by decide +kernel) (by decide +kernel)
set_option maxRecDepth 20000 in
theorem gX3_ban_X3_clearMarket : GoodIn wsX3_ban (wsV RX3 174 RX3 yX3_clearMarket wsX3_clearMarket) := goodIn_app (goodIn_of _ (by decide +kernel)) ggX3_ban_X3_clearMarket
set_option maxRecDepth 20000 in
theorem ggX3_lift_X3_needKind : GoodIn wsX3_lift wsX3_needKind := goodIn_ca (goodIn_r _ [5, 6, 7] (by decide +kernel) (by decide +kernel)) (goodIn_sub (fun _ h => List.mem_cons_of_mem _ (List.mem_append_right _ h)) (by decide +kernel))
set_option maxRecDepth 20000 in
theorem gX3_lift_X3_needKind : GoodIn wsX3_lift (va_wsS RX3 57 yX3_needKind wsX3_needKind) := goodIn_app (goodIn_of _ (by decide +kernel)) ggX3_lift_X3_needKind
set_option maxRecDepth 20000 in
theorem ggX3_isBanned_X3_needKind : GoodIn wsX3_isBanned wsX3_needKind := goodIn_ca (goodIn_r _ [4, 5, 6] (by decide +kernel) (by decide +kernel)) (goodIn_sub (fun _ h => List.mem_cons_of_mem _ (List.mem_append_right _ h)) (by decide +kernel))
set_option maxRecDepth 20000 in
theorem gX3_isBanned_X3_needKind : GoodIn wsX3_isBanned (va_wsS RX3 57 yX3_needKind wsX3_needKind) := goodIn_app (goodIn_of _ (by decide +kernel)) ggX3_isBanned_X3_needKind
set_option maxRecDepth 20000 in
theorem ggX3_isBanned_X3_bannedToday : GoodIn wsX3_isBanned wsX3_bannedToday := goodIn_r _ [10, 11, 12, 13, 14, 15, 16, 17, 18, 19, 20] (by decide +kernel) (by decide +kernel)
set_option maxRecDepth 20000 in
theorem gX3_isBanned_X3_bannedToday : GoodIn wsX3_isBanned (wsV RX3 101 RX3 yX3_bannedToday wsX3_bannedToday) := goodIn_app (goodIn_of _ (by decide +kernel)) ggX3_isBanned_X3_bannedToday
set_option maxRecDepth 20000 in
theorem ggX3_pass_X1_endLoans : GoodIn wsX3_pass wsX1_endLoans := goodIn_r _ [9, 10, 11, 12, 61, 62, 63, 64, 65, 66, 67, 68, 69] (by decide +kernel) (by decide +kernel)
set_option maxRecDepth 20000 in
theorem gX3_pass_X1_endLoans : GoodIn wsX3_pass (wsV RX3 179 RX1 yX1_endLoans wsX1_endLoans) := goodIn_app (goodIn_of _ (by decide +kernel)) ggX3_pass_X1_endLoans
set_option maxRecDepth 20000 in
theorem ggX3_pass_X3_bannedToday : GoodIn wsX3_pass wsX3_bannedToday := goodIn_r _ [17, 18, 3, 53, 54, 55, 56, 57, 58, 59, 60] (by decide +kernel) (by decide +kernel)
set_option maxRecDepth 20000 in
theorem gX3_pass_X3_bannedToday : GoodIn wsX3_pass (wsV RX3 101 RX3 yX3_bannedToday wsX3_bannedToday) := goodIn_app (goodIn_of _ (by decide +kernel)) ggX3_pass_X3_bannedToday
set_option maxRecDepth 20000 in
theorem ggX3_pass_X3_clearMarket : GoodIn wsX3_pass wsX3_clearMarket := goodIn_r _ [22, 4, 23, 24, 25, 26, 8, 27, 10, 28, 29, 30, 31, 11, 32, 33, 34, 35, 36, 37, 38, 39, 40, 41, 42, 43, 44, 45, 46, 16, 47, 48, 49, 50, 51, 52, 53, 54, 55, 56, 57, 58, 59, 60, 61, 62, 63, 64, 65, 66, 67, 68, 69, 70, 71] (by decide +kernel) (by decide +kernel)
set_option maxRecDepth 20000 in
theorem gX3_pass_X3_clearMarket : GoodIn wsX3_pass (wsV RX3 174 RX3 yX3_clearMarket wsX3_clearMarket) := goodIn_app (goodIn_of _ (by decide +kernel)) ggX3_pass_X3_clearMarket
set_option maxRecDepth 20000 in
theorem ggX3_toggleDeck_X3_needPlayer : GoodIn wsX3_toggleDeck wsX3_needPlayer := goodIn_ca (goodIn_r _ [5, 6, 7] (by decide +kernel) (by decide +kernel)) (goodIn_sub (fun _ h => List.mem_cons_of_mem _ (List.mem_append_right _ h)) (by decide +kernel))
set_option maxRecDepth 20000 in
theorem gX3_toggleDeck_X3_needPlayer : GoodIn wsX3_toggleDeck (va_wsS RX3 53 yX3_needPlayer wsX3_needPlayer) := goodIn_app (goodIn_of _ (by decide +kernel)) ggX3_toggleDeck_X3_needPlayer
set_option maxRecDepth 20000 in
theorem ggX3_toggleDeck_X3_needCard : GoodIn wsX3_toggleDeck wsX3_needCard := goodIn_ca (goodIn_r _ [11, 6, 7, 12, 13, 14, 15, 16, 17, 18, 26, 27, 28, 29, 30, 31, 32, 33, 34, 35, 36, 37, 38, 39, 40, 41, 42] (by decide +kernel) (by decide +kernel)) (goodIn_sub (fun _ h => List.mem_cons_of_mem _ (List.mem_append_right _ h)) (by decide +kernel))
set_option maxRecDepth 20000 in
theorem gX3_toggleDeck_X3_needCard : GoodIn wsX3_toggleDeck (wsV RX3 79 RX3 yX3_needCard wsX3_needCard) := goodIn_app (goodIn_of _ (by decide +kernel)) ggX3_toggleDeck_X3_needCard
set_option maxRecDepth 20000 in
theorem ggX3_toggleDeck_J6_bitCount_0f7a4 : GoodIn wsX3_toggleDeck wsJ6_bitCount_0f7a4 := goodIn_r _ [22, 23, 24, 25] (by decide +kernel) (by decide +kernel)
set_option maxRecDepth 20000 in
theorem gX3_toggleDeck_J6_bitCount_0f7a4 : GoodIn wsX3_toggleDeck (va_wsS RX3 182 yJ6_bitCount_0f7a4 wsJ6_bitCount_0f7a4) := goodIn_app (goodIn_of _ (by decide +kernel)) ggX3_toggleDeck_J6_bitCount_0f7a4
set_option maxRecDepth 20000 in
theorem ggX3_isRight_X3_needPlayer : GoodIn wsX3_isRight wsX3_needPlayer := goodIn_ca (goodIn_r _ [4, 5, 6] (by decide +kernel) (by decide +kernel)) (goodIn_sub (fun _ h => List.mem_cons_of_mem _ (List.mem_append_right _ h)) (by decide +kernel))
set_option maxRecDepth 20000 in
theorem gX3_isRight_X3_needPlayer : GoodIn wsX3_isRight (va_wsS RX3 53 yX3_needPlayer wsX3_needPlayer) := goodIn_app (goodIn_of _ (by decide +kernel)) ggX3_isRight_X3_needPlayer
set_option maxRecDepth 20000 in
theorem ggX3_isRight_X3_deckIsRight : GoodIn wsX3_isRight wsX3_deckIsRight := goodIn_r _ [10, 11, 12, 13, 14, 15, 16, 17, 18, 19, 20, 21, 22, 23, 3, 24, 25, 26, 27, 28, 29, 30, 31, 32, 33, 34, 35, 36, 37, 38, 39, 40, 41, 42, 43, 44, 45, 46, 47, 48, 49, 50, 51, 52, 53, 54, 55, 56, 57, 58, 59, 60, 61] (by decide +kernel) (by decide +kernel)
set_option maxRecDepth 20000 in
theorem gX3_isRight_X3_deckIsRight : GoodIn wsX3_isRight (wsV RX3 187 RX3 yX3_deckIsRight wsX3_deckIsRight) := goodIn_app (goodIn_of _ (by decide +kernel)) ggX3_isRight_X3_deckIsRight
set_option maxRecDepth 20000 in
theorem ggX3_strength_X3_needPlayer : GoodIn wsX3_strength wsX3_needPlayer := goodIn_ca (goodIn_r _ [4, 5, 6] (by decide +kernel) (by decide +kernel)) (goodIn_sub (fun _ h => List.mem_cons_of_mem _ (List.mem_append_right _ h)) (by decide +kernel))
set_option maxRecDepth 20000 in
theorem gX3_strength_X3_needPlayer : GoodIn wsX3_strength (va_wsS RX3 53 yX3_needPlayer wsX3_needPlayer) := goodIn_app (goodIn_of _ (by decide +kernel)) ggX3_strength_X3_needPlayer
set_option maxRecDepth 20000 in
theorem ggX3_strength_X3_deckStrength : GoodIn wsX3_strength wsX3_deckStrength := goodIn_r _ [10, 11, 12, 13, 14, 15, 16, 3, 17, 18, 19, 20, 21, 22, 23, 24, 25, 26, 27, 28, 29, 30, 31, 32, 33, 34, 35] (by decide +kernel) (by decide +kernel)
set_option maxRecDepth 20000 in
theorem gX3_strength_X3_deckStrength : GoodIn wsX3_strength (wsV RX3 190 RX3 yX3_deckStrength wsX3_deckStrength) := goodIn_app (goodIn_of _ (by decide +kernel)) ggX3_strength_X3_deckStrength
set_option maxRecDepth 20000 in
theorem ggX3_play_X3_needPlayer : GoodIn wsX3_play wsX3_needPlayer := goodIn_ca (goodIn_r _ [9, 10, 11] (by decide +kernel) (by decide +kernel)) (goodIn_sub (fun _ h => List.mem_cons_of_mem _ (List.mem_append_right _ h)) (by decide +kernel))
set_option maxRecDepth 20000 in
theorem gX3_play_X3_needPlayer : GoodIn wsX3_play (va_wsS RX3 53 yX3_needPlayer wsX3_needPlayer) := goodIn_app (goodIn_of _ (by decide +kernel)) ggX3_play_X3_needPlayer
set_option maxRecDepth 20000 in
theorem ggX3_play_X3_deckIsRight : GoodIn wsX3_play wsX3_deckIsRight := goodIn_r _ [15, 16, 17, 18, 19, 20, 21, 22, 23, 24, 25, 26, 27, 28, 8, 29, 30, 31, 32, 33, 34, 35, 36, 37, 38, 39, 40, 41, 42, 43, 44, 45, 46, 47, 48, 49, 54, 55, 56, 57, 58, 59, 60, 61, 62, 63, 64, 65, 66, 67, 68, 69, 70] (by decide +kernel) (by decide +kernel)
set_option maxRecDepth 20000 in
theorem gX3_play_X3_deckIsRight : GoodIn wsX3_play (wsV RX3 187 RX3 yX3_deckIsRight wsX3_deckIsRight) := goodIn_app (goodIn_of _ (by decide +kernel)) ggX3_play_X3_deckIsRight
set_option maxRecDepth 20000 in
theorem ggX3_play_X3_deckStrength : GoodIn wsX3_play wsX3_deckStrength := goodIn_r _ [53, 17, 18, 35, 26, 27, 28, 8, 29, 16, 54, 55, 56, 57, 58, 59, 60, 61, 62, 63, 64, 65, 66, 67, 68, 69, 70] (by decide +kernel) (by decide +kernel)
set_option maxRecDepth 20000 in
theorem gX3_play_X3_deckStrength : GoodIn wsX3_play (wsV RX3 190 RX3 yX3_deckStrength wsX3_deckStrength) := goodIn_app (goodIn_of _ (by decide +kernel)) ggX3_play_X3_deckStrength
set_option maxRecDepth 20000 in
theorem ggX3_needCard_X1_has : GoodIn wsX3_needCard wsX1_has := goodIn_r _ [8, 9, 18, 19, 20, 21, 22, 23, 24, 25, 26] (by decide +kernel) (by decide +kernel)
set_option maxRecDepth 20000 in
theorem gX3_needCard_X1_has : GoodIn wsX3_needCard (wsV RX3 204 RX1 yX1_has wsX1_has) := goodIn_app (goodIn_of _ (by decide +kernel)) ggX3_needCard_X1_has
set_option maxRecDepth 20000 in
theorem ggX3_giveTo_X2_record : GoodIn wsX3_giveTo wsX2_record := goodIn_r _ [9, 10, 11, 12, 30, 31, 32] (by decide +kernel) (by decide +kernel)
set_option maxRecDepth 20000 in
theorem gX3_giveTo_X2_record : GoodIn wsX3_giveTo (wsV RX3 75 RX2 yX2_record wsX2_record) := goodIn_app (goodIn_of _ (by decide +kernel)) ggX3_giveTo_X2_record
set_option maxRecDepth 20000 in
theorem ggX3_giveBidBack_X0_take : GoodIn wsX3_giveBidBack wsX0_take := goodIn_r _ [7, 8, 17, 18] (by decide +kernel) (by decide +kernel)
set_option maxRecDepth 20000 in
theorem gX3_giveBidBack_X0_take : GoodIn wsX3_giveBidBack (wsV RX3 118 RX0 yX0_take wsX0_take) := goodIn_app (goodIn_of _ (by decide +kernel)) ggX3_giveBidBack_X0_take
set_option maxRecDepth 20000 in
theorem ggX3_clearMarket_X1_takeSalesOf : GoodIn wsX3_clearMarket wsX1_takeSalesOf := goodIn_r _ [7, 8, 9, 10, 11, 6, 12, 13, 14, 15, 16, 17, 18, 19, 44, 45, 46, 47, 48, 49, 50, 51, 52] (by decide +kernel) (by decide +kernel)
set_option maxRecDepth 20000 in
theorem gX3_clearMarket_X1_takeSalesOf : GoodIn wsX3_clearMarket (wsV RX3 210 RX1 yX1_takeSalesOf wsX1_takeSalesOf) := goodIn_app (goodIn_of _ (by decide +kernel)) ggX3_clearMarket_X1_takeSalesOf
set_option maxRecDepth 20000 in
theorem ggX3_clearMarket_X0_has : GoodIn wsX3_clearMarket wsX0_has := goodIn_r _ [24, 25, 53, 54] (by decide +kernel) (by decide +kernel)
set_option maxRecDepth 20000 in
theorem gX3_clearMarket_X0_has : GoodIn wsX3_clearMarket (wsV RX3 124 RX0 yX0_has wsX0_has) := goodIn_app (goodIn_of _ (by decide +kernel)) ggX3_clearMarket_X0_has
set_option maxRecDepth 20000 in
theorem ggX3_clearMarket_X3_giveBidBack : GoodIn wsX3_clearMarket wsX3_giveBidBack := goodIn_r _ [30, 2, 31, 32, 33, 34, 23, 35, 25, 36, 37, 38, 39, 40, 41, 42, 43, 53, 54] (by decide +kernel) (by decide +kernel)
set_option maxRecDepth 20000 in
theorem gX3_clearMarket_X3_giveBidBack : GoodIn wsX3_clearMarket (wsV RX3 147 RX3 yX3_giveBidBack wsX3_giveBidBack) := goodIn_app (goodIn_of _ (by decide +kernel)) ggX3_clearMarket_X3_giveBidBack
set_option maxRecDepth 20000 in
theorem ggX3_deckIsRight_J6_bitCount_0f7a4 : GoodIn wsX3_deckIsRight wsJ6_bitCount_0f7a4 := goodIn_r _ [7, 8, 9, 10] (by decide +kernel) (by decide +kernel)
set_option maxRecDepth 20000 in
theorem gX3_deckIsRight_J6_bitCount_0f7a4 : GoodIn wsX3_deckIsRight (va_wsS RX3 182 yJ6_bitCount_0f7a4 wsJ6_bitCount_0f7a4) := goodIn_app (goodIn_of _ (by decide +kernel)) ggX3_deckIsRight_J6_bitCount_0f7a4
set_option maxRecDepth 20000 in
theorem ggX3_deckIsRight_X3_inDeck : GoodIn wsX3_deckIsRight wsX3_inDeck := goodIn_r _ [15, 1, 36, 37, 38, 39, 40, 41, 42, 43] (by decide +kernel) (by decide +kernel)
set_option maxRecDepth 20000 in
theorem gX3_deckIsRight_X3_inDeck : GoodIn wsX3_deckIsRight (wsV RX3 216 RX3 yX3_inDeck wsX3_inDeck) := goodIn_app (goodIn_of _ (by decide +kernel)) ggX3_deckIsRight_X3_inDeck
set_option maxRecDepth 20000 in
theorem ggX3_deckIsRight_X3_isPlayable : GoodIn wsX3_deckIsRight wsX3_isPlayable := goodIn_r _ [19, 2, 20, 21, 22, 23, 24, 25, 26, 27, 28, 29, 30, 31, 32, 14, 33, 34, 35, 36, 37, 38, 39, 40, 41, 42, 43, 44, 45, 46, 47, 48, 49, 50, 51, 52] (by decide +kernel) (by decide +kernel)
set_option maxRecDepth 20000 in
theorem gX3_deckIsRight_X3_isPlayable : GoodIn wsX3_deckIsRight (wsV RX3 219 RX3 yX3_isPlayable wsX3_isPlayable) := goodIn_app (goodIn_of _ (by decide +kernel)) ggX3_deckIsRight_X3_isPlayable
set_option maxRecDepth 20000 in
theorem ggX3_isPlayable_X1_holderOf : GoodIn wsX3_isPlayable wsX1_holderOf := goodIn_r _ [8, 9, 10, 11, 27, 28, 29, 30, 31, 32, 33, 34, 35] (by decide +kernel) (by decide +kernel)
set_option maxRecDepth 20000 in
theorem gX3_isPlayable_X1_holderOf : GoodIn wsX3_isPlayable (wsV RX3 89 RX1 yX1_holderOf wsX1_holderOf) := goodIn_app (goodIn_of _ (by decide +kernel)) ggX3_isPlayable_X1_holderOf
set_option maxRecDepth 20000 in
theorem ggX3_isPlayable_X3_bannedToday : GoodIn wsX3_isPlayable wsX3_bannedToday := goodIn_r _ [16, 17, 18, 19, 20, 21, 22, 23, 24, 25, 26] (by decide +kernel) (by decide +kernel)
set_option maxRecDepth 20000 in
theorem gX3_isPlayable_X3_bannedToday : GoodIn wsX3_isPlayable (wsV RX3 101 RX3 yX3_bannedToday wsX3_bannedToday) := goodIn_app (goodIn_of _ (by decide +kernel)) ggX3_isPlayable_X3_bannedToday
set_option maxRecDepth 20000 in
theorem ggX3_deckStrength_X3_inDeck : GoodIn wsX3_deckStrength wsX3_inDeck := goodIn_r _ [8, 9, 10, 11, 12, 13, 14, 15, 16, 17] (by decide +kernel) (by decide +kernel)
set_option maxRecDepth 20000 in
theorem gX3_deckStrength_X3_inDeck : GoodIn wsX3_deckStrength (wsV RX3 216 RX3 yX3_inDeck wsX3_inDeck) := goodIn_app (goodIn_of _ (by decide +kernel)) ggX3_deckStrength_X3_inDeck
set_option maxRecDepth 20000 in
theorem ggX4_isPlayer_X4_in : GoodIn wsX4_isPlayer wsX4_in := goodIn_r _ [4] (by decide +kernel) (by decide +kernel)
set_option maxRecDepth 20000 in
theorem gX4_isPlayer_X4_in : GoodIn wsX4_isPlayer (va_wsS RX4 54 yX4_in wsX4_in) := goodIn_app (goodIn_of _ (by decide +kernel)) ggX4_isPlayer_X4_in
set_option maxRecDepth 20000 in
theorem ggX4_isKind_X4_in : GoodIn wsX4_isKind wsX4_in := goodIn_r _ [4] (by decide +kernel) (by decide +kernel)
set_option maxRecDepth 20000 in
theorem gX4_isKind_X4_in : GoodIn wsX4_isKind (va_wsS RX4 54 yX4_in wsX4_in) := goodIn_app (goodIn_of _ (by decide +kernel)) ggX4_isKind_X4_in
set_option maxRecDepth 20000 in
theorem ggX4_isCard_X4_in : GoodIn wsX4_isCard wsX4_in := goodIn_r _ [5] (by decide +kernel) (by decide +kernel)
set_option maxRecDepth 20000 in
theorem gX4_isCard_X4_in : GoodIn wsX4_isCard (va_wsS RX4 54 yX4_in wsX4_in) := goodIn_app (goodIn_of _ (by decide +kernel)) ggX4_isCard_X4_in
set_option maxRecDepth 20000 in
theorem ggX4_mint_X4_isPlayer : GoodIn wsX4_mint wsX4_isPlayer := goodIn_r _ [8, 9, 10, 7, 11] (by decide +kernel) (by decide +kernel)
set_option maxRecDepth 20000 in
theorem gX4_mint_X4_isPlayer : GoodIn wsX4_mint (va_wsS RX4 64 yX4_isPlayer wsX4_isPlayer) := goodIn_app (goodIn_of _ (by decide +kernel)) ggX4_mint_X4_isPlayer
set_option maxRecDepth 20000 in
theorem ggX4_mint_X4_isKind : GoodIn wsX4_mint wsX4_isKind := goodIn_r _ [14, 9, 10, 7, 11] (by decide +kernel) (by decide +kernel)
set_option maxRecDepth 20000 in
theorem gX4_mint_X4_isKind : GoodIn wsX4_mint (va_wsS RX4 68 yX4_isKind wsX4_isKind) := goodIn_app (goodIn_of _ (by decide +kernel)) ggX4_mint_X4_isKind
set_option maxRecDepth 20000 in
theorem ggX4_mint_X4_asked_ : GoodIn wsX4_mint wsX4_asked_ := goodIn_r _ [18, 19, 20, 21, 22, 23, 24, 25, 26, 27, 28, 29, 30, 31, 32, 33, 34, 35, 36] (by decide +kernel) (by decide +kernel)
set_option maxRecDepth 20000 in
theorem gX4_mint_X4_asked_ : GoodIn wsX4_mint (wsV RX4 71 RX4 yX4_asked_ wsX4_asked_) := goodIn_app (goodIn_of _ (by decide +kernel)) ggX4_mint_X4_asked_
set_option maxRecDepth 20000 in
theorem ggX4_owner_X4_isCard : GoodIn wsX4_owner wsX4_isCard := goodIn_r _ [6, 7, 8, 9, 5, 10, 16, 17, 18, 19, 20, 21, 22, 23, 24, 25, 26, 27, 28, 29, 30, 31, 32] (by decide +kernel) (by decide +kernel)
set_option maxRecDepth 20000 in
theorem gX4_owner_X4_isCard : GoodIn wsX4_owner (wsV RX4 75 RX4 yX4_isCard wsX4_isCard) := goodIn_app (goodIn_of _ (by decide +kernel)) ggX4_owner_X4_isCard
set_option maxRecDepth 20000 in
theorem ggX4_owner_X4_asked : GoodIn wsX4_owner wsX4_asked := goodIn_r _ [14, 15, 16, 17, 18, 19, 20, 21, 22, 23, 24, 25, 26, 27, 28, 29, 30, 31, 32] (by decide +kernel) (by decide +kernel)
set_option maxRecDepth 20000 in
theorem gX4_owner_X4_asked : GoodIn wsX4_owner (wsV RX4 78 RX4 yX4_asked wsX4_asked) := goodIn_app (goodIn_of _ (by decide +kernel)) ggX4_owner_X4_asked
set_option maxRecDepth 20000 in
theorem ggX4_ownerByHistory_X4_owner : GoodIn wsX4_ownerByHistory wsX4_owner := goodIn_r _ [5, 6, 7, 8, 9, 4, 10, 11, 12, 13, 14, 15, 16, 17, 18, 19, 20, 21, 22, 23, 24, 25, 26, 27, 28, 29, 30, 31, 32, 33, 34, 35, 36] (by decide +kernel) (by decide +kernel)
set_option maxRecDepth 20000 in
theorem gX4_ownerByHistory_X4_owner : GoodIn wsX4_ownerByHistory (wsV RX4 81 RX4 yX4_owner wsX4_owner) := goodIn_app (goodIn_of _ (by decide +kernel)) ggX4_ownerByHistory_X4_owner
set_option maxRecDepth 20000 in
theorem ggX4_holder_X4_isCard : GoodIn wsX4_holder wsX4_isCard := goodIn_r _ [5, 6, 7, 8, 4, 9, 22, 23, 24, 25, 26, 27, 28, 29, 30, 31, 32, 33, 34, 35, 36, 37, 38] (by decide +kernel) (by decide +kernel)
set_option maxRecDepth 20000 in
theorem gX4_holder_X4_isCard : GoodIn wsX4_holder (wsV RX4 75 RX4 yX4_isCard wsX4_isCard) := goodIn_app (goodIn_of _ (by decide +kernel)) ggX4_holder_X4_isCard
set_option maxRecDepth 20000 in
theorem ggX4_holder_X4_asked : GoodIn wsX4_holder wsX4_asked := goodIn_r _ [13, 14, 22, 23, 24, 25, 26, 27, 28, 29, 30, 31, 32, 33, 34, 35, 36, 37, 38] (by decide +kernel) (by decide +kernel)
set_option maxRecDepth 20000 in
theorem gX4_holder_X4_asked : GoodIn wsX4_holder (wsV RX4 78 RX4 yX4_asked wsX4_asked) := goodIn_app (goodIn_of _ (by decide +kernel)) ggX4_holder_X4_asked
set_option maxRecDepth 20000 in
theorem ggX4_holder_X4_holds : GoodIn wsX4_holder wsX4_holds := goodIn_r _ [18, 19, 20, 21, 22, 23, 24, 25, 26, 27, 28, 29, 30, 31, 32, 33, 34, 35, 36, 37, 38] (by decide +kernel) (by decide +kernel)
set_option maxRecDepth 20000 in
theorem gX4_holder_X4_holds : GoodIn wsX4_holder (wsV RX4 84 RX4 yX4_holds wsX4_holds) := goodIn_app (goodIn_of _ (by decide +kernel)) ggX4_holder_X4_holds
set_option maxRecDepth 20000 in
theorem ggX4_stateOf_X4_isCard : GoodIn wsX4_stateOf wsX4_isCard := goodIn_r _ [6, 7, 8, 9, 5, 10, 16, 17, 18, 19, 20, 21, 22, 23, 24, 25, 26, 27, 28, 29, 30, 31, 32] (by decide +kernel) (by decide +kernel)
set_option maxRecDepth 20000 in
theorem gX4_stateOf_X4_isCard : GoodIn wsX4_stateOf (wsV RX4 75 RX4 yX4_isCard wsX4_isCard) := goodIn_app (goodIn_of _ (by decide +kernel)) ggX4_stateOf_X4_isCard
set_option maxRecDepth 20000 in
theorem ggX4_stateOf_X4_asked : GoodIn wsX4_stateOf wsX4_asked := goodIn_r _ [14, 15, 16, 17, 18, 19, 20, 21, 22, 23, 24, 25, 26, 27, 28, 29, 30, 31, 32] (by decide +kernel) (by decide +kernel)
set_option maxRecDepth 20000 in
theorem gX4_stateOf_X4_asked : GoodIn wsX4_stateOf (wsV RX4 78 RX4 yX4_asked wsX4_asked) := goodIn_app (goodIn_of _ (by decide +kernel)) ggX4_stateOf_X4_asked
set_option maxRecDepth 20000 in
theorem ggX4_coins_X4_isPlayer : GoodIn wsX4_coins wsX4_isPlayer := goodIn_r _ [5, 6, 7, 4, 8] (by decide +kernel) (by decide +kernel)
set_option maxRecDepth 20000 in
theorem gX4_coins_X4_isPlayer : GoodIn wsX4_coins (va_wsS RX4 64 yX4_isPlayer wsX4_isPlayer) := goodIn_app (goodIn_of _ (by decide +kernel)) ggX4_coins_X4_isPlayer
set_option maxRecDepth 20000 in
theorem ggX4_coins_X4_asked : GoodIn wsX4_coins wsX4_asked := goodIn_r _ [12, 13, 14, 15, 16, 17, 18, 19, 20, 21, 22, 23, 24, 25, 26, 27, 28, 29, 30] (by decide +kernel) (by decide +kernel)
set_option maxRecDepth 20000 in
theorem gX4_coins_X4_asked : GoodIn wsX4_coins (wsV RX4 78 RX4 yX4_asked wsX4_asked) := goodIn_app (goodIn_of _ (by decide +kernel)) ggX4_coins_X4_asked
set_option maxRecDepth 20000 in
theorem ggX4_sell_X4_isCard : GoodIn wsX4_sell wsX4_isCard := goodIn_r _ [13, 14, 15, 16, 12, 17, 34, 35, 36, 37, 38, 39, 40, 41, 42, 43, 44, 45, 46, 47, 48, 49, 50] (by decide +kernel) (by decide +kernel)
set_option maxRecDepth 20000 in
theorem gX4_sell_X4_isCard : GoodIn wsX4_sell (wsV RX4 75 RX4 yX4_isCard wsX4_isCard) := goodIn_app (goodIn_of _ (by decide +kernel)) ggX4_sell_X4_isCard
set_option maxRecDepth 20000 in
theorem ggX4_sell_X4_in : GoodIn wsX4_sell wsX4_in := goodIn_r _ [17] (by decide +kernel) (by decide +kernel)
set_option maxRecDepth 20000 in
theorem gX4_sell_X4_in : GoodIn wsX4_sell (va_wsS RX4 54 yX4_in wsX4_in) := goodIn_app (goodIn_of _ (by decide +kernel)) ggX4_sell_X4_in
set_option maxRecDepth 20000 in
theorem ggX4_sell_X4_banned : GoodIn wsX4_sell wsX4_banned := goodIn_r _ [21, 22, 23, 34, 35, 36, 37, 38, 39, 40, 41, 42, 43, 44, 45, 46, 47, 48, 49, 50] (by decide +kernel) (by decide +kernel)
set_option maxRecDepth 20000 in
theorem gX4_sell_X4_banned : GoodIn wsX4_sell (wsV RX4 87 RX4 yX4_banned wsX4_banned) := goodIn_app (goodIn_of _ (by decide +kernel)) ggX4_sell_X4_banned
set_option maxRecDepth 20000 in
theorem ggX4_sell_X4_asked__ : GoodIn wsX4_sell wsX4_asked__ := goodIn_r _ [27, 28, 34, 35, 36, 37, 38, 39, 40, 41, 42, 43, 44, 45, 46, 47, 48, 49, 50] (by decide +kernel) (by decide +kernel)
set_option maxRecDepth 20000 in
theorem gX4_sell_X4_asked__ : GoodIn wsX4_sell (wsV RX4 90 RX4 yX4_asked__ wsX4_asked__) := goodIn_app (goodIn_of _ (by decide +kernel)) ggX4_sell_X4_asked__
set_option maxRecDepth 20000 in
theorem ggX4_sell_X4_bidder : GoodIn wsX4_sell wsX4_bidder := goodIn_r _ [32, 5, 33, 34, 35, 36, 37, 38, 39, 40, 41, 42, 43, 44, 45, 46, 47, 48, 49, 50] (by decide +kernel) (by decide +kernel)
set_option maxRecDepth 20000 in
theorem gX4_sell_X4_bidder : GoodIn wsX4_sell (wsV RX4 96 RX4 yX4_bidder wsX4_bidder) := goodIn_app (goodIn_of _ (by decide +kernel)) ggX4_sell_X4_bidder
set_option maxRecDepth 20000 in
theorem ggX4_bid_X4_isPlayer : GoodIn wsX4_bid wsX4_isPlayer := goodIn_r _ [11, 12, 13, 10, 14] (by decide +kernel) (by decide +kernel)
set_option maxRecDepth 20000 in
theorem gX4_bid_X4_isPlayer : GoodIn wsX4_bid (va_wsS RX4 64 yX4_isPlayer wsX4_isPlayer) := goodIn_app (goodIn_of _ (by decide +kernel)) ggX4_bid_X4_isPlayer
set_option maxRecDepth 20000 in
theorem ggX4_bid_X4_isKind : GoodIn wsX4_bid wsX4_isKind := goodIn_r _ [17, 12, 13, 10, 14] (by decide +kernel) (by decide +kernel)
set_option maxRecDepth 20000 in
theorem gX4_bid_X4_isKind : GoodIn wsX4_bid (va_wsS RX4 68 yX4_isKind wsX4_isKind) := goodIn_app (goodIn_of _ (by decide +kernel)) ggX4_bid_X4_isKind
set_option maxRecDepth 20000 in
theorem ggX4_bid_X4_in : GoodIn wsX4_bid wsX4_in := goodIn_r _ [14] (by decide +kernel) (by decide +kernel)
set_option maxRecDepth 20000 in
theorem gX4_bid_X4_in : GoodIn wsX4_bid (va_wsS RX4 54 yX4_in wsX4_in) := goodIn_app (goodIn_of _ (by decide +kernel)) ggX4_bid_X4_in
