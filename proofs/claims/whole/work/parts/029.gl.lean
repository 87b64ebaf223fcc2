set_option maxRecDepth 20000 in
theorem ggL_law_X4_coins : GoodIn wsL_law wsX4_coins := goodIn_r _ [217, 63, 114, 115, 5, 116, 117, 118, 119, 156, 157, 158, 159, 127, 567, 568, 569, 570, 571, 572, 573, 574, 575, 576, 577, 578, 579, 580, 581, 582, 583] (by decide +kernel) (by decide +kernel)
set_option maxRecDepth 20000 in
theorem gL_law_X4_coins : GoodIn wsL_law (wsV RL 122 RX4 yX4_coins wsX4_coins) := goodIn_app (goodIn_of _ (by decide +kernel)) ggL_law_X4_coins
set_option maxRecDepth 20000 in
theorem ggL_law_L_sell : GoodIn wsL_law wsL_sell := goodIn_ca (goodIn_ca (goodIn_ca (goodIn_r _ [220, 81, 221, 82, 222, 223, 224, 2, 225, 87, 88, 16, 226, 202, 20, 139, 227, 29, 26, 140, 141, 142, 143, 92, 93, 144, 145, 146, 15, 147, 42, 228, 229, 230, 231, 232, 233, 234, 235, 236, 27, 30, 237, 238, 239, 19, 240, 241, 242, 243, 244, 47, 245, 246, 247, 248, 48, 249, 250, 251, 252, 36, 37, 38, 253, 254, 255, 256, 257, 258, 259, 260, 24, 105, 106, 107, 23, 108, 54, 52, 53, 559, 560, 561, 562, 563, 564, 565, 566, 584, 585, 586, 587, 588, 589, 590, 591, 592, 593, 594, 595, 596, 597] (by decide +kernel) (by decide +kernel)) (goodIn_sub (fun _ h => List.mem_append_left _ (List.mem_append_left _ (List.mem_append_right _ h))) (by decide +kernel))) (goodIn_sub (fun _ h => List.mem_append_left _ (List.mem_append_right _ h)) (by decide +kernel))) (goodIn_sub (fun _ h => List.mem_append_right _ h) (by decide +kernel))
set_option maxRecDepth 20000 in
theorem gL_law_L_sell : GoodIn wsL_law (va_wsS RL 123 yL_sell wsL_sell) := goodIn_app (goodIn_of _ (by decide +kernel)) ggL_law_L_sell
set_option maxRecDepth 20000 in
theorem ggL_law_X4_sell : GoodIn wsL_law wsX4_sell := goodIn_r _ [264, 66, 64, 265, 65, 72, 63, 67, 68, 152, 153, 154, 5, 155, 113, 117, 118, 119, 266, 267, 268, 269, 74, 270, 271, 272, 273, 274, 127, 275, 276, 277, 278, 73, 567, 568, 569, 570, 571, 572, 573, 574, 575, 576, 577, 578, 579, 580, 581, 582, 583] (by decide +kernel) (by decide +kernel)
set_option maxRecDepth 20000 in
theorem gL_law_X4_sell : GoodIn wsL_law (wsV RL 125 RX4 yX4_sell wsX4_sell) := goodIn_app (goodIn_of _ (by decide +kernel)) ggL_law_X4_sell
set_option maxRecDepth 20000 in
theorem ggL_law_L_bid : GoodIn wsL_law wsL_bid := goodIn_ca (goodIn_ca (goodIn_ca (goodIn_r _ [281, 81, 221, 82, 282, 283, 284, 2, 285, 87, 88, 26, 20, 16, 286, 29, 139, 89, 90, 91, 92, 93, 94, 95, 96, 228, 229, 230, 231, 232, 287, 242, 243, 19, 244, 47, 233, 234, 235, 236, 27, 30, 288, 289, 290, 15, 291, 42, 35, 292, 293, 294, 295, 36, 34, 296, 297, 298, 299, 37, 38, 300, 301, 302, 303, 48, 304, 305, 306, 307, 257, 258, 259, 260, 202, 24, 105, 106, 107, 23, 108, 54, 52, 53, 559, 560, 561, 562, 563, 564, 565, 566, 584, 585, 586, 587, 588, 589, 590, 591, 592, 593, 594, 595, 596, 597] (by decide +kernel) (by decide +kernel)) (goodIn_sub (fun _ h => List.mem_append_left _ (List.mem_append_left _ (List.mem_append_right _ h))) (by decide +kernel))) (goodIn_sub (fun _ h => List.mem_append_left _ (List.mem_append_right _ h)) (by decide +kernel))) (goodIn_sub (fun _ h => List.mem_append_right _ h) (by decide +kernel))
set_option maxRecDepth 20000 in
theorem gL_law_L_bid : GoodIn wsL_law (va_wsS RL 126 yL_bid wsL_bid) := goodIn_app (goodIn_of _ (by decide +kernel)) ggL_law_L_bid
set_option maxRecDepth 20000 in
theorem ggL_law_X4_bid : GoodIn wsL_law wsX4_bid := goodIn_r _ [311, 63, 72, 265, 67, 65, 66, 73, 114, 115, 5, 116, 117, 118, 119, 120, 121, 122, 266, 267, 268, 269, 74, 270, 271, 272, 273, 274, 127, 312, 313, 314, 315, 113, 64, 68, 567, 568, 569, 570, 571, 572, 573, 574, 575, 576, 577, 578, 579, 580, 581, 582, 583] (by decide +kernel) (by decide +kernel)
set_option maxRecDepth 20000 in
theorem gL_law_X4_bid : GoodIn wsL_law (wsV RL 129 RX4 yX4_bid wsX4_bid) := goodIn_app (goodIn_of _ (by decide +kernel)) ggL_law_X4_bid
set_option maxRecDepth 20000 in
theorem ggL_law_L_cancelSale : GoodIn wsL_law wsL_cancelSale := goodIn_ca (goodIn_ca (goodIn_r _ [318, 81, 82, 319, 320, 321, 2, 322, 87, 88, 16, 202, 140, 141, 142, 143, 92, 93, 144, 145, 146, 15, 147, 42, 304, 305, 306, 307, 36, 37, 559, 560, 561, 562, 563, 564, 565, 566, 584, 585, 586, 587, 588, 589, 590, 591, 592] (by decide +kernel) (by decide +kernel)) (goodIn_sub (fun _ h => List.mem_append_left _ (List.mem_append_left _ (List.mem_append_right _ h))) (by decide +kernel))) (goodIn_sub (fun _ h => List.mem_append_left _ (List.mem_append_right _ h)) (by decide +kernel))
set_option maxRecDepth 20000 in
theorem gL_law_L_cancelSale : GoodIn wsL_law (va_wsS RL 130 yL_cancelSale wsL_cancelSale) := goodIn_app (goodIn_of _ (by decide +kernel)) ggL_law_L_cancelSale
set_option maxRecDepth 20000 in
theorem ggL_law_X4_cancelSale : GoodIn wsL_law wsX4_cancelSale := goodIn_r _ [326, 66, 67, 152, 153, 154, 5, 155, 113, 117, 118, 119, 123, 124, 125, 126, 127, 567, 568, 569, 570, 571, 572, 573, 574, 575, 576, 577, 578, 579, 580, 581, 582, 583] (by decide +kernel) (by decide +kernel)
set_option maxRecDepth 20000 in
theorem gL_law_X4_cancelSale : GoodIn wsL_law (wsV RL 132 RX4 yX4_cancelSale wsX4_cancelSale) := goodIn_app (goodIn_of _ (by decide +kernel)) ggL_law_X4_cancelSale
set_option maxRecDepth 20000 in
theorem ggL_law_L_cancelBid : GoodIn wsL_law wsL_cancelBid := goodIn_ca (goodIn_ca (goodIn_r _ [329, 81, 82, 330, 331, 332, 2, 333, 87, 88, 20, 89, 90, 91, 92, 93, 94, 95, 96, 287, 242, 243, 19, 244, 47, 334, 335, 336, 337, 26, 253, 254, 255, 256, 559, 560, 561, 562, 563, 564, 565, 566, 593, 594] (by decide +kernel) (by decide +kernel)) (goodIn_sub (fun _ h => List.mem_append_left _ (List.mem_append_left _ (List.mem_append_right _ h))) (by decide +kernel))) (goodIn_sub (fun _ h => List.mem_append_left _ (List.mem_append_right _ h)) (by decide +kernel))
set_option maxRecDepth 20000 in
theorem gL_law_L_cancelBid : GoodIn wsL_law (va_wsS RL 133 yL_cancelBid wsL_cancelBid) := goodIn_app (goodIn_of _ (by decide +kernel)) ggL_law_L_cancelBid
set_option maxRecDepth 20000 in
theorem ggL_law_X4_cancelBid : GoodIn wsL_law wsX4_cancelBid := goodIn_r _ [341, 72, 63, 114, 115, 5, 116, 117, 118, 119, 120, 121, 122, 123, 124, 125, 126, 127, 567, 568, 569, 570, 571, 572, 573, 574, 575, 576, 577, 578, 579, 580, 581, 582, 583] (by decide +kernel) (by decide +kernel)
set_option maxRecDepth 20000 in
theorem gL_law_X4_cancelBid : GoodIn wsL_law (wsV RL 135 RX4 yX4_cancelBid wsX4_cancelBid) := goodIn_app (goodIn_of _ (by decide +kernel)) ggL_law_X4_cancelBid
set_option maxRecDepth 20000 in
theorem ggL_law_L_leastSale : GoodIn wsL_law wsL_leastSale := goodIn_ca (goodIn_r _ [344, 81, 345, 346, 347, 2, 348, 16, 286, 94, 95, 96, 92, 93, 288, 289, 290, 15, 291, 42, 35, 292, 293, 294, 295, 36, 34, 296, 297, 298, 299, 37, 38, 559, 560, 561, 562, 563, 564, 565, 566, 584, 585, 586, 587, 588, 589, 590, 591, 592] (by decide +kernel) (by decide +kernel)) (goodIn_sub (fun _ h => List.mem_append_left _ (List.mem_append_right _ h)) (by decide +kernel))
set_option maxRecDepth 20000 in
theorem gL_law_L_leastSale : GoodIn wsL_law (va_wsS RL 136 yL_leastSale wsL_leastSale) := goodIn_app (goodIn_of _ (by decide +kernel)) ggL_law_L_leastSale
set_option maxRecDepth 20000 in
theorem ggL_law_X4_leastSale : GoodIn wsL_law wsX4_leastSale := goodIn_r _ [352, 67, 120, 121, 5, 122, 117, 118, 119, 156, 157, 158, 159, 127, 312, 313, 314, 315, 113, 66, 64, 65, 68, 567, 568, 569, 570, 571, 572, 573, 574, 575, 576, 577, 578, 579, 580, 581, 582, 583] (by decide +kernel) (by decide +kernel)
set_option maxRecDepth 20000 in
theorem gL_law_X4_leastSale : GoodIn wsL_law (wsV RL 138 RX4 yX4_leastSale wsX4_leastSale) := goodIn_app (goodIn_of _ (by decide +kernel)) ggL_law_X4_leastSale
set_option maxRecDepth 20000 in
theorem ggL_law_L_greatestBid : GoodIn wsL_law wsL_greatestBid := goodIn_ca (goodIn_r _ [355, 81, 356, 357, 358, 2, 359, 20, 227, 94, 95, 96, 92, 93, 237, 238, 239, 19, 240, 241, 242, 243, 244, 47, 245, 246, 247, 248, 48, 559, 560, 561, 562, 563, 564, 565, 566, 593, 594] (by decide +kernel) (by decide +kernel)) (goodIn_sub (fun _ h => List.mem_append_left _ (List.mem_append_right _ h)) (by decide +kernel))
set_option maxRecDepth 20000 in
theorem gL_law_L_greatestBid : GoodIn wsL_law (va_wsS RL 139 yL_greatestBid wsL_greatestBid) := goodIn_app (goodIn_of _ (by decide +kernel)) ggL_law_L_greatestBid
set_option maxRecDepth 20000 in
theorem ggL_law_X4_greatestBid : GoodIn wsL_law wsX4_greatestBid := goodIn_r _ [363, 72, 120, 121, 5, 122, 117, 118, 119, 156, 157, 158, 159, 127, 275, 276, 277, 278, 73, 567, 568, 569, 570, 571, 572, 573, 574, 575, 576, 577, 578, 579, 580, 581, 582, 583] (by decide +kernel) (by decide +kernel)
set_option maxRecDepth 20000 in
theorem gL_law_X4_greatestBid : GoodIn wsL_law (wsV RL 141 RX4 yX4_greatestBid wsX4_greatestBid) := goodIn_app (goodIn_of _ (by decide +kernel)) ggL_law_X4_greatestBid
set_option maxRecDepth 20000 in
theorem ggL_law_L_swap : GoodIn wsL_law wsL_swap := goodIn_ca (goodIn_ca (goodIn_ca (goodIn_r _ [366, 81, 221, 82, 367, 368, 369, 2, 370, 231, 232, 87, 88, 16, 139, 202, 371, 140, 141, 142, 143, 92, 93, 144, 145, 146, 15, 147, 42, 559, 560, 561, 562, 563, 564, 565, 566, 584, 585, 586, 587, 588, 589, 590, 591, 592] (by decide +kernel) (by decide +kernel)) (goodIn_sub (fun _ h => List.mem_append_right _ h) (by decide +kernel))) (goodIn_sub (fun _ h => List.mem_append_left _ (List.mem_append_left _ (List.mem_append_right _ h))) (by decide +kernel))) (goodIn_sub (fun _ h => List.mem_append_left _ (List.mem_append_right _ h)) (by decide +kernel))
set_option maxRecDepth 20000 in
theorem gL_law_L_swap : GoodIn wsL_law (va_wsS RL 142 yL_swap wsL_swap) := goodIn_app (goodIn_of _ (by decide +kernel)) ggL_law_L_swap
set_option maxRecDepth 20000 in
theorem ggL_law_X4_swap : GoodIn wsL_law wsX4_swap := goodIn_r _ [375, 65, 66, 69, 152, 153, 154, 5, 155, 113, 117, 118, 119, 271, 272, 273, 274, 127, 567, 568, 569, 570, 571, 572, 573, 574, 575, 576, 577, 578, 579, 580, 581, 582, 583] (by decide +kernel) (by decide +kernel)
set_option maxRecDepth 20000 in
theorem gL_law_X4_swap : GoodIn wsL_law (wsV RL 145 RX4 yX4_swap wsX4_swap) := goodIn_app (goodIn_of _ (by decide +kernel)) ggL_law_X4_swap
set_option maxRecDepth 20000 in
theorem ggL_law_L_agree : GoodIn wsL_law wsL_agree := goodIn_ca (goodIn_ca (goodIn_r _ [378, 81, 82, 379, 380, 381, 2, 382, 87, 88, 16, 371, 139, 140, 141, 142, 143, 92, 93, 144, 145, 146, 15, 147, 42, 383, 384, 385, 386, 39, 36, 35, 387, 257, 258, 259, 260, 202, 24, 105, 106, 107, 23, 108, 54, 52, 53, 559, 560, 561, 562, 563, 564, 565, 566, 584, 585, 586, 587, 588, 589, 590, 591, 592, 595, 596, 597] (by decide +kernel) (by decide +kernel)) (goodIn_sub (fun _ h => List.mem_append_left _ (List.mem_append_left _ (List.mem_append_right _ h))) (by decide +kernel))) (goodIn_sub (fun _ h => List.mem_append_left _ (List.mem_append_right _ h)) (by decide +kernel))
set_option maxRecDepth 20000 in
theorem gL_law_L_agree : GoodIn wsL_law (va_wsS RL 146 yL_agree wsL_agree) := goodIn_app (goodIn_of _ (by decide +kernel)) ggL_law_L_agree
set_option maxRecDepth 20000 in
theorem ggL_law_X4_agree : GoodIn wsL_law wsX4_agree := goodIn_r _ [391, 66, 69, 65, 152, 153, 154, 5, 155, 113, 117, 118, 119, 123, 124, 125, 126, 127, 567, 568, 569, 570, 571, 572, 573, 574, 575, 576, 577, 578, 579, 580, 581, 582, 583] (by decide +kernel) (by decide +kernel)
set_option maxRecDepth 20000 in
theorem gL_law_X4_agree : GoodIn wsL_law (wsV RL 148 RX4 yX4_agree wsX4_agree) := goodIn_app (goodIn_of _ (by decide +kernel)) ggL_law_X4_agree
set_option maxRecDepth 20000 in
theorem ggL_law_L_cancelSwap : GoodIn wsL_law wsL_cancelSwap := goodIn_ca (goodIn_ca (goodIn_r _ [394, 81, 82, 395, 396, 397, 2, 398, 87, 88, 16, 202, 140, 141, 142, 143, 92, 93, 144, 145, 146, 15, 147, 42, 559, 560, 561, 562, 563, 564, 565, 566, 584, 585, 586, 587, 588, 589, 590, 591, 592] (by decide +kernel) (by decide +kernel)) (goodIn_sub (fun _ h => List.mem_append_left _ (List.mem_append_left _ (List.mem_append_right _ h))) (by decide +kernel))) (goodIn_sub (fun _ h => List.mem_append_left _ (List.mem_append_right _ h)) (by decide +kernel))
set_option maxRecDepth 20000 in
theorem gL_law_L_cancelSwap : GoodIn wsL_law (va_wsS RL 149 yL_cancelSwap wsL_cancelSwap) := goodIn_app (goodIn_of _ (by decide +kernel)) ggL_law_L_cancelSwap
set_option maxRecDepth 20000 in
theorem ggL_law_X4_cancelSwap : GoodIn wsL_law wsX4_cancelSwap := goodIn_r _ [402, 66, 152, 153, 154, 5, 155, 113, 117, 118, 119, 123, 124, 125, 126, 127, 567, 568, 569, 570, 571, 572, 573, 574, 575, 576, 577, 578, 579, 580, 581, 582, 583] (by decide +kernel) (by decide +kernel)
set_option maxRecDepth 20000 in
theorem gL_law_X4_cancelSwap : GoodIn wsL_law (wsV RL 152 RX4 yX4_cancelSwap wsX4_cancelSwap) := goodIn_app (goodIn_of _ (by decide +kernel)) ggL_law_X4_cancelSwap
set_option maxRecDepth 20000 in
theorem ggL_law_L_lend : GoodIn wsL_law wsL_lend := goodIn_ca (goodIn_ca (goodIn_ca (goodIn_r _ [405, 81, 221, 82, 406, 407, 408, 2, 409, 231, 232, 87, 88, 16, 139, 202, 30, 140, 141, 142, 143, 92, 93, 144, 145, 146, 15, 147, 42, 89, 90, 91, 410, 411, 412, 413, 36, 40, 41, 559, 560, 561, 562, 563, 564, 565, 566, 584, 585, 586, 587, 588, 589, 590, 591, 592] (by decide +kernel) (by decide +kernel)) (goodIn_sub (fun _ h => List.mem_append_right _ h) (by decide +kernel))) (goodIn_sub (fun _ h => List.mem_append_left _ (List.mem_append_left _ (List.mem_append_right _ h))) (by decide +kernel))) (goodIn_sub (fun _ h => List.mem_append_left _ (List.mem_append_right _ h)) (by decide +kernel))
set_option maxRecDepth 20000 in
theorem gL_law_L_lend : GoodIn wsL_law (va_wsS RL 153 yL_lend wsL_lend) := goodIn_app (goodIn_of _ (by decide +kernel)) ggL_law_L_lend
set_option maxRecDepth 20000 in
theorem ggL_law_X4_lend : GoodIn wsL_law wsX4_lend := goodIn_r _ [417, 65, 66, 70, 71, 270, 152, 153, 154, 5, 155, 113, 117, 118, 119, 114, 115, 116, 271, 272, 273, 274, 127, 567, 568, 569, 570, 571, 572, 573, 574, 575, 576, 577, 578, 579, 580, 581, 582, 583] (by decide +kernel) (by decide +kernel)
set_option maxRecDepth 20000 in
theorem gL_law_X4_lend : GoodIn wsL_law (wsV RL 155 RX4 yX4_lend wsX4_lend) := goodIn_app (goodIn_of _ (by decide +kernel)) ggL_law_X4_lend
set_option maxRecDepth 20000 in
theorem ggL_law_L_ban : GoodIn wsL_law wsL_ban := goodIn_ca (goodIn_ca (goodIn_r _ [420, 81, 221, 421, 422, 423, 2, 424, 231, 232, 30, 27, 94, 95, 96, 92, 93, 233, 234, 235, 236, 425, 426, 427, 428, 16, 20, 429, 430, 431, 15, 432, 42, 292, 293, 294, 295, 36, 34, 433, 305, 306, 307, 37, 287, 242, 243, 19, 244, 47, 334, 335, 336, 337, 26, 253, 254, 255, 256, 559, 560, 561, 562, 563, 564, 565, 566, 584, 585, 586, 587, 588, 589, 590, 591, 592, 593, 594] (by decide +kernel) (by decide +kernel)) (goodIn_sub (fun _ h => List.mem_append_right _ h) (by decide +kernel))) (goodIn_sub (fun _ h => List.mem_append_left _ (List.mem_append_right _ h)) (by decide +kernel))
set_option maxRecDepth 20000 in
theorem gL_law_L_ban : GoodIn wsL_law (va_wsS RL 156 yL_ban wsL_ban) := goodIn_app (goodIn_of _ (by decide +kernel)) ggL_law_L_ban
set_option maxRecDepth 20000 in
theorem ggL_law_X4_ban : GoodIn wsL_law wsX4_ban := goodIn_r _ [437, 270, 74, 120, 121, 5, 122, 117, 118, 119, 123, 124, 125, 126, 127, 266, 267, 268, 269, 438, 439, 440, 441, 113, 66, 64, 72, 63, 567, 568, 569, 570, 571, 572, 573, 574, 575, 576, 577, 578, 579, 580, 581, 582, 583] (by decide +kernel) (by decide +kernel)
set_option maxRecDepth 20000 in
theorem gL_law_X4_ban : GoodIn wsL_law (wsV RL 158 RX4 yX4_ban wsX4_ban) := goodIn_app (goodIn_of _ (by decide +kernel)) ggL_law_X4_ban
set_option maxRecDepth 20000 in
theorem ggL_law_L_lift : GoodIn wsL_law wsL_lift := goodIn_ca (goodIn_r _ [444, 81, 445, 446, 447, 2, 448, 27, 94, 95, 96, 92, 93, 559, 560, 561, 562, 563, 564, 565, 566] (by decide +kernel) (by decide +kernel)) (goodIn_sub (fun _ h => List.mem_append_left _ (List.mem_append_right _ h)) (by decide +kernel))
set_option maxRecDepth 20000 in
theorem gL_law_L_lift : GoodIn wsL_law (va_wsS RL 159 yL_lift wsL_lift) := goodIn_app (goodIn_of _ (by decide +kernel)) ggL_law_L_lift
set_option maxRecDepth 20000 in
theorem ggL_law_X4_lift : GoodIn wsL_law wsX4_lift := goodIn_r _ [452, 74, 76, 120, 121, 5, 122, 117, 118, 119, 156, 157, 158, 159, 127, 567, 568, 569, 570, 571, 572, 573, 574, 575, 576, 577, 578, 579, 580, 581, 582, 583] (by decide +kernel) (by decide +kernel)
set_option maxRecDepth 20000 in
theorem gL_law_X4_lift : GoodIn wsL_law (wsV RL 161 RX4 yX4_lift wsX4_lift) := goodIn_app (goodIn_of _ (by decide +kernel)) ggL_law_X4_lift
set_option maxRecDepth 20000 in
theorem ggL_law_L_isBanned : GoodIn wsL_law wsL_isBanned := goodIn_ca (goodIn_r _ [455, 81, 456, 457, 458, 2, 459, 94, 95, 96, 92, 93, 233, 234, 235, 236, 27, 30, 559, 560, 561, 562, 563, 564, 565, 566] (by decide +kernel) (by decide +kernel)) (goodIn_sub (fun _ h => List.mem_append_left _ (List.mem_append_right _ h)) (by decide +kernel))
set_option maxRecDepth 20000 in
theorem gL_law_L_isBanned : GoodIn wsL_law (va_wsS RL 162 yL_isBanned wsL_isBanned) := goodIn_app (goodIn_of _ (by decide +kernel)) ggL_law_L_isBanned
set_option maxRecDepth 20000 in
theorem ggL_law_X4_isBanned : GoodIn wsL_law wsX4_isBanned := goodIn_r _ [463, 120, 121, 5, 122, 117, 118, 119, 156, 157, 158, 159, 127, 266, 267, 268, 269, 74, 270, 567, 568, 569, 570, 571, 572, 573, 574, 575, 576, 577, 578, 579, 580, 581, 582, 583] (by decide +kernel) (by decide +kernel)
set_option maxRecDepth 20000 in
theorem gL_law_X4_isBanned : GoodIn wsL_law (wsV RL 164 RX4 yX4_isBanned wsX4_isBanned) := goodIn_app (goodIn_of _ (by decide +kernel)) ggL_law_X4_isBanned
set_option maxRecDepth 20000 in
theorem ggL_law_L_pass : GoodIn wsL_law wsL_pass := goodIn_ca (goodIn_r _ [466, 221, 467, 468, 469, 2, 470, 231, 232, 30, 16, 471, 472, 473, 15, 474, 42, 36, 41, 233, 234, 235, 236, 27, 425, 426, 427, 428, 20, 429, 430, 431, 432, 292, 293, 294, 295, 34, 433, 305, 306, 307, 37, 287, 242, 243, 19, 244, 47, 334, 335, 336, 337, 26, 253, 254, 255, 256, 559, 560, 561, 562, 563, 564, 565, 566, 584, 585, 586, 587, 588, 589, 590, 591, 592, 593, 594] (by decide +kernel) (by decide +kernel)) (goodIn_sub (fun _ h => List.mem_append_right _ h) (by decide +kernel))
set_option maxRecDepth 20000 in
theorem gL_law_L_pass : GoodIn wsL_law (va_wsS RL 165 yL_pass wsL_pass) := goodIn_app (goodIn_of _ (by decide +kernel)) ggL_law_L_pass
set_option maxRecDepth 20000 in
theorem ggL_law_X4_pass : GoodIn wsL_law wsX4_pass := goodIn_r _ [478, 270, 113, 66, 71, 117, 118, 5, 119, 156, 157, 158, 159, 127, 266, 267, 268, 269, 74, 438, 439, 440, 441, 64, 72, 63, 567, 568, 569, 570, 571, 572, 573, 574, 575, 576, 577, 578, 579, 580, 581, 582, 583] (by decide +kernel) (by decide +kernel)
set_option maxRecDepth 20000 in
theorem gL_law_X4_pass : GoodIn wsL_law (wsV RL 167 RX4 yX4_pass wsX4_pass) := goodIn_app (goodIn_of _ (by decide +kernel)) ggL_law_X4_pass
set_option maxRecDepth 20000 in
theorem ggL_law_L_toggleDeck : GoodIn wsL_law wsL_toggleDeck := goodIn_ca (goodIn_r _ [481, 81, 482, 483, 484, 2, 485, 28, 89, 90, 91, 92, 93, 140, 141, 142, 143, 16, 144, 145, 146, 15, 147, 42, 486, 487, 488, 489, 490, 491, 492, 559, 560, 561, 562, 563, 564, 565, 566, 584, 585, 586, 587, 588, 589, 590, 591, 592] (by decide +kernel) (by decide +kernel)) (goodIn_sub (fun _ h => List.mem_append_left _ (List.mem_append_right _ h)) (by decide +kernel))
set_option maxRecDepth 20000 in
theorem gL_law_L_toggleDeck : GoodIn wsL_law (va_wsS RL 168 yL_toggleDeck wsL_toggleDeck) := goodIn_app (goodIn_of _ (by decide +kernel)) ggL_law_L_toggleDeck
set_option maxRecDepth 20000 in
theorem ggL_law_X4_toggleDeck : GoodIn wsL_law wsX4_toggleDeck := goodIn_r _ [496, 75, 114, 115, 5, 116, 117, 118, 119, 152, 153, 154, 155, 113, 156, 157, 158, 159, 127, 497, 498, 499, 500, 567, 568, 569, 570, 571, 572, 573, 574, 575, 576, 577, 578, 579, 580, 581, 582, 583] (by decide +kernel) (by decide +kernel)
set_option maxRecDepth 20000 in
theorem gL_law_X4_toggleDeck : GoodIn wsL_law (wsV RL 170 RX4 yX4_toggleDeck wsX4_toggleDeck) := goodIn_app (goodIn_of _ (by decide +kernel)) ggL_law_X4_toggleDeck
set_option maxRecDepth 20000 in
theorem ggL_law_L_isRight : GoodIn wsL_law wsL_isRight := goodIn_ca (goodIn_r _ [503, 81, 504, 505, 506, 2, 507, 89, 90, 91, 92, 93, 508, 509, 510, 511, 28, 16, 512, 486, 487, 488, 489, 490, 491, 492, 513, 514, 515, 516, 517, 518, 519, 520, 202, 226, 183, 184, 185, 15, 186, 36, 40, 35, 233, 234, 235, 236, 27, 30, 559, 560, 561, 562, 563, 564, 565, 566, 584, 585, 586, 587, 588, 589, 590, 591, 592] (by decide +kernel) (by decide +kernel)) (goodIn_sub (fun _ h => List.mem_append_left _ (List.mem_append_right _ h)) (by decide +kernel))
set_option maxRecDepth 20000 in
theorem gL_law_L_isRight : GoodIn wsL_law (va_wsS RL 171 yL_isRight wsL_isRight) := goodIn_app (goodIn_of _ (by decide +kernel)) ggL_law_L_isRight
set_option maxRecDepth 20000 in
theorem ggL_law_X4_isRight : GoodIn wsL_law wsX4_isRight := goodIn_r _ [524, 114, 115, 5, 116, 117, 118, 119, 156, 157, 158, 159, 127, 525, 526, 527, 528, 113, 75, 66, 64, 497, 498, 499, 500, 191, 192, 193, 194, 70, 65, 266, 267, 268, 269, 74, 270, 567, 568, 569, 570, 571, 572, 573, 574, 575, 576, 577, 578, 579, 580, 581, 582, 583] (by decide +kernel) (by decide +kernel)
set_option maxRecDepth 20000 in
theorem gL_law_X4_isRight : GoodIn wsL_law (wsV RL 173 RX4 yX4_isRight wsX4_isRight) := goodIn_app (goodIn_of _ (by decide +kernel)) ggL_law_X4_isRight
set_option maxRecDepth 20000 in
theorem ggL_law_L_strength : GoodIn wsL_law wsL_strength := goodIn_ca (goodIn_r _ [531, 81, 532, 533, 534, 2, 535, 89, 90, 91, 92, 93, 536, 537, 538, 539, 16, 512, 226, 513, 514, 515, 516, 28, 559, 560, 561, 562, 563, 564, 565, 566, 584, 585, 586, 587, 588, 589, 590, 591, 592] (by decide +kernel) (by decide +kernel)) (goodIn_sub (fun _ h => List.mem_append_left _ (List.mem_append_right _ h)) (by decide +kernel))
set_option maxRecDepth 20000 in
theorem gL_law_L_strength : GoodIn wsL_law (va_wsS RL 174 yL_strength wsL_strength) := goodIn_app (goodIn_of _ (by decide +kernel)) ggL_law_L_strength
set_option maxRecDepth 20000 in
theorem ggL_law_X4_strength : GoodIn wsL_law wsX4_strength := goodIn_r _ [543, 114, 115, 5, 116, 117, 118, 119, 156, 157, 158, 159, 127, 544, 545, 546, 547, 113, 75, 64, 567, 568, 569, 570, 571, 572, 573, 574, 575, 576, 577, 578, 579, 580, 581, 582, 583] (by decide +kernel) (by decide +kernel)
set_option maxRecDepth 20000 in
theorem gL_law_X4_strength : GoodIn wsL_law (wsV RL 176 RX4 yX4_strength wsX4_strength) := goodIn_app (goodIn_of _ (by decide +kernel)) ggL_law_X4_strength
set_option maxRecDepth 20000 in
theorem ggL_law_L_play : GoodIn wsL_law wsL_play := goodIn_ca (goodIn_ca (goodIn_ca (goodIn_r _ [550, 81, 221, 82, 551, 552, 553, 2, 554, 231, 232, 87, 88, 26, 89, 90, 91, 92, 93, 508, 509, 510, 511, 28, 16, 512, 486, 487, 488, 489, 490, 491, 492, 513, 514, 515, 516, 517, 518, 519, 520, 202, 226, 183, 184, 185, 15, 186, 36, 40, 35, 233, 234, 235, 236, 27, 30, 536, 537, 538, 539, 559, 560, 561, 562, 563, 564, 565, 566, 584, 585, 586, 587, 588, 589, 590, 591, 592] (by decide +kernel) (by decide +kernel)) (goodIn_sub (fun _ h => List.mem_append_right _ h) (by decide +kernel))) (goodIn_sub (fun _ h => List.mem_append_left _ (List.mem_append_left _ (List.mem_append_right _ h))) (by decide +kernel))) (goodIn_sub (fun _ h => List.mem_append_left _ (List.mem_append_right _ h)) (by decide +kernel))
set_option maxRecDepth 20000 in
theorem gL_law_L_play : GoodIn wsL_law (va_wsS RL 177 yL_play wsL_play) := goodIn_app (goodIn_of _ (by decide +kernel)) ggL_law_L_play
set_option maxRecDepth 20000 in
theorem ggL_law_X4_play : GoodIn wsL_law wsX4_play := goodIn_r _ [558, 63, 114, 115, 5, 116, 117, 118, 119, 525, 526, 527, 528, 113, 75, 66, 64, 497, 498, 499, 500, 191, 192, 193, 194, 70, 65, 266, 267, 268, 269, 74, 270, 271, 272, 273, 274, 127, 544, 545, 546, 547, 567, 568, 569, 570, 571, 572, 573, 574, 575, 576, 577, 578, 579, 580, 581, 582, 583] (by decide +kernel) (by decide +kernel)
set_option maxRecDepth 20000 in
theorem gL_law_X4_play : GoodIn wsL_law (wsV RL 179 RX4 yX4_play wsX4_play) := goodIn_app (goodIn_of _ (by decide +kernel)) ggL_law_X4_play
