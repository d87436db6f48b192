set_option maxRecDepth 20000 in
theorem ggL_law_X5_back : GoodIn wsL_law wsX5_back := goodIn_r _ [188, 150, 81, 80, 79, 151, 168, 169, 170, 5, 171, 172, 475, 476, 477, 478, 479, 480, 481, 482, 483, 484, 485, 486, 487, 488, 489, 490, 491, 492, 493] (by decide +kernel) (by decide +kernel)
set_option maxRecDepth 20000 in
theorem gL_law_X5_back : GoodIn wsL_law (wsV RL 68 RX5 yX5_back wsX5_back) := goodIn_app (goodIn_of _ (by decide +kernel)) ggL_law_X5_back
set_option maxRecDepth 20000 in
theorem ggL_law_X4_turn : GoodIn wsL_law wsX4_turn := goodIn_r _ [141, 18, 468, 469, 470, 471, 472, 473, 474] (by decide +kernel) (by decide +kernel)
set_option maxRecDepth 20000 in
theorem gL_law_X4_turn : GoodIn wsL_law (wsV RL 69 RX4 yX4_turn wsX4_turn) := goodIn_app (goodIn_of _ (by decide +kernel)) ggL_law_X4_turn
set_option maxRecDepth 20000 in
theorem ggL_law_X5_turn : GoodIn wsL_law wsX5_turn := goodIn_r _ [193, 172, 150, 475, 476, 477, 478, 479, 480, 481, 482, 483, 484, 485, 486, 487, 488, 489, 490, 491, 492, 493] (by decide +kernel) (by decide +kernel)
set_option maxRecDepth 20000 in
theorem gL_law_X5_turn : GoodIn wsL_law (wsV RL 72 RX5 yX5_turn wsX5_turn) := goodIn_app (goodIn_of _ (by decide +kernel)) ggL_law_X5_turn
set_option maxRecDepth 20000 in
theorem ggL_law_X4_winner : GoodIn wsL_law wsX4_winner := goodIn_r _ [121, 22, 17, 122, 123, 124, 21, 125, 50, 126, 127, 128, 129, 130, 131, 132, 2, 133, 33, 18, 468, 469, 470, 471, 472, 473, 474, 494, 495, 496, 497, 498, 499] (by decide +kernel) (by decide +kernel)
set_option maxRecDepth 20000 in
theorem gL_law_X4_winner : GoodIn wsL_law (wsV RL 73 RX4 yX4_winner wsX4_winner) := goodIn_app (goodIn_of _ (by decide +kernel)) ggL_law_X4_winner
set_option maxRecDepth 20000 in
theorem ggL_law_X5_winner : GoodIn wsL_law wsX5_winner := goodIn_r _ [198, 172, 152, 153, 154, 5, 155, 150, 81, 79, 80, 95, 96, 156, 157, 158, 159, 160, 161, 162, 163, 164, 165, 166, 167, 475, 476, 477, 478, 479, 480, 481, 482, 483, 484, 485, 486, 487, 488, 489, 490, 491, 492, 493] (by decide +kernel) (by decide +kernel)
set_option maxRecDepth 20000 in
theorem gL_law_X5_winner : GoodIn wsL_law (wsV RL 76 RX5 yX5_winner wsX5_winner) := goodIn_app (goodIn_of _ (by decide +kernel)) ggL_law_X5_winner
set_option maxRecDepth 20000 in
theorem ggL_law_L_at : GoodIn wsL_law wsL_at := goodIn_ca (goodIn_r _ [201, 202, 203, 204, 205, 2, 206, 207, 208, 22, 17, 110, 111, 112, 113, 142, 143, 144, 21, 145, 49, 468, 469, 470, 471, 472, 473, 474, 494, 495, 496, 497, 498, 499] (by decide +kernel) (by decide +kernel)) (goodIn_sub (fun _ h => List.mem_append_right _ h) (by decide +kernel))
set_option maxRecDepth 20000 in
theorem gL_law_L_at : GoodIn wsL_law (va_wsS RL 77 yL_at wsL_at) := goodIn_app (goodIn_of _ (by decide +kernel)) ggL_law_L_at
set_option maxRecDepth 20000 in
theorem ggL_law_X5_at : GoodIn wsL_law wsX5_at := goodIn_r _ [212, 79, 164, 165, 166, 5, 167, 95, 96, 168, 169, 170, 171, 172, 475, 476, 477, 478, 479, 480, 481, 482, 483, 484, 485, 486, 487, 488, 489, 490, 491, 492, 493] (by decide +kernel) (by decide +kernel)
set_option maxRecDepth 20000 in
theorem gL_law_X5_at : GoodIn wsL_law (wsV RL 80 RX5 yX5_at wsX5_at) := goodIn_app (goodIn_of _ (by decide +kernel)) ggL_law_X5_at
set_option maxRecDepth 20000 in
theorem ggL_law_X4_empty : GoodIn wsL_law wsX4_empty := goodIn_r _ [133, 33, 18, 468, 469, 470, 471, 472, 473, 474] (by decide +kernel) (by decide +kernel)
set_option maxRecDepth 20000 in
theorem gL_law_X4_empty : GoodIn wsL_law (wsV RL 81 RX4 yX4_empty wsX4_empty) := goodIn_app (goodIn_of _ (by decide +kernel)) ggL_law_X4_empty
