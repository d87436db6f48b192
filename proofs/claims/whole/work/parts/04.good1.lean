set_option maxRecDepth 20000 in
theorem ggX4_value_X4_canBeValued : GoodIn wsX4_value wsX4_canBeValued := goodIn_r _ [8, 9, 10, 11, 7, 12, 13, 14, 15, 16, 17, 18, 19, 20, 21, 22, 23, 24, 25, 26, 27, 28, 29, 30, 31, 32, 33, 34, 135, 136, 137, 138, 139, 140, 141, 142, 143, 144, 145, 146, 147] (by decide +kernel) (by decide +kernel)
set_option maxRecDepth 20000 in
theorem gX4_value_X4_canBeValued : GoodIn wsX4_value (wsV RX4 129 RX4 yX4_canBeValued wsX4_canBeValued) := goodIn_app (goodIn_of _ (by decide +kernel)) ggX4_value_X4_canBeValued
set_option maxRecDepth 20000 in
theorem ggX4_value_X4_mine : GoodIn wsX4_value wsX4_mine := goodIn_r _ [38, 24, 39, 40, 41, 7, 42, 14, 135, 136, 137, 138, 139, 140, 141] (by decide +kernel) (by decide +kernel)
set_option maxRecDepth 20000 in
theorem gX4_value_X4_mine : GoodIn wsX4_value (wsV RX4 134 RX4 yX4_mine wsX4_mine) := goodIn_app (goodIn_of _ (by decide +kernel)) ggX4_value_X4_mine
set_option maxRecDepth 20000 in
theorem ggX4_value_X4_theirs : GoodIn wsX4_value wsX4_theirs := goodIn_r _ [46, 24, 39, 40, 41, 7, 42, 14, 135, 136, 137, 138, 139, 140, 141] (by decide +kernel) (by decide +kernel)
set_option maxRecDepth 20000 in
theorem gX4_value_X4_theirs : GoodIn wsX4_value (wsV RX4 137 RX4 yX4_theirs wsX4_theirs) := goodIn_app (goodIn_of _ (by decide +kernel)) ggX4_value_X4_theirs
set_option maxRecDepth 20000 in
theorem ggX4_value_X4_empty : GoodIn wsX4_value wsX4_empty := goodIn_r _ [12, 13, 14, 135, 136, 137, 138, 139, 140, 141] (by decide +kernel) (by decide +kernel)
set_option maxRecDepth 20000 in
theorem gX4_value_X4_empty : GoodIn wsX4_value (wsV RX4 92 RX4 yX4_empty wsX4_empty) := goodIn_app (goodIn_of _ (by decide +kernel)) ggX4_value_X4_empty
set_option maxRecDepth 20000 in
theorem ggX4_value_X3_score : GoodIn wsX4_value wsX3_score := goodIn_r _ [50, 51, 52, 53, 54, 28, 55, 56, 57, 58, 59, 60, 61, 30, 62, 63, 64, 65, 66, 67, 48, 68, 69, 70, 71, 72, 73, 74, 75, 76, 77, 78, 79, 80, 81, 82, 83, 84, 85, 86, 87, 88, 89, 90, 91, 92, 93, 94, 95, 96, 97, 98, 99, 100, 101, 102, 103, 104, 105, 106, 107, 108, 26, 27, 29, 31, 32, 33, 34, 109, 110, 111, 112, 113, 114, 115, 116, 117, 118, 119, 120, 121, 122, 123, 124, 125, 126, 127, 47, 49, 148, 149, 150, 142, 143, 144, 145, 146, 147, 151, 152, 153] (by decide +kernel) (by decide +kernel)
set_option maxRecDepth 20000 in
theorem gX4_value_X3_score_n140 : GoodIn wsX4_value (wsX3_score) := ggX4_value_X3_score
set_option maxRecDepth 20000 in
theorem ggX4_value_X4_inDrops : GoodIn wsX4_value wsX4_inDrops := goodIn_r _ [131, 132, 133, 84, 134, 9, 10, 11, 7, 12, 13, 14, 135, 136, 137, 138, 139, 140, 141] (by decide +kernel) (by decide +kernel)
set_option maxRecDepth 20000 in
theorem gX4_value_X4_inDrops : GoodIn wsX4_value (wsV RX4 144 RX4 yX4_inDrops wsX4_inDrops) := goodIn_app (goodIn_of _ (by decide +kernel)) ggX4_value_X4_inDrops
set_option maxRecDepth 20000 in
theorem ggX4_valueOf_X4_isColumn : GoodIn wsX4_valueOf wsX4_isColumn := goodIn_r _ [9, 10, 155, 156, 157, 158, 159, 160, 161, 162, 163, 164, 165, 166, 167] (by decide +kernel) (by decide +kernel)
set_option maxRecDepth 20000 in
theorem gX4_valueOf_X4_isColumn : GoodIn wsX4_valueOf (wsV RX4 53 RX4 yX4_isColumn wsX4_isColumn) := goodIn_app (goodIn_of _ (by decide +kernel)) ggX4_valueOf_X4_isColumn
set_option maxRecDepth 20000 in
theorem ggX4_valueOf_X4_canBeValued : GoodIn wsX4_valueOf wsX4_canBeValued := goodIn_r _ [14, 15, 16, 17, 8, 18, 19, 20, 21, 22, 23, 24, 25, 26, 27, 28, 10, 29, 30, 31, 32, 33, 34, 35, 36, 37, 38, 39, 155, 156, 157, 158, 159, 160, 161, 162, 163, 164, 165, 166, 167] (by decide +kernel) (by decide +kernel)
set_option maxRecDepth 20000 in
theorem gX4_valueOf_X4_canBeValued : GoodIn wsX4_valueOf (wsV RX4 129 RX4 yX4_canBeValued wsX4_canBeValued) := goodIn_app (goodIn_of _ (by decide +kernel)) ggX4_valueOf_X4_canBeValued
set_option maxRecDepth 20000 in
theorem ggX4_valueOf_X4_isFull : GoodIn wsX4_valueOf wsX4_isFull := goodIn_r _ [43, 44, 10, 155, 156, 157, 158, 159, 160, 161, 162, 163, 164, 165, 166, 167] (by decide +kernel) (by decide +kernel)
set_option maxRecDepth 20000 in
theorem gX4_valueOf_X4_isFull : GoodIn wsX4_valueOf (wsV RX4 68 RX4 yX4_isFull wsX4_isFull) := goodIn_app (goodIn_of _ (by decide +kernel)) ggX4_valueOf_X4_isFull
set_option maxRecDepth 20000 in
theorem ggX4_valueOf_X4_empty : GoodIn wsX4_valueOf wsX4_empty := goodIn_r _ [18, 19, 20, 155, 156, 157, 158, 159, 160, 161] (by decide +kernel) (by decide +kernel)
set_option maxRecDepth 20000 in
theorem gX4_valueOf_X4_empty : GoodIn wsX4_valueOf (wsV RX4 92 RX4 yX4_empty wsX4_empty) := goodIn_app (goodIn_of _ (by decide +kernel)) ggX4_valueOf_X4_empty
set_option maxRecDepth 20000 in
theorem ggX4_valueOf_X4_scoreAbove : GoodIn wsX4_valueOf wsX4_scoreAbove := goodIn_r _ [48, 10, 44, 49, 50, 51, 52, 8, 53, 29, 54, 55, 56, 57, 20, 58, 59, 60, 33, 61, 62, 30, 31, 32, 34, 35, 36, 37, 38, 39, 15, 16, 17, 18, 19, 63, 64, 65, 66, 67, 68, 69, 70, 71, 72, 73, 74, 75, 76, 77, 78, 79, 80, 81, 82, 83, 84, 85, 86, 87, 88, 89, 90, 91, 92, 93, 94, 95, 96, 97, 98, 99, 100, 101, 102, 103, 104, 105, 106, 107, 108, 109, 110, 111, 112, 113, 114, 115, 116, 117, 118, 119, 120, 121, 122, 123, 124, 125, 126, 127, 128, 129, 130, 131, 132, 133, 134, 135, 136, 137, 138, 139, 140, 141, 142, 143, 144, 145, 146, 147, 155, 156, 157, 158, 159, 160, 161, 162, 163, 164, 165, 166, 167, 168, 169, 170, 171, 172, 173] (by decide +kernel) (by decide +kernel)
set_option maxRecDepth 20000 in
theorem gX4_valueOf_X4_scoreAbove : GoodIn wsX4_valueOf (wsV RX4 150 RX4 yX4_scoreAbove wsX4_scoreAbove) := goodIn_app (goodIn_of _ (by decide +kernel)) ggX4_valueOf_X4_scoreAbove
set_option maxRecDepth 20000 in
theorem ggX4_valueOf_X4_inDrops : GoodIn wsX4_valueOf wsX4_inDrops := goodIn_r _ [151, 152, 153, 104, 154, 15, 16, 17, 8, 18, 19, 20, 155, 156, 157, 158, 159, 160, 161] (by decide +kernel) (by decide +kernel)
set_option maxRecDepth 20000 in
theorem gX4_valueOf_X4_inDrops : GoodIn wsX4_valueOf (wsV RX4 144 RX4 yX4_inDrops wsX4_inDrops) := goodIn_app (goodIn_of _ (by decide +kernel)) ggX4_valueOf_X4_inDrops
set_option maxRecDepth 20000 in
theorem ggX4_best_X4_canBeValued : GoodIn wsX4_best wsX4_canBeValued := goodIn_r _ [8, 9, 10, 11, 7, 12, 13, 14, 15, 16, 17, 18, 19, 20, 21, 22, 3, 23, 24, 25, 26, 27, 28, 29, 30, 31, 32, 33, 142, 143, 144, 145, 146, 147, 148, 149, 150, 151, 152, 153, 154] (by decide +kernel) (by decide +kernel)
set_option maxRecDepth 20000 in
theorem gX4_best_X4_canBeValued : GoodIn wsX4_best (wsV RX4 129 RX4 yX4_canBeValued wsX4_canBeValued) := goodIn_app (goodIn_of _ (by decide +kernel)) ggX4_best_X4_canBeValued
set_option maxRecDepth 20000 in
theorem ggX4_best_X4_empty : GoodIn wsX4_best wsX4_empty := goodIn_r _ [12, 13, 14, 142, 143, 144, 145, 146, 147, 148] (by decide +kernel) (by decide +kernel)
set_option maxRecDepth 20000 in
theorem gX4_best_X4_empty : GoodIn wsX4_best (wsV RX4 92 RX4 yX4_empty wsX4_empty) := goodIn_app (goodIn_of _ (by decide +kernel)) ggX4_best_X4_empty
set_option maxRecDepth 20000 in
theorem ggX4_best_X4_isFull : GoodIn wsX4_best wsX4_isFull := goodIn_r _ [37, 38, 3, 142, 143, 144, 145, 146, 147, 148, 149, 150, 151, 152, 153, 154] (by decide +kernel) (by decide +kernel)
set_option maxRecDepth 20000 in
theorem gX4_best_X4_isFull : GoodIn wsX4_best (wsV RX4 68 RX4 yX4_isFull wsX4_isFull) := goodIn_app (goodIn_of _ (by decide +kernel)) ggX4_best_X4_isFull
set_option maxRecDepth 20000 in
theorem ggX4_best_X4_scoreAbove : GoodIn wsX4_best wsX4_scoreAbove := goodIn_r _ [42, 3, 38, 43, 44, 45, 46, 7, 47, 23, 48, 49, 50, 51, 14, 52, 53, 54, 27, 55, 56, 24, 25, 26, 28, 29, 30, 31, 32, 33, 9, 10, 11, 12, 13, 57, 58, 59, 60, 61, 62, 63, 64, 65, 66, 67, 68, 69, 70, 71, 72, 73, 74, 75, 76, 77, 78, 79, 80, 81, 82, 83, 84, 85, 86, 87, 88, 89, 90, 91, 92, 93, 94, 95, 96, 97, 98, 99, 100, 101, 102, 103, 104, 105, 106, 107, 108, 109, 110, 111, 112, 113, 114, 115, 116, 117, 118, 119, 120, 121, 122, 123, 124, 125, 126, 127, 128, 129, 130, 131, 132, 133, 134, 135, 136, 137, 138, 139, 140, 141, 142, 143, 144, 145, 146, 147, 148, 149, 150, 151, 152, 153, 154, 155, 156, 157, 158, 159, 160] (by decide +kernel) (by decide +kernel)
set_option maxRecDepth 20000 in
theorem gX4_best_X4_scoreAbove : GoodIn wsX4_best (wsV RX4 150 RX4 yX4_scoreAbove wsX4_scoreAbove) := goodIn_app (goodIn_of _ (by decide +kernel)) ggX4_best_X4_scoreAbove
set_option maxRecDepth 20000 in
theorem ggX4_beats_X4_isOver : GoodIn wsX4_beats wsX4_isOver := goodIn_r _ [8, 9, 10, 11, 7, 12, 13, 14, 15, 16, 17, 18, 19, 20, 21, 22, 23, 24, 25, 26, 27, 28, 29, 30, 71, 72, 73, 74, 75, 76, 77, 78, 79, 80, 81, 82, 83] (by decide +kernel) (by decide +kernel)
set_option maxRecDepth 20000 in
theorem gX4_beats_X4_isOver : GoodIn wsX4_beats (wsV RX4 64 RX4 yX4_isOver wsX4_isOver) := goodIn_app (goodIn_of _ (by decide +kernel)) ggX4_beats_X4_isOver
set_option maxRecDepth 20000 in
theorem ggX4_beats_X4_empty : GoodIn wsX4_beats wsX4_empty := goodIn_r _ [28, 29, 30, 71, 72, 73, 74, 75, 76, 77] (by decide +kernel) (by decide +kernel)
set_option maxRecDepth 20000 in
theorem gX4_beats_X4_empty : GoodIn wsX4_beats (wsV RX4 92 RX4 yX4_empty wsX4_empty) := goodIn_app (goodIn_of _ (by decide +kernel)) ggX4_beats_X4_empty
set_option maxRecDepth 20000 in
theorem ggX4_beats_X4_canFollow : GoodIn wsX4_beats wsX4_canFollow := goodIn_r _ [34, 13, 35, 71, 72, 73, 74, 75, 76, 77, 78, 79, 80, 81, 82, 83] (by decide +kernel) (by decide +kernel)
set_option maxRecDepth 20000 in
theorem gX4_beats_X4_canFollow : GoodIn wsX4_beats (wsV RX4 156 RX4 yX4_canFollow wsX4_canFollow) := goodIn_app (goodIn_of _ (by decide +kernel)) ggX4_beats_X4_canFollow
set_option maxRecDepth 20000 in
theorem ggX4_beats_X4_mine : GoodIn wsX4_beats wsX4_mine := goodIn_r _ [39, 14, 40, 41, 42, 7, 43, 30, 71, 72, 73, 74, 75, 76, 77] (by decide +kernel) (by decide +kernel)
set_option maxRecDepth 20000 in
theorem gX4_beats_X4_mine : GoodIn wsX4_beats (wsV RX4 134 RX4 yX4_mine wsX4_mine) := goodIn_app (goodIn_of _ (by decide +kernel)) ggX4_beats_X4_mine
set_option maxRecDepth 20000 in
theorem ggX4_beats_X4_theirs : GoodIn wsX4_beats wsX4_theirs := goodIn_r _ [47, 14, 40, 41, 42, 7, 43, 30, 71, 72, 73, 74, 75, 76, 77] (by decide +kernel) (by decide +kernel)
set_option maxRecDepth 20000 in
theorem gX4_beats_X4_theirs : GoodIn wsX4_beats (wsV RX4 137 RX4 yX4_theirs wsX4_theirs) := goodIn_app (goodIn_of _ (by decide +kernel)) ggX4_beats_X4_theirs
set_option maxRecDepth 20000 in
theorem ggX4_beats_X0_leaderWins : GoodIn wsX4_beats wsX0_leaderWins := goodIn_r _ [52, 53, 54, 55, 56, 57, 18, 58, 59, 60, 61, 22, 23, 24, 62, 63, 64, 51, 65, 66, 67, 68, 69, 70, 16, 17, 19, 20, 21, 84, 78, 79, 80, 81, 82, 83] (by decide +kernel) (by decide +kernel)
set_option maxRecDepth 20000 in
theorem gX4_beats_X0_leaderWins : GoodIn wsX4_beats (wsV RX4 161 RX0 yX0_leaderWins wsX0_leaderWins) := goodIn_app (goodIn_of _ (by decide +kernel)) ggX4_beats_X0_leaderWins
set_option maxRecDepth 20000 in
theorem ggX4_isOver_X4_winner : GoodIn wsX4_isOver wsX4_winner := goodIn_r _ [5, 6, 7, 8, 9, 10, 11, 12, 13, 14, 15, 16, 17, 18, 19, 20, 4, 21, 22, 23, 24, 25, 26, 27, 28, 29, 30, 31, 32, 33, 34, 35, 36] (by decide +kernel) (by decide +kernel)
set_option maxRecDepth 20000 in
theorem gX4_isOver_X4_winner : GoodIn wsX4_isOver (wsV RX4 173 RX4 yX4_winner wsX4_winner) := goodIn_app (goodIn_of _ (by decide +kernel)) ggX4_isOver_X4_winner
set_option maxRecDepth 20000 in
theorem ggX4_canBeValued_X4_empty : GoodIn wsX4_canBeValued wsX4_empty := goodIn_r _ [5, 6, 7, 28, 29, 30, 31, 32, 33, 34] (by decide +kernel) (by decide +kernel)
set_option maxRecDepth 20000 in
theorem gX4_canBeValued_X4_empty : GoodIn wsX4_canBeValued (wsV RX4 92 RX4 yX4_empty wsX4_empty) := goodIn_app (goodIn_of _ (by decide +kernel)) ggX4_canBeValued_X4_empty
set_option maxRecDepth 20000 in
theorem ggX4_canBeValued_X4_isOver : GoodIn wsX4_canBeValued wsX4_isOver := goodIn_r _ [11, 12, 13, 14, 4, 15, 16, 17, 18, 19, 20, 21, 22, 23, 24, 25, 26, 27, 1, 2, 3, 5, 6, 7, 28, 29, 30, 31, 32, 33, 34, 35, 36, 37, 38, 39, 40] (by decide +kernel) (by decide +kernel)
set_option maxRecDepth 20000 in
theorem gX4_canBeValued_X4_isOver : GoodIn wsX4_canBeValued (wsV RX4 64 RX4 yX4_isOver wsX4_isOver) := goodIn_app (goodIn_of _ (by decide +kernel)) ggX4_canBeValued_X4_isOver
set_option maxRecDepth 20000 in
theorem ggX4_mine_X4_turn : GoodIn wsX4_mine wsX4_turn := goodIn_r _ [6, 7, 8, 9, 10, 11, 12, 13, 14] (by decide +kernel) (by decide +kernel)
set_option maxRecDepth 20000 in
theorem gX4_mine_X4_turn : GoodIn wsX4_mine (wsV RX4 76 RX4 yX4_turn wsX4_turn) := goodIn_app (goodIn_of _ (by decide +kernel)) ggX4_mine_X4_turn
set_option maxRecDepth 20000 in
theorem ggX4_theirs_X4_turn : GoodIn wsX4_theirs wsX4_turn := goodIn_r _ [6, 7, 8, 9, 10, 11, 12, 13, 14] (by decide +kernel) (by decide +kernel)
set_option maxRecDepth 20000 in
theorem gX4_theirs_X4_turn : GoodIn wsX4_theirs (wsV RX4 76 RX4 yX4_turn wsX4_turn) := goodIn_app (goodIn_of _ (by decide +kernel)) ggX4_theirs_X4_turn
set_option maxRecDepth 20000 in
theorem ggX4_scoreAbove_X4_mine : GoodIn wsX4_scoreAbove wsX4_mine := goodIn_r _ [8, 9, 10, 11, 12, 7, 13, 14, 120, 121, 122, 123, 124, 125, 126] (by decide +kernel) (by decide +kernel)
set_option maxRecDepth 20000 in
theorem gX4_scoreAbove_X4_mine : GoodIn wsX4_scoreAbove (wsV RX4 134 RX4 yX4_mine wsX4_mine) := goodIn_app (goodIn_of _ (by decide +kernel)) ggX4_scoreAbove_X4_mine
set_option maxRecDepth 20000 in
theorem ggX4_scoreAbove_X1_square : GoodIn wsX4_scoreAbove wsX1_square := goodIn_r _ [19, 20, 127, 128, 129, 130, 131, 132] (by decide +kernel) (by decide +kernel)
set_option maxRecDepth 20000 in
theorem gX4_scoreAbove_X1_square : GoodIn wsX4_scoreAbove (wsV RX4 80 RX1 yX1_square wsX1_square) := goodIn_app (goodIn_of _ (by decide +kernel)) ggX4_scoreAbove_X1_square
set_option maxRecDepth 20000 in
theorem ggX4_scoreAbove_X1_hasLine : GoodIn wsX4_scoreAbove wsX1_hasLine := goodIn_r _ [24, 25, 26, 27, 28, 18, 29, 127, 128, 129, 130, 131, 132] (by decide +kernel) (by decide +kernel)
set_option maxRecDepth 20000 in
theorem gX4_scoreAbove_X1_hasLine : GoodIn wsX4_scoreAbove (wsV RX4 88 RX1 yX1_hasLine wsX1_hasLine) := goodIn_app (goodIn_of _ (by decide +kernel)) ggX4_scoreAbove_X1_hasLine
set_option maxRecDepth 20000 in
theorem ggX4_scoreAbove_X4_empty : GoodIn wsX4_scoreAbove wsX4_empty := goodIn_r _ [33, 34, 14, 120, 121, 122, 123, 124, 125, 126] (by decide +kernel) (by decide +kernel)
set_option maxRecDepth 20000 in
theorem gX4_scoreAbove_X4_empty : GoodIn wsX4_scoreAbove (wsV RX4 92 RX4 yX4_empty wsX4_empty) := goodIn_app (goodIn_of _ (by decide +kernel)) ggX4_scoreAbove_X4_empty
set_option maxRecDepth 20000 in
theorem ggX4_scoreAbove_X4_theirs : GoodIn wsX4_scoreAbove wsX4_theirs := goodIn_r _ [38, 9, 10, 11, 12, 7, 13, 14, 120, 121, 122, 123, 124, 125, 126] (by decide +kernel) (by decide +kernel)
set_option maxRecDepth 20000 in
theorem gX4_scoreAbove_X4_theirs : GoodIn wsX4_scoreAbove (wsV RX4 137 RX4 yX4_theirs wsX4_theirs) := goodIn_app (goodIn_of _ (by decide +kernel)) ggX4_scoreAbove_X4_theirs
set_option maxRecDepth 20000 in
theorem ggX4_scoreAbove_X3_score : GoodIn wsX4_scoreAbove wsX3_score := goodIn_r _ [42, 43, 44, 45, 46, 18, 47, 48, 49, 50, 51, 52, 53, 25, 54, 55, 56, 57, 58, 59, 40, 60, 61, 62, 63, 64, 65, 66, 67, 68, 69, 70, 71, 72, 73, 74, 75, 76, 77, 78, 79, 80, 81, 82, 83, 84, 85, 86, 87, 88, 89, 90, 91, 92, 93, 94, 95, 96, 97, 98, 99, 100, 22, 23, 24, 26, 27, 28, 29, 101, 102, 103, 104, 105, 106, 107, 108, 109, 110, 111, 112, 113, 114, 115, 116, 117, 118, 119, 39, 41, 133, 134, 135, 127, 128, 129, 130, 131, 132, 136, 137, 138] (by decide +kernel) (by decide +kernel)
set_option maxRecDepth 20000 in
theorem gX4_scoreAbove_X3_score_n140 : GoodIn wsX4_scoreAbove (wsX3_score) := ggX4_scoreAbove_X3_score
set_option maxRecDepth 20000 in
theorem ggX4_inDrops_X4_empty : GoodIn wsX4_inDrops wsX4_empty := goodIn_r _ [9, 10, 11, 12, 13, 14, 15, 16, 17, 18] (by decide +kernel) (by decide +kernel)
set_option maxRecDepth 20000 in
theorem gX4_inDrops_X4_empty : GoodIn wsX4_inDrops (wsV RX4 92 RX4 yX4_empty wsX4_empty) := goodIn_app (goodIn_of _ (by decide +kernel)) ggX4_inDrops_X4_empty
set_option maxRecDepth 20000 in
theorem ggX5_along_X5_isSquare : GoodIn wsX5_along wsX5_isSquare := goodIn_r _ [5, 6, 7, 8, 9, 10, 11, 12, 13, 14, 15, 16, 17, 18, 19, 20, 21, 22, 23, 24, 25, 26] (by decide +kernel) (by decide +kernel)
set_option maxRecDepth 20000 in
theorem gX5_along_X5_isSquare : GoodIn wsX5_along (wsV RX5 62 RX5 yX5_isSquare wsX5_isSquare) := goodIn_app (goodIn_of _ (by decide +kernel)) ggX5_along_X5_isSquare
set_option maxRecDepth 20000 in
theorem ggX5_wins_X5_along : GoodIn wsX5_wins wsX5_along := goodIn_r _ [5, 6, 7, 8, 4, 9, 10, 11, 12, 13, 14, 15, 16, 17, 18, 19, 20, 21, 22, 23, 24, 25, 26, 27, 28, 29, 30] (by decide +kernel) (by decide +kernel)
set_option maxRecDepth 20000 in
theorem gX5_wins_X5_along : GoodIn wsX5_wins (wsV RX5 66 RX5 yX5_along wsX5_along) := goodIn_app (goodIn_of _ (by decide +kernel)) ggX5_wins_X5_along
set_option maxRecDepth 20000 in
theorem ggX5_winnerNow_X5_wins : GoodIn wsX5_winnerNow wsX5_wins := goodIn_r _ [11, 12, 13, 14, 10, 15, 16, 17, 18, 19, 5, 6, 20, 21, 22, 23, 24, 25, 26, 27, 28, 29, 30, 31, 32, 33, 34, 35, 36, 37, 38] (by decide +kernel) (by decide +kernel)
set_option maxRecDepth 20000 in
theorem gX5_winnerNow_X5_wins : GoodIn wsX5_winnerNow (wsV RX5 73 RX5 yX5_wins wsX5_wins) := goodIn_app (goodIn_of _ (by decide +kernel)) ggX5_winnerNow_X5_wins
set_option maxRecDepth 20000 in
theorem ggX5_drop_X5_winnerNow : GoodIn wsX5_drop wsX5_winnerNow := goodIn_r _ [12, 5, 6, 4, 2, 1, 3, 13, 14, 15, 11, 16, 17, 18, 19, 20, 21, 22, 23, 24, 30, 31, 32, 33, 34, 35, 36, 37, 38, 39, 40, 41, 42, 43, 44, 45, 46, 47, 48] (by decide +kernel) (by decide +kernel)
set_option maxRecDepth 20000 in
theorem gX5_drop_X5_winnerNow : GoodIn wsX5_drop (wsV RX5 77 RX5 yX5_winnerNow wsX5_winnerNow) := goodIn_app (goodIn_of _ (by decide +kernel)) ggX5_drop_X5_winnerNow
set_option maxRecDepth 20000 in
theorem ggX5_drop_X5_refused : GoodIn wsX5_drop wsX5_refused := goodIn_r _ [28, 29, 30, 31, 32, 33, 34, 35, 36, 37, 38, 39, 40, 41, 42, 43, 44, 45, 46, 47, 48] (by decide +kernel) (by decide +kernel)
set_option maxRecDepth 20000 in
theorem gX5_drop_X5_refused : GoodIn wsX5_drop (wsV RX5 81 RX5 yX5_refused wsX5_refused) := goodIn_app (goodIn_of _ (by decide +kernel)) ggX5_drop_X5_refused
set_option maxRecDepth 20000 in
theorem ggX5_back_X5_refused : GoodIn wsX5_back wsX5_refused := goodIn_r _ [10, 11, 12, 13, 14, 15, 16, 17, 18, 19, 20, 21, 22, 23, 24, 25, 26, 27, 28, 29, 30] (by decide +kernel) (by decide +kernel)
set_option maxRecDepth 20000 in
theorem gX5_back_X5_refused : GoodIn wsX5_back (wsV RX5 81 RX5 yX5_refused wsX5_refused) := goodIn_app (goodIn_of _ (by decide +kernel)) ggX5_back_X5_refused
set_option maxRecDepth 20000 in
theorem ggX5_winner_X5_winnerNow : GoodIn wsX5_winner wsX5_winnerNow := goodIn_r _ [6, 7, 8, 9, 10, 11, 12, 13, 14, 15, 5, 16, 17, 18, 19, 20, 21, 22, 23, 24, 25, 26, 27, 28, 29, 30, 31, 32, 33, 34, 35, 36, 37, 38, 39, 40, 41, 42, 43] (by decide +kernel) (by decide +kernel)
set_option maxRecDepth 20000 in
theorem gX5_winner_X5_winnerNow : GoodIn wsX5_winner (wsV RX5 77 RX5 yX5_winnerNow wsX5_winnerNow) := goodIn_app (goodIn_of _ (by decide +kernel)) ggX5_winner_X5_winnerNow
set_option maxRecDepth 20000 in
theorem ggX5_at_X5_isSquare : GoodIn wsX5_at wsX5_isSquare := goodIn_r _ [6, 7, 8, 14, 15, 16, 17, 18, 19, 20, 21, 22, 23, 24, 25, 26, 27, 28, 29, 30, 31, 32] (by decide +kernel) (by decide +kernel)
set_option maxRecDepth 20000 in
theorem gX5_at_X5_isSquare : GoodIn wsX5_at (wsV RX5 62 RX5 yX5_isSquare wsX5_isSquare) := goodIn_app (goodIn_of _ (by decide +kernel)) ggX5_at_X5_isSquare
set_option maxRecDepth 20000 in
theorem ggX5_at_X5_refused : GoodIn wsX5_at wsX5_refused := goodIn_r _ [12, 13, 14, 15, 16, 17, 18, 19, 20, 21, 22, 23, 24, 25, 26, 27, 28, 29, 30, 31, 32] (by decide +kernel) (by decide +kernel)
set_option maxRecDepth 20000 in
theorem gX5_at_X5_refused : GoodIn wsX5_at (wsV RX5 81 RX5 yX5_refused wsX5_refused) := goodIn_app (goodIn_of _ (by decide +kernel)) ggX5_at_X5_refused
set_option maxRecDepth 20000 in
theorem ggX5_isLine_X5_columnOf : GoodIn wsX5_isLine wsX5_columnOf := goodIn_r _ [4] (by decide +kernel) (by decide +kernel)
set_option maxRecDepth 20000 in
theorem gX5_isLine_X5_columnOf : GoodIn wsX5_isLine (va_wsS RX5 89 yX5_columnOf wsX5_columnOf) := goodIn_app (goodIn_of _ (by decide +kernel)) ggX5_isLine_X5_columnOf
set_option maxRecDepth 20000 in
theorem ggX5_isLine_X5_rowOf : GoodIn wsX5_isLine wsX5_rowOf := goodIn_r _ [7] (by decide +kernel) (by decide +kernel)
set_option maxRecDepth 20000 in
theorem gX5_isLine_X5_rowOf : GoodIn wsX5_isLine (va_wsS RX5 93 yX5_rowOf wsX5_rowOf) := goodIn_app (goodIn_of _ (by decide +kernel)) ggX5_isLine_X5_rowOf
set_option maxRecDepth 20000 in
theorem ggX5_isLine_X5_isSquare : GoodIn wsX5_isLine wsX5_isSquare := goodIn_r _ [11, 12, 13, 14, 15, 16, 17, 18, 19, 20, 21, 22, 23, 24, 25, 26, 27, 28, 29, 30, 31, 32] (by decide +kernel) (by decide +kernel)
set_option maxRecDepth 20000 in
theorem gX5_isLine_X5_isSquare : GoodIn wsX5_isLine (wsV RX5 62 RX5 yX5_isSquare wsX5_isSquare) := goodIn_app (goodIn_of _ (by decide +kernel)) ggX5_isLine_X5_isSquare
set_option maxRecDepth 20000 in
theorem ggX5_many_X5_columnOf : GoodIn wsX5_many wsX5_columnOf := goodIn_r _ [5] (by decide +kernel) (by decide +kernel)
set_option maxRecDepth 20000 in
theorem gX5_many_X5_columnOf : GoodIn wsX5_many (va_wsS RX5 89 yX5_columnOf wsX5_columnOf) := goodIn_app (goodIn_of _ (by decide +kernel)) ggX5_many_X5_columnOf
set_option maxRecDepth 20000 in
theorem ggX5_many_X5_rowOf : GoodIn wsX5_many wsX5_rowOf := goodIn_r _ [8] (by decide +kernel) (by decide +kernel)
set_option maxRecDepth 20000 in
theorem gX5_many_X5_rowOf : GoodIn wsX5_many (va_wsS RX5 93 yX5_rowOf wsX5_rowOf) := goodIn_app (goodIn_of _ (by decide +kernel)) ggX5_many_X5_rowOf
set_option maxRecDepth 20000 in
theorem ggX5_open_X5_refused : GoodIn wsX5_open wsX5_refused := goodIn_r _ [7, 8, 28, 29, 30, 31, 32, 33, 34, 35, 36, 37, 38, 39, 40, 41, 42, 43, 44, 45, 46] (by decide +kernel) (by decide +kernel)
set_option maxRecDepth 20000 in
theorem gX5_open_X5_refused : GoodIn wsX5_open (wsV RX5 81 RX5 yX5_refused wsX5_refused) := goodIn_app (goodIn_of _ (by decide +kernel)) ggX5_open_X5_refused
set_option maxRecDepth 20000 in
theorem ggX5_open_X5_isLine : GoodIn wsX5_open wsX5_isLine := goodIn_r _ [12, 13, 14, 6, 15, 16, 17, 18, 19, 20, 21, 22, 1, 2, 28, 29, 30, 31, 32, 33, 34, 35, 36, 37, 38, 39, 40, 41, 42, 43, 44, 45, 46] (by decide +kernel) (by decide +kernel)
set_option maxRecDepth 20000 in
theorem gX5_open_X5_isLine : GoodIn wsX5_open (wsV RX5 96 RX5 yX5_isLine wsX5_isLine) := goodIn_app (goodIn_of _ (by decide +kernel)) ggX5_open_X5_isLine
