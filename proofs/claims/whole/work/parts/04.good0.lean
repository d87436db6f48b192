set_option maxRecDepth 20000 in
theorem ggX0_leaderWins_X1_nextSquares : GoodIn wsX0_leaderWins wsX1_nextSquares := goodIn_r _ [7, 8, 9, 30, 31, 32, 33, 34, 35] (by decide +kernel) (by decide +kernel)
set_option maxRecDepth 20000 in
theorem gX0_leaderWins_X1_nextSquares : GoodIn wsX0_leaderWins (wsV RX0 19 RX1 yX1_nextSquares wsX1_nextSquares) := goodIn_app (goodIn_of _ (by decide +kernel)) ggX0_leaderWins_X1_nextSquares
set_option maxRecDepth 20000 in
theorem ggX0_leaderWins_X1_lineStarts : GoodIn wsX0_leaderWins wsX1_lineStarts := goodIn_r _ [13] (by decide +kernel) (by decide +kernel)
set_option maxRecDepth 20000 in
theorem gX0_leaderWins_X1_lineStarts : GoodIn wsX0_leaderWins (wsV RX0 27 RX1 yX1_lineStarts wsX1_lineStarts) := goodIn_app (goodIn_of _ (by decide +kernel)) ggX0_leaderWins_X1_lineStarts
set_option maxRecDepth 20000 in
theorem ggX0_leaderWins_X0_comesFirst : GoodIn wsX0_leaderWins wsX0_comesFirst := goodIn_r _ [18, 1, 19, 20, 21, 17, 22, 23, 24, 25, 6, 26, 27, 28, 11, 12, 13, 29, 30, 31, 32, 33, 34, 35] (by decide +kernel) (by decide +kernel)
set_option maxRecDepth 20000 in
theorem gX0_leaderWins_X0_comesFirst : GoodIn wsX0_leaderWins (wsV RX0 33 RX0 yX0_comesFirst wsX0_comesFirst) := goodIn_app (goodIn_of _ (by decide +kernel)) ggX0_leaderWins_X0_comesFirst
set_option maxRecDepth 20000 in
theorem ggX0_comesFirst_X0_reached : GoodIn wsX0_comesFirst wsX0_reached := goodIn_r _ [6, 1, 17, 18, 19, 20, 21, 22, 23] (by decide +kernel) (by decide +kernel)
set_option maxRecDepth 20000 in
theorem gX0_comesFirst_X0_reached : GoodIn wsX0_comesFirst (wsV RX0 41 RX0 yX0_reached wsX0_reached) := goodIn_app (goodIn_of _ (by decide +kernel)) ggX0_comesFirst_X0_reached
set_option maxRecDepth 20000 in
theorem ggX0_comesFirst_X1_hasLine : GoodIn wsX0_comesFirst wsX1_hasLine := goodIn_r _ [11, 12, 13, 14, 15, 10, 16, 18, 19, 20, 21, 22, 23] (by decide +kernel) (by decide +kernel)
set_option maxRecDepth 20000 in
theorem gX0_comesFirst_X1_hasLine : GoodIn wsX0_comesFirst (wsV RX0 45 RX1 yX1_hasLine wsX1_hasLine) := goodIn_app (goodIn_of _ (by decide +kernel)) ggX0_comesFirst_X1_hasLine
set_option maxRecDepth 20000 in
theorem ggX1_hasLine_X1_lineStarts : GoodIn wsX1_hasLine wsX1_lineStarts := goodIn_r _ [6] (by decide +kernel) (by decide +kernel)
set_option maxRecDepth 20000 in
theorem gX1_hasLine_X1_lineStarts : GoodIn wsX1_hasLine (wsV RX1 31 RX1 yX1_lineStarts wsX1_lineStarts) := goodIn_app (goodIn_of _ (by decide +kernel)) ggX1_hasLine_X1_lineStarts
set_option maxRecDepth 20000 in
theorem ggX1_countLines_X1_lineStarts : GoodIn wsX1_countLines wsX1_lineStarts := goodIn_r _ [6] (by decide +kernel) (by decide +kernel)
set_option maxRecDepth 20000 in
theorem gX1_countLines_X1_lineStarts : GoodIn wsX1_countLines (wsV RX1 31 RX1 yX1_lineStarts wsX1_lineStarts) := goodIn_app (goodIn_of _ (by decide +kernel)) ggX1_countLines_X1_lineStarts
set_option maxRecDepth 20000 in
theorem ggX1_countLines_J13_bitCount_95d88 : GoodIn wsX1_countLines wsJ13_bitCount_95d88 := goodIn_r _ [10, 11, 12, 13] (by decide +kernel) (by decide +kernel)
set_option maxRecDepth 20000 in
theorem gX1_countLines_J13_bitCount_95d88 : GoodIn wsX1_countLines (va_wsS RX1 35 yJ13_bitCount_95d88 wsJ13_bitCount_95d88) := goodIn_app (goodIn_of _ (by decide +kernel)) ggX1_countLines_J13_bitCount_95d88
set_option maxRecDepth 20000 in
theorem ggX1_threatSquares_X1_completing : GoodIn wsX1_threatSquares wsX1_completing := goodIn_r _ [7] (by decide +kernel) (by decide +kernel)
set_option maxRecDepth 20000 in
theorem gX1_threatSquares_X1_completing : GoodIn wsX1_threatSquares (va_wsS RX1 41 yX1_completing wsX1_completing) := goodIn_app (goodIn_of _ (by decide +kernel)) ggX1_threatSquares_X1_completing
set_option maxRecDepth 20000 in
theorem ggX2_holds_X2_slotOf : GoodIn wsX2_holds wsX2_slotOf := goodIn_r _ [5, 6] (by decide +kernel) (by decide +kernel)
set_option maxRecDepth 20000 in
theorem gX2_holds_X2_slotOf : GoodIn wsX2_holds (va_wsS RX2 20 yX2_slotOf wsX2_slotOf) := goodIn_app (goodIn_of _ (by decide +kernel)) ggX2_holds_X2_slotOf
set_option maxRecDepth 20000 in
theorem ggX2_leastOf_X2_slotOf : GoodIn wsX2_leastOf wsX2_slotOf := goodIn_r _ [5, 6] (by decide +kernel) (by decide +kernel)
set_option maxRecDepth 20000 in
theorem gX2_leastOf_X2_slotOf : GoodIn wsX2_leastOf (va_wsS RX2 20 yX2_slotOf wsX2_slotOf) := goodIn_app (goodIn_of _ (by decide +kernel)) ggX2_leastOf_X2_slotOf
set_option maxRecDepth 20000 in
theorem ggX2_mostOf_X2_slotOf : GoodIn wsX2_mostOf wsX2_slotOf := goodIn_r _ [5, 6] (by decide +kernel) (by decide +kernel)
set_option maxRecDepth 20000 in
theorem gX2_mostOf_X2_slotOf : GoodIn wsX2_mostOf (va_wsS RX2 20 yX2_slotOf wsX2_slotOf) := goodIn_app (goodIn_of _ (by decide +kernel)) ggX2_mostOf_X2_slotOf
set_option maxRecDepth 20000 in
theorem ggX2_keep_X2_slotOf : GoodIn wsX2_keep wsX2_slotOf := goodIn_r _ [7, 8] (by decide +kernel) (by decide +kernel)
set_option maxRecDepth 20000 in
theorem gX2_keep_X2_slotOf : GoodIn wsX2_keep (va_wsS RX2 20 yX2_slotOf wsX2_slotOf) := goodIn_app (goodIn_of _ (by decide +kernel)) ggX2_keep_X2_slotOf
set_option maxRecDepth 20000 in
theorem ggX3_init_X2_init : GoodIn wsX3_init wsX2_init := goodIn_r _ [12, 13, 2, 3, 9, 14, 15, 16, 17, 18, 19, 20] (by decide +kernel) (by decide +kernel)
set_option maxRecDepth 20000 in
theorem gX3_init_X2_init_n9 : GoodIn wsX3_init (wsX2_init) := ggX3_init_X2_init
set_option maxRecDepth 20000 in
theorem ggX3_score_X1_nextSquares : GoodIn wsX3_score wsX1_nextSquares := goodIn_r _ [6, 7, 8, 93, 94, 95, 96, 97, 98] (by decide +kernel) (by decide +kernel)
set_option maxRecDepth 20000 in
theorem gX3_score_X1_nextSquares : GoodIn wsX3_score (wsV RX3 33 RX1 yX1_nextSquares wsX1_nextSquares) := goodIn_app (goodIn_of _ (by decide +kernel)) ggX3_score_X1_nextSquares
set_option maxRecDepth 20000 in
theorem ggX3_score_X1_threatSquares : GoodIn wsX3_score wsX1_threatSquares := goodIn_r _ [12, 13, 8, 14, 15, 16, 5, 17, 93, 94, 95, 96, 97, 98] (by decide +kernel) (by decide +kernel)
set_option maxRecDepth 20000 in
theorem gX3_score_X1_threatSquares : GoodIn wsX3_score (wsV RX3 37 RX1 yX1_threatSquares wsX1_threatSquares) := goodIn_app (goodIn_of _ (by decide +kernel)) ggX3_score_X1_threatSquares
set_option maxRecDepth 20000 in
theorem ggX3_score_X3_safeMoves : GoodIn wsX3_score wsX3_safeMoves := goodIn_r _ [21, 22, 23, 24, 25, 26, 27, 28, 29] (by decide +kernel) (by decide +kernel)
set_option maxRecDepth 20000 in
theorem gX3_score_X3_safeMoves : GoodIn wsX3_score (va_wsS RX3 41 yX3_safeMoves wsX3_safeMoves) := goodIn_app (goodIn_of _ (by decide +kernel)) ggX3_score_X3_safeMoves
set_option maxRecDepth 20000 in
theorem ggX3_score_X3_remembered : GoodIn wsX3_score wsX3_remembered := goodIn_r _ [33, 1, 34, 35, 36, 37, 38, 39, 40, 41, 42, 43, 44, 45, 46, 47, 48, 49, 50, 51, 52, 53, 54, 55, 56, 57, 58, 59, 20, 60, 22, 61, 62, 63, 5, 64, 13, 65, 66, 67, 68, 69, 70, 71, 72, 73, 74, 75, 76, 77, 78, 79, 80, 81, 82, 83, 84, 0, 2, 3, 4, 6, 7, 8, 9, 10, 11, 12, 14, 15, 16, 17, 18, 19, 21, 23, 24, 25, 26, 27, 28, 29, 30, 31, 32, 85, 86, 87, 88, 89, 90, 91, 92, 93, 94, 95, 96, 97, 98, 99, 100, 101] (by decide +kernel) (by decide +kernel)
set_option maxRecDepth 20000 in
theorem gX3_score_X3_remembered : GoodIn wsX3_score (wsV RX3 44 RX3 yX3_remembered wsX3_remembered) := goodIn_app (goodIn_of _ (by decide +kernel)) ggX3_score_X3_remembered
set_option maxRecDepth 20000 in
theorem ggX3_safeMoves_J13_bitCount_95d88 : GoodIn wsX3_safeMoves wsJ13_bitCount_95d88 := goodIn_r _ [5, 6, 7, 8] (by decide +kernel) (by decide +kernel)
set_option maxRecDepth 20000 in
theorem gX3_safeMoves_J13_bitCount_95d88 : GoodIn wsX3_safeMoves (va_wsS RX3 48 yJ13_bitCount_95d88 wsJ13_bitCount_95d88) := goodIn_app (goodIn_of _ (by decide +kernel)) ggX3_safeMoves_J13_bitCount_95d88
set_option maxRecDepth 20000 in
theorem ggX3_remembered_X2_holds : GoodIn wsX3_remembered wsX2_holds := goodIn_r _ [14, 15, 16, 17, 13, 18, 19, 99, 100, 101] (by decide +kernel) (by decide +kernel)
set_option maxRecDepth 20000 in
theorem gX3_remembered_X2_holds : GoodIn wsX3_remembered (wsV RX3 60 RX2 yX2_holds wsX2_holds) := goodIn_app (goodIn_of _ (by decide +kernel)) ggX3_remembered_X2_holds
set_option maxRecDepth 20000 in
theorem ggX3_remembered_X2_leastOf : GoodIn wsX3_remembered wsX2_leastOf := goodIn_r _ [23, 24, 16, 17, 13, 18, 19, 99, 100, 101] (by decide +kernel) (by decide +kernel)
set_option maxRecDepth 20000 in
theorem gX3_remembered_X2_leastOf : GoodIn wsX3_remembered (wsV RX3 64 RX2 yX2_leastOf wsX2_leastOf) := goodIn_app (goodIn_of _ (by decide +kernel)) ggX3_remembered_X2_leastOf
set_option maxRecDepth 20000 in
theorem ggX3_remembered_X3_leastAtFirst : GoodIn wsX3_remembered wsX3_leastAtFirst := goodIn_r _ [29, 1, 30, 31, 32, 33, 34, 35, 36, 37, 38, 39, 40, 90, 91, 92, 93, 94, 95, 96, 97, 98] (by decide +kernel) (by decide +kernel)
set_option maxRecDepth 20000 in
theorem gX3_remembered_X3_leastAtFirst : GoodIn wsX3_remembered (wsV RX3 67 RX3 yX3_leastAtFirst wsX3_leastAtFirst) := goodIn_app (goodIn_of _ (by decide +kernel)) ggX3_remembered_X3_leastAtFirst
set_option maxRecDepth 20000 in
theorem ggX3_remembered_X2_mostOf : GoodIn wsX3_remembered wsX2_mostOf := goodIn_r _ [44, 45, 16, 17, 13, 18, 19, 99, 100, 101] (by decide +kernel) (by decide +kernel)
set_option maxRecDepth 20000 in
theorem gX3_remembered_X2_mostOf : GoodIn wsX3_remembered (wsV RX3 71 RX2 yX2_mostOf wsX2_mostOf) := goodIn_app (goodIn_of _ (by decide +kernel)) ggX3_remembered_X2_mostOf
set_option maxRecDepth 20000 in
theorem ggX3_remembered_X3_mostAtFirst : GoodIn wsX3_remembered wsX3_mostAtFirst := goodIn_r _ [49, 1, 30, 31, 32, 33, 34, 35, 36, 37, 38, 39, 40, 90, 91, 92, 93, 94, 95, 96, 97, 98] (by decide +kernel) (by decide +kernel)
set_option maxRecDepth 20000 in
theorem gX3_remembered_X3_mostAtFirst : GoodIn wsX3_remembered (wsV RX3 74 RX3 yX3_mostAtFirst wsX3_mostAtFirst) := goodIn_app (goodIn_of _ (by decide +kernel)) ggX3_remembered_X3_mostAtFirst
set_option maxRecDepth 20000 in
theorem ggX3_remembered_X3_tried : GoodIn wsX3_remembered wsX3_tried := goodIn_r _ [85, 1, 86, 3, 4, 5, 6, 7, 8, 9, 87, 88, 89, 28, 0, 2, 10, 11, 12, 13, 14, 15, 16, 17, 18, 19, 20, 21, 22, 23, 24, 25, 26, 27, 29, 30, 31, 32, 33, 34, 35, 36, 37, 38, 39, 40, 41, 42, 43, 44, 45, 46, 47, 48, 49, 50, 51, 52, 53, 54, 55, 56, 57, 58, 59, 60, 61, 62, 63, 64, 65, 66, 67, 68, 69, 70, 71, 72, 73, 74, 75, 76, 77, 78, 79, 80, 81, 82, 83, 84, 90, 91, 92, 93, 94, 95, 96, 97, 98, 99, 100, 101] (by decide +kernel) (by decide +kernel)
set_option maxRecDepth 20000 in
theorem gX3_remembered_X3_tried : GoodIn wsX3_remembered (wsV RX3 86 RX3 yX3_tried wsX3_tried) := goodIn_app (goodIn_of _ (by decide +kernel)) ggX3_remembered_X3_tried
set_option maxRecDepth 20000 in
theorem ggX3_remembered_X2_keep : GoodIn wsX3_remembered wsX2_keep := goodIn_r _ [56, 15, 24, 45, 16, 17, 13, 18, 19, 99, 100, 101] (by decide +kernel) (by decide +kernel)
set_option maxRecDepth 20000 in
theorem gX3_remembered_X2_keep : GoodIn wsX3_remembered (wsV RX3 89 RX2 yX2_keep wsX2_keep) := goodIn_app (goodIn_of _ (by decide +kernel)) ggX3_remembered_X2_keep
set_option maxRecDepth 20000 in
theorem ggX3_leastAtFirst_X1_hasLine : GoodIn wsX3_leastAtFirst wsX1_hasLine := goodIn_r _ [7, 8, 9, 10, 11, 6, 12, 16, 17, 18, 19, 20, 21] (by decide +kernel) (by decide +kernel)
set_option maxRecDepth 20000 in
theorem gX3_leastAtFirst_X1_hasLine : GoodIn wsX3_leastAtFirst (wsV RX3 96 RX1 yX1_hasLine wsX1_hasLine) := goodIn_app (goodIn_of _ (by decide +kernel)) ggX3_leastAtFirst_X1_hasLine
set_option maxRecDepth 20000 in
theorem ggX3_mostAtFirst_X1_hasLine : GoodIn wsX3_mostAtFirst wsX1_hasLine := goodIn_r _ [7, 8, 9, 10, 11, 6, 12, 16, 17, 18, 19, 20, 21] (by decide +kernel) (by decide +kernel)
set_option maxRecDepth 20000 in
theorem gX3_mostAtFirst_X1_hasLine : GoodIn wsX3_mostAtFirst (wsV RX3 96 RX1 yX1_hasLine wsX1_hasLine) := goodIn_app (goodIn_of _ (by decide +kernel)) ggX3_mostAtFirst_X1_hasLine
set_option maxRecDepth 20000 in
theorem ggX3_tried_X3_score : GoodIn wsX3_tried wsX3_score := goodIn_r _ [62, 1, 63, 64, 65, 39, 66, 67, 68, 69, 70, 71, 72, 41, 73, 74, 75, 76, 77, 78, 13, 79, 35, 80, 81, 82, 83, 84, 85, 86, 87, 88, 89, 14, 15, 3, 4, 5, 6, 7, 8, 9, 16, 17, 18, 19, 20, 21, 22, 23, 24, 25, 26, 27, 28, 29, 30, 31, 32, 33, 34, 36, 37, 38, 40, 42, 43, 44, 45, 46, 47, 48, 49, 50, 51, 52, 53, 54, 55, 56, 57, 58, 59, 60, 61, 0, 2, 10, 11, 12, 90, 91, 92, 93, 94, 95, 96, 97, 98, 99, 100, 101] (by decide +kernel) (by decide +kernel)
set_option maxRecDepth 20000 in
theorem gX3_tried_X3_score : GoodIn wsX3_tried (wsV RX3 99 RX3 yX3_score wsX3_score) := goodIn_app (goodIn_of _ (by decide +kernel)) ggX3_tried_X3_score
set_option maxRecDepth 20000 in
theorem ggX4_init_X4_between : GoodIn wsX4_init wsX4_between := goodIn_r _ [25, 26, 27, 28, 29, 30, 31, 32] (by decide +kernel) (by decide +kernel)
set_option maxRecDepth 20000 in
theorem gX4_init_X4_between : GoodIn wsX4_init (va_wsS RX4 17 yX4_between wsX4_between) := goodIn_app (goodIn_of _ (by decide +kernel)) ggX4_init_X4_between
set_option maxRecDepth 20000 in
theorem ggX4_init_X1_init : GoodIn wsX4_init wsX1_init := goodIn_r _ [35, 36, 2, 3, 37, 38, 19, 39, 4, 40, 41, 42, 71, 72, 73, 74, 75, 76] (by decide +kernel) (by decide +kernel)
set_option maxRecDepth 20000 in
theorem gX4_init_X1_init : GoodIn wsX4_init (wsX1_init) := ggX4_init_X1_init
set_option maxRecDepth 20000 in
theorem ggX4_init_X3_init : GoodIn wsX4_init wsX3_init := goodIn_r _ [45, 46, 2, 3, 47, 48, 49, 50, 51, 4, 52, 53, 54, 55, 56, 19, 57, 58, 81, 82, 83, 77, 78, 79, 71, 72, 73, 74, 75, 76] (by decide +kernel) (by decide +kernel)
set_option maxRecDepth 20000 in
theorem gX4_init_X3_init : GoodIn wsX4_init (wsX3_init) := ggX4_init_X3_init
set_option maxRecDepth 20000 in
theorem ggX4_init_X0_init : GoodIn wsX4_init wsX0_init := goodIn_r _ [61, 62, 2, 3, 63, 80] (by decide +kernel) (by decide +kernel)
set_option maxRecDepth 20000 in
theorem gX4_init_X0_init : GoodIn wsX4_init (wsX0_init) := ggX4_init_X0_init
set_option maxRecDepth 20000 in
theorem ggX4_drop_X4_isColumn : GoodIn wsX4_drop wsX4_isColumn := goodIn_r _ [14, 7, 50, 51, 52, 53, 54, 55, 56, 57, 58, 59, 60, 61, 62] (by decide +kernel) (by decide +kernel)
set_option maxRecDepth 20000 in
theorem gX4_drop_X4_isColumn : GoodIn wsX4_drop (wsV RX4 53 RX4 yX4_isColumn wsX4_isColumn) := goodIn_app (goodIn_of _ (by decide +kernel)) ggX4_drop_X4_isColumn
set_option maxRecDepth 20000 in
theorem ggX4_drop_X4_isOver : GoodIn wsX4_drop wsX4_isOver := goodIn_r _ [18, 19, 20, 21, 13, 22, 7, 6, 23, 24, 25, 26, 27, 28, 29, 30, 31, 32, 33, 34, 35, 36, 8, 9, 50, 51, 52, 53, 54, 55, 56, 57, 58, 59, 60, 61, 62] (by decide +kernel) (by decide +kernel)
set_option maxRecDepth 20000 in
theorem gX4_drop_X4_isOver : GoodIn wsX4_drop (wsV RX4 64 RX4 yX4_isOver wsX4_isOver) := goodIn_app (goodIn_of _ (by decide +kernel)) ggX4_drop_X4_isOver
set_option maxRecDepth 20000 in
theorem ggX4_drop_X4_isFull : GoodIn wsX4_drop wsX4_isFull := goodIn_r _ [40, 5, 7, 50, 51, 52, 53, 54, 55, 56, 57, 58, 59, 60, 61, 62] (by decide +kernel) (by decide +kernel)
set_option maxRecDepth 20000 in
theorem gX4_drop_X4_isFull : GoodIn wsX4_drop (wsV RX4 68 RX4 yX4_isFull wsX4_isFull) := goodIn_app (goodIn_of _ (by decide +kernel)) ggX4_drop_X4_isFull
set_option maxRecDepth 20000 in
theorem ggX4_drop_X4_turn : GoodIn wsX4_drop wsX4_turn := goodIn_r _ [44, 9, 50, 51, 52, 53, 54, 55, 56] (by decide +kernel) (by decide +kernel)
set_option maxRecDepth 20000 in
theorem gX4_drop_X4_turn : GoodIn wsX4_drop (wsV RX4 76 RX4 yX4_turn wsX4_turn) := goodIn_app (goodIn_of _ (by decide +kernel)) ggX4_drop_X4_turn
set_option maxRecDepth 20000 in
theorem ggX4_drop_X1_square : GoodIn wsX4_drop wsX1_square := goodIn_r _ [48, 49, 57, 58, 59, 60, 61, 62] (by decide +kernel) (by decide +kernel)
set_option maxRecDepth 20000 in
theorem gX4_drop_X1_square : GoodIn wsX4_drop (wsV RX4 80 RX1 yX1_square wsX1_square) := goodIn_app (goodIn_of _ (by decide +kernel)) ggX4_drop_X1_square
set_option maxRecDepth 20000 in
theorem ggX4_back_X4_turn : GoodIn wsX4_back wsX4_turn := goodIn_r _ [13, 3, 20, 21, 22, 23, 24, 25, 26] (by decide +kernel) (by decide +kernel)
set_option maxRecDepth 20000 in
theorem gX4_back_X4_turn : GoodIn wsX4_back (wsV RX4 76 RX4 yX4_turn wsX4_turn) := goodIn_app (goodIn_of _ (by decide +kernel)) ggX4_back_X4_turn
set_option maxRecDepth 20000 in
theorem ggX4_back_X1_square : GoodIn wsX4_back wsX1_square := goodIn_r _ [18, 19, 27, 28, 29, 30, 31, 32] (by decide +kernel) (by decide +kernel)
set_option maxRecDepth 20000 in
theorem gX4_back_X1_square : GoodIn wsX4_back (wsV RX4 80 RX1 yX1_square wsX1_square) := goodIn_app (goodIn_of _ (by decide +kernel)) ggX4_back_X1_square
set_option maxRecDepth 20000 in
theorem ggX4_winner_X1_hasLine : GoodIn wsX4_winner wsX1_hasLine := goodIn_r _ [7, 8, 9, 10, 11, 6, 12, 27, 28, 29, 30, 31, 32] (by decide +kernel) (by decide +kernel)
set_option maxRecDepth 20000 in
theorem gX4_winner_X1_hasLine : GoodIn wsX4_winner (wsV RX4 88 RX1 yX1_hasLine wsX1_hasLine) := goodIn_app (goodIn_of _ (by decide +kernel)) ggX4_winner_X1_hasLine
set_option maxRecDepth 20000 in
theorem ggX4_winner_X4_empty : GoodIn wsX4_winner wsX4_empty := goodIn_r _ [17, 18, 19, 20, 21, 22, 23, 24, 25, 26] (by decide +kernel) (by decide +kernel)
set_option maxRecDepth 20000 in
theorem gX4_winner_X4_empty : GoodIn wsX4_winner (wsV RX4 92 RX4 yX4_empty wsX4_empty) := goodIn_app (goodIn_of _ (by decide +kernel)) ggX4_winner_X4_empty
set_option maxRecDepth 20000 in
theorem ggX4_at_X4_isColumn : GoodIn wsX4_at wsX4_isColumn := goodIn_r _ [9, 3, 16, 17, 18, 19, 20, 21, 22, 23, 24, 25, 26, 27, 28] (by decide +kernel) (by decide +kernel)
set_option maxRecDepth 20000 in
theorem gX4_at_X4_isColumn : GoodIn wsX4_at (wsV RX4 53 RX4 yX4_isColumn wsX4_isColumn) := goodIn_app (goodIn_of _ (by decide +kernel)) ggX4_at_X4_isColumn
set_option maxRecDepth 20000 in
theorem ggX4_at_X1_square : GoodIn wsX4_at wsX1_square := goodIn_r _ [14, 15, 23, 24, 25, 26, 27, 28] (by decide +kernel) (by decide +kernel)
set_option maxRecDepth 20000 in
theorem gX4_at_X1_square : GoodIn wsX4_at (wsV RX4 80 RX1 yX1_square wsX1_square) := goodIn_app (goodIn_of _ (by decide +kernel)) ggX4_at_X1_square
set_option maxRecDepth 20000 in
theorem ggX4_open_X4_isPlayer : GoodIn wsX4_open wsX4_isPlayer := goodIn_r _ [9] (by decide +kernel) (by decide +kernel)
set_option maxRecDepth 20000 in
theorem gX4_open_X4_isPlayer : GoodIn wsX4_open (va_wsS RX4 103 yX4_isPlayer wsX4_isPlayer) := goodIn_app (goodIn_of _ (by decide +kernel)) ggX4_open_X4_isPlayer
set_option maxRecDepth 20000 in
theorem ggX4_open_X1_countLines : GoodIn wsX4_open wsX1_countLines := goodIn_r _ [14, 15, 16, 17, 18, 13, 19, 20, 21, 22, 23, 24, 25, 26, 34, 35, 36, 37, 38, 39] (by decide +kernel) (by decide +kernel)
set_option maxRecDepth 20000 in
theorem gX4_open_X1_countLines : GoodIn wsX4_open (wsV RX4 112 RX1 yX1_countLines wsX1_countLines) := goodIn_app (goodIn_of _ (by decide +kernel)) ggX4_open_X1_countLines
set_option maxRecDepth 20000 in
theorem ggX4_threats_X4_isPlayer : GoodIn wsX4_threats wsX4_isPlayer := goodIn_r _ [8] (by decide +kernel) (by decide +kernel)
set_option maxRecDepth 20000 in
theorem gX4_threats_X4_isPlayer : GoodIn wsX4_threats (va_wsS RX4 103 yX4_isPlayer wsX4_isPlayer) := goodIn_app (goodIn_of _ (by decide +kernel)) ggX4_threats_X4_isPlayer
set_option maxRecDepth 20000 in
theorem ggX4_threats_X4_taken : GoodIn wsX4_threats wsX4_taken := goodIn_r _ [12, 4, 31, 32, 33, 34, 35, 36, 37] (by decide +kernel) (by decide +kernel)
set_option maxRecDepth 20000 in
theorem gX4_threats_X4_taken : GoodIn wsX4_threats (wsV RX4 116 RX4 yX4_taken wsX4_taken) := goodIn_app (goodIn_of _ (by decide +kernel)) ggX4_threats_X4_taken
set_option maxRecDepth 20000 in
theorem ggX4_threats_X1_threatSquares : GoodIn wsX4_threats wsX1_threatSquares := goodIn_r _ [17, 18, 19, 20, 21, 22, 16, 23, 38, 39, 40, 41, 42, 43] (by decide +kernel) (by decide +kernel)
set_option maxRecDepth 20000 in
theorem gX4_threats_X1_threatSquares : GoodIn wsX4_threats (wsV RX4 120 RX1 yX1_threatSquares wsX1_threatSquares) := goodIn_app (goodIn_of _ (by decide +kernel)) ggX4_threats_X1_threatSquares
set_option maxRecDepth 20000 in
theorem ggX4_threats_J13_bitCount_95d88 : GoodIn wsX4_threats wsJ13_bitCount_95d88 := goodIn_r _ [27, 28, 29, 30] (by decide +kernel) (by decide +kernel)
set_option maxRecDepth 20000 in
theorem gX4_threats_J13_bitCount_95d88 : GoodIn wsX4_threats (va_wsS RX4 124 yJ13_bitCount_95d88 wsJ13_bitCount_95d88) := goodIn_app (goodIn_of _ (by decide +kernel)) ggX4_threats_J13_bitCount_95d88
