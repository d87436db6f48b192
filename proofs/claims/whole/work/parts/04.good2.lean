set_option maxRecDepth 20000 in
theorem ggX5_open_X5_many : GoodIn wsX5_open wsX5_many := goodIn_r _ [26, 27, 13, 14, 6, 15, 16, 17, 18, 28, 29, 30, 31, 32, 33, 34, 35, 36, 37, 38, 39, 40, 41, 42, 43, 44, 45, 46] (by decide +kernel) (by decide +kernel)
set_option maxRecDepth 20000 in
theorem gX5_open_X5_many : GoodIn wsX5_open (wsV RX5 100 RX5 yX5_many wsX5_many) := goodIn_app (goodIn_of _ (by decide +kernel)) ggX5_open_X5_many
set_option maxRecDepth 20000 in
theorem ggX5_isThreat_X5_columnOf : GoodIn wsX5_isThreat wsX5_columnOf := goodIn_r _ [4] (by decide +kernel) (by decide +kernel)
set_option maxRecDepth 20000 in
theorem gX5_isThreat_X5_columnOf : GoodIn wsX5_isThreat (va_wsS RX5 89 yX5_columnOf wsX5_columnOf) := goodIn_app (goodIn_of _ (by decide +kernel)) ggX5_isThreat_X5_columnOf
set_option maxRecDepth 20000 in
theorem ggX5_isThreat_X5_rowOf : GoodIn wsX5_isThreat wsX5_rowOf := goodIn_r _ [7] (by decide +kernel) (by decide +kernel)
set_option maxRecDepth 20000 in
theorem gX5_isThreat_X5_rowOf : GoodIn wsX5_isThreat (va_wsS RX5 93 yX5_rowOf wsX5_rowOf) := goodIn_app (goodIn_of _ (by decide +kernel)) ggX5_isThreat_X5_rowOf
set_option maxRecDepth 20000 in
theorem ggX5_isThreat_X5_isSquare : GoodIn wsX5_isThreat wsX5_isSquare := goodIn_r _ [11, 12, 13, 23, 24, 25, 26, 27, 28, 29, 30, 31, 32, 33, 34, 35, 36, 37, 38, 39, 40, 41] (by decide +kernel) (by decide +kernel)
set_option maxRecDepth 20000 in
theorem gX5_isThreat_X5_isSquare : GoodIn wsX5_isThreat (wsV RX5 62 RX5 yX5_isSquare wsX5_isSquare) := goodIn_app (goodIn_of _ (by decide +kernel)) ggX5_isThreat_X5_isSquare
set_option maxRecDepth 20000 in
theorem ggX5_isThreat_X5_isLine : GoodIn wsX5_isThreat wsX5_isLine := goodIn_r _ [17, 1, 2, 3, 4, 5, 6, 7, 8, 9, 10, 11, 12, 13, 23, 24, 25, 26, 27, 28, 29, 30, 31, 32, 33, 34, 35, 36, 37, 38, 39, 40, 41] (by decide +kernel) (by decide +kernel)
set_option maxRecDepth 20000 in
theorem gX5_isThreat_X5_isLine : GoodIn wsX5_isThreat (wsV RX5 96 RX5 yX5_isLine wsX5_isLine) := goodIn_app (goodIn_of _ (by decide +kernel)) ggX5_isThreat_X5_isLine
set_option maxRecDepth 20000 in
theorem ggX5_isThreat_X5_many : GoodIn wsX5_isThreat wsX5_many := goodIn_r _ [21, 22, 1, 2, 3, 4, 5, 6, 7, 23, 24, 25, 26, 27, 28, 29, 30, 31, 32, 33, 34, 35, 36, 37, 38, 39, 40, 41] (by decide +kernel) (by decide +kernel)
set_option maxRecDepth 20000 in
theorem gX5_isThreat_X5_many : GoodIn wsX5_isThreat (wsV RX5 100 RX5 yX5_many wsX5_many) := goodIn_app (goodIn_of _ (by decide +kernel)) ggX5_isThreat_X5_many
set_option maxRecDepth 20000 in
theorem ggX5_threats_X5_refused : GoodIn wsX5_threats wsX5_refused := goodIn_r _ [8, 9, 32, 33, 34, 35, 36, 37, 38, 39, 40, 41, 42, 43, 44, 45, 46, 47, 48, 49, 50] (by decide +kernel) (by decide +kernel)
set_option maxRecDepth 20000 in
theorem gX5_threats_X5_refused : GoodIn wsX5_threats (wsV RX5 81 RX5 yX5_refused wsX5_refused) := goodIn_app (goodIn_of _ (by decide +kernel)) ggX5_threats_X5_refused
set_option maxRecDepth 20000 in
theorem ggX5_threats_X5_isThreat : GoodIn wsX5_threats wsX5_isThreat := goodIn_r _ [13, 14, 15, 7, 16, 17, 18, 19, 20, 21, 22, 23, 1, 2, 24, 25, 26, 27, 28, 29, 30, 31, 3, 32, 33, 34, 35, 36, 37, 38, 39, 40, 41, 42, 43, 44, 45, 46, 47, 48, 49, 50] (by decide +kernel) (by decide +kernel)
set_option maxRecDepth 20000 in
theorem gX5_threats_X5_isThreat : GoodIn wsX5_threats (wsV RX5 104 RX5 yX5_isThreat wsX5_isThreat) := goodIn_app (goodIn_of _ (by decide +kernel)) ggX5_threats_X5_isThreat
set_option maxRecDepth 20000 in
theorem ggX5_behind_X5_slotOf : GoodIn wsX5_behind wsX5_slotOf := goodIn_r _ [12, 13, 7, 5, 1, 14, 15, 16, 17, 18, 19, 20, 21, 22, 23, 24, 25, 26, 27, 28, 29, 30, 31, 32] (by decide +kernel) (by decide +kernel)
set_option maxRecDepth 20000 in
theorem gX5_behind_X5_slotOf : GoodIn wsX5_behind (wsV RX5 107 RX5 yX5_slotOf wsX5_slotOf) := goodIn_app (goodIn_of _ (by decide +kernel)) ggX5_behind_X5_slotOf
set_option maxRecDepth 20000 in
theorem ggX5_add_X5_slotOf : GoodIn wsX5_add wsX5_slotOf := goodIn_r _ [13, 14, 7, 1, 3, 15, 16, 17, 18, 19, 20, 21, 22, 23, 24, 25, 26, 27, 28, 29, 30, 31, 32, 33] (by decide +kernel) (by decide +kernel)
set_option maxRecDepth 20000 in
theorem gX5_add_X5_slotOf : GoodIn wsX5_add (wsV RX5 107 RX5 yX5_slotOf wsX5_slotOf) := goodIn_app (goodIn_of _ (by decide +kernel)) ggX5_add_X5_slotOf
set_option maxRecDepth 20000 in
theorem ggX5_dropWins_X5_wins : GoodIn wsX5_dropWins wsX5_wins := goodIn_r _ [7, 8, 9, 10, 6, 11, 12, 13, 14, 15, 16, 17, 18, 19, 20, 21, 22, 23, 24, 25, 26, 27, 28, 29, 30, 31, 32, 33, 34, 35, 36] (by decide +kernel) (by decide +kernel)
set_option maxRecDepth 20000 in
theorem gX5_dropWins_X5_wins : GoodIn wsX5_dropWins (wsV RX5 73 RX5 yX5_wins wsX5_wins) := goodIn_app (goodIn_of _ (by decide +kernel)) ggX5_dropWins_X5_wins
set_option maxRecDepth 20000 in
theorem ggX5_valueBehind_X5_dropWins : GoodIn wsX5_valueBehind wsX5_dropWins := goodIn_r _ [6, 7, 8, 9, 10, 11, 5, 12, 13, 14, 15, 16, 17, 18, 19, 20, 21, 22, 41, 42, 43, 44, 45, 46, 47, 48, 49, 50, 51, 52, 53, 54, 55, 56, 57, 58, 59] (by decide +kernel) (by decide +kernel)
set_option maxRecDepth 20000 in
theorem gX5_valueBehind_X5_dropWins : GoodIn wsX5_valueBehind (wsV RX5 114 RX5 yX5_dropWins wsX5_dropWins) := goodIn_app (goodIn_of _ (by decide +kernel)) ggX5_valueBehind_X5_dropWins
set_option maxRecDepth 20000 in
theorem ggX5_valueBehind_X5_behind : GoodIn wsX5_valueBehind wsX5_behind := goodIn_r _ [26, 27, 28, 8, 29, 30, 31, 32, 33, 34, 35, 5, 36, 37, 41, 42, 43, 44, 45, 46, 47, 48, 49, 50, 51, 52, 53, 54, 55, 56, 57, 58, 59] (by decide +kernel) (by decide +kernel)
set_option maxRecDepth 20000 in
theorem gX5_valueBehind_X5_behind : GoodIn wsX5_valueBehind (wsV RX5 117 RX5 yX5_behind wsX5_behind) := goodIn_app (goodIn_of _ (by decide +kernel)) ggX5_valueBehind_X5_behind
set_option maxRecDepth 20000 in
theorem ggX5_valueBehind_X5_turned : GoodIn wsX5_valueBehind wsX5_turned := goodIn_r _ [40] (by decide +kernel) (by decide +kernel)
set_option maxRecDepth 20000 in
theorem gX5_valueBehind_X5_turned : GoodIn wsX5_valueBehind (va_wsS RX5 120 yX5_turned wsX5_turned) := goodIn_app (goodIn_of _ (by decide +kernel)) ggX5_valueBehind_X5_turned
set_option maxRecDepth 20000 in
theorem ggX5_lookAhead_X5_show : GoodIn wsX5_lookAhead wsX5_show := goodIn_r _ [20, 10, 21, 22, 2, 3, 7, 11, 6, 14, 61, 62, 63, 64, 65, 66, 67, 68, 69, 70, 71, 72, 73, 74, 75, 76, 77, 78, 79] (by decide +kernel) (by decide +kernel)
set_option maxRecDepth 20000 in
theorem gX5_lookAhead_X5_show : GoodIn wsX5_lookAhead (wsV RX5 124 RX5 yX5_show wsX5_show) := goodIn_app (goodIn_of _ (by decide +kernel)) ggX5_lookAhead_X5_show
set_option maxRecDepth 20000 in
theorem ggX5_lookAhead_X5_dropWins : GoodIn wsX5_lookAhead wsX5_dropWins := goodIn_r _ [26, 21, 14, 27, 28, 29, 19, 30, 31, 32, 33, 34, 35, 36, 37, 38, 2, 3, 61, 62, 63, 64, 65, 66, 67, 68, 69, 70, 71, 72, 73, 74, 75, 76, 77, 78, 79] (by decide +kernel) (by decide +kernel)
set_option maxRecDepth 20000 in
theorem gX5_lookAhead_X5_dropWins : GoodIn wsX5_lookAhead (wsV RX5 114 RX5 yX5_dropWins wsX5_dropWins) := goodIn_app (goodIn_of _ (by decide +kernel)) ggX5_lookAhead_X5_dropWins
set_option maxRecDepth 20000 in
theorem ggX5_lookAhead_X5_add : GoodIn wsX5_lookAhead wsX5_add := goodIn_r _ [42, 10, 5, 11, 6, 14, 7, 9, 12, 43, 44, 45, 19, 46, 8, 61, 62, 63, 64, 65, 66, 67, 68, 69, 70, 71, 72, 73, 74, 75, 76, 77, 78, 79] (by decide +kernel) (by decide +kernel)
set_option maxRecDepth 20000 in
theorem gX5_lookAhead_X5_add : GoodIn wsX5_lookAhead (wsV RX5 128 RX5 yX5_add wsX5_add) := goodIn_app (goodIn_of _ (by decide +kernel)) ggX5_lookAhead_X5_add
set_option maxRecDepth 20000 in
theorem ggX5_lookAhead_X5_valueBehind : GoodIn wsX5_lookAhead wsX5_valueBehind := goodIn_r _ [50, 15, 23, 24, 25, 19, 26, 21, 14, 27, 28, 29, 30, 31, 32, 33, 34, 35, 36, 37, 38, 2, 3, 51, 52, 53, 54, 11, 6, 7, 10, 5, 9, 43, 44, 45, 46, 8, 55, 56, 57, 61, 62, 63, 64, 65, 66, 67, 68, 69, 70, 71, 72, 73, 74, 75, 76, 77, 78, 79] (by decide +kernel) (by decide +kernel)
set_option maxRecDepth 20000 in
theorem gX5_lookAhead_X5_valueBehind : GoodIn wsX5_lookAhead (wsV RX5 132 RX5 yX5_valueBehind wsX5_valueBehind) := goodIn_app (goodIn_of _ (by decide +kernel)) ggX5_lookAhead_X5_valueBehind
set_option maxRecDepth 20000 in
theorem ggX5_lookAhead_X5_rank : GoodIn wsX5_lookAhead wsX5_rank := goodIn_r _ [60] (by decide +kernel) (by decide +kernel)
set_option maxRecDepth 20000 in
theorem gX5_lookAhead_X5_rank : GoodIn wsX5_lookAhead (va_wsS RX5 136 yX5_rank wsX5_rank) := goodIn_app (goodIn_of _ (by decide +kernel)) ggX5_lookAhead_X5_rank
set_option maxRecDepth 20000 in
theorem ggX5_isFar_X5_winnerNow : GoodIn wsX5_isFar wsX5_winnerNow := goodIn_r _ [8, 3, 9, 10, 11, 1, 2, 12, 13, 14, 7, 15, 16, 17, 18, 19, 20, 21, 22, 23, 24, 25, 26, 27, 28, 29, 30, 31, 32, 33, 34, 35, 36, 37, 38, 39, 40, 41, 42] (by decide +kernel) (by decide +kernel)
set_option maxRecDepth 20000 in
theorem gX5_isFar_X5_winnerNow : GoodIn wsX5_isFar (wsV RX5 77 RX5 yX5_winnerNow wsX5_winnerNow) := goodIn_app (goodIn_of _ (by decide +kernel)) ggX5_isFar_X5_winnerNow
set_option maxRecDepth 20000 in
theorem ggX5_value_X5_isFar : GoodIn wsX5_value wsX5_isFar := goodIn_r _ [6, 7, 8, 9, 10, 11, 12, 5, 13, 14, 15, 16, 17, 18, 19, 20, 21, 22, 23, 24, 25, 26, 27, 28, 79, 80, 81, 82, 83, 84, 85, 86, 87, 88, 89, 90, 91, 92, 93, 94, 95, 96, 97] (by decide +kernel) (by decide +kernel)
set_option maxRecDepth 20000 in
theorem gX5_value_X5_isFar : GoodIn wsX5_value (wsV RX5 139 RX5 yX5_isFar wsX5_isFar) := goodIn_app (goodIn_of _ (by decide +kernel)) ggX5_value_X5_isFar
set_option maxRecDepth 20000 in
theorem ggX5_value_X5_refused : GoodIn wsX5_value wsX5_refused := goodIn_r _ [32, 33, 79, 80, 81, 82, 83, 84, 85, 86, 87, 88, 89, 90, 91, 92, 93, 94, 95, 96, 97] (by decide +kernel) (by decide +kernel)
set_option maxRecDepth 20000 in
theorem gX5_value_X5_refused : GoodIn wsX5_value (wsV RX5 81 RX5 yX5_refused wsX5_refused) := goodIn_app (goodIn_of _ (by decide +kernel)) ggX5_value_X5_refused
set_option maxRecDepth 20000 in
theorem ggX5_value_X5_lookAhead : GoodIn wsX5_value wsX5_lookAhead := goodIn_r _ [37, 38, 7, 8, 9, 39, 40, 16, 41, 42, 43, 44, 45, 46, 47, 1, 48, 49, 50, 5, 51, 52, 15, 53, 54, 55, 56, 17, 18, 19, 20, 21, 22, 23, 24, 25, 26, 27, 28, 57, 58, 59, 60, 61, 62, 63, 64, 65, 66, 67, 68, 69, 70, 71, 72, 73, 74, 75, 76, 77, 78, 79, 80, 81, 82, 83, 84, 85, 86, 87, 88, 89, 90, 91, 92, 93, 94, 95, 96, 97] (by decide +kernel) (by decide +kernel)
set_option maxRecDepth 20000 in
theorem gX5_value_X5_lookAhead : GoodIn wsX5_value (wsV RX5 143 RX5 yX5_lookAhead wsX5_lookAhead) := goodIn_app (goodIn_of _ (by decide +kernel)) ggX5_value_X5_lookAhead
set_option maxRecDepth 20000 in
theorem ggX5_valueOf_X5_isFar : GoodIn wsX5_valueOf wsX5_isFar := goodIn_r _ [9, 1, 3, 4, 10, 11, 12, 8, 13, 14, 15, 2, 16, 17, 18, 19, 20, 21, 22, 23, 24, 25, 26, 27, 79, 80, 81, 82, 83, 84, 85, 86, 87, 88, 89, 90, 91, 92, 93, 94, 95, 96, 97] (by decide +kernel) (by decide +kernel)
set_option maxRecDepth 20000 in
theorem gX5_valueOf_X5_isFar : GoodIn wsX5_valueOf (wsV RX5 139 RX5 yX5_isFar wsX5_isFar) := goodIn_app (goodIn_of _ (by decide +kernel)) ggX5_valueOf_X5_isFar
set_option maxRecDepth 20000 in
theorem ggX5_valueOf_X5_refused : GoodIn wsX5_valueOf wsX5_refused := goodIn_r _ [31, 32, 79, 80, 81, 82, 83, 84, 85, 86, 87, 88, 89, 90, 91, 92, 93, 94, 95, 96, 97] (by decide +kernel) (by decide +kernel)
set_option maxRecDepth 20000 in
theorem gX5_valueOf_X5_refused : GoodIn wsX5_valueOf (wsV RX5 81 RX5 yX5_refused wsX5_refused) := goodIn_app (goodIn_of _ (by decide +kernel)) ggX5_valueOf_X5_refused
set_option maxRecDepth 20000 in
theorem ggX5_valueOf_X5_lookAhead : GoodIn wsX5_valueOf wsX5_lookAhead := goodIn_r _ [36, 37, 1, 3, 4, 38, 39, 2, 40, 41, 42, 43, 44, 45, 46, 47, 48, 49, 50, 8, 51, 52, 15, 53, 54, 55, 56, 16, 17, 18, 19, 20, 21, 22, 23, 24, 25, 26, 27, 57, 58, 59, 60, 61, 62, 63, 64, 65, 66, 67, 68, 69, 70, 71, 72, 73, 74, 75, 76, 77, 78, 79, 80, 81, 82, 83, 84, 85, 86, 87, 88, 89, 90, 91, 92, 93, 94, 95, 96, 97] (by decide +kernel) (by decide +kernel)
set_option maxRecDepth 20000 in
theorem gX5_valueOf_X5_lookAhead : GoodIn wsX5_valueOf (wsV RX5 143 RX5 yX5_lookAhead wsX5_lookAhead) := goodIn_app (goodIn_of _ (by decide +kernel)) ggX5_valueOf_X5_lookAhead
set_option maxRecDepth 20000 in
theorem ggX5_valueOf_X5_show : GoodIn wsX5_valueOf wsX5_show := goodIn_r _ [51, 42, 52, 15, 1, 3, 2, 43, 39, 46, 79, 80, 81, 82, 83, 84, 85, 86, 87, 88, 89, 90, 91, 92, 93, 94, 95, 96, 97] (by decide +kernel) (by decide +kernel)
set_option maxRecDepth 20000 in
theorem gX5_valueOf_X5_show : GoodIn wsX5_valueOf (wsV RX5 124 RX5 yX5_show wsX5_show) := goodIn_app (goodIn_of _ (by decide +kernel)) ggX5_valueOf_X5_show
set_option maxRecDepth 20000 in
theorem ggX5_valueOf_X5_valueBehind : GoodIn wsX5_valueOf wsX5_valueBehind := goodIn_r _ [68, 47, 53, 54, 55, 8, 56, 52, 46, 16, 17, 18, 19, 20, 21, 22, 23, 24, 25, 26, 27, 1, 3, 69, 70, 71, 72, 43, 39, 2, 42, 38, 41, 61, 62, 63, 64, 40, 73, 74, 75, 79, 80, 81, 82, 83, 84, 85, 86, 87, 88, 89, 90, 91, 92, 93, 94, 95, 96, 97] (by decide +kernel) (by decide +kernel)
set_option maxRecDepth 20000 in
theorem gX5_valueOf_X5_valueBehind : GoodIn wsX5_valueOf (wsV RX5 132 RX5 yX5_valueBehind wsX5_valueBehind) := goodIn_app (goodIn_of _ (by decide +kernel)) ggX5_valueOf_X5_valueBehind
set_option maxRecDepth 20000 in
theorem ggX5_best_X5_isFar : GoodIn wsX5_best wsX5_isFar := goodIn_r _ [10, 1, 3, 4, 11, 12, 13, 9, 14, 15, 16, 2, 17, 18, 19, 20, 21, 22, 23, 24, 25, 26, 27, 28, 79, 80, 81, 82, 83, 84, 85, 86, 87, 88, 89, 90, 91, 92, 93, 94, 95, 96, 97] (by decide +kernel) (by decide +kernel)
set_option maxRecDepth 20000 in
theorem gX5_best_X5_isFar : GoodIn wsX5_best (wsV RX5 139 RX5 yX5_isFar wsX5_isFar) := goodIn_app (goodIn_of _ (by decide +kernel)) ggX5_best_X5_isFar
set_option maxRecDepth 20000 in
theorem ggX5_best_X5_refused : GoodIn wsX5_best wsX5_refused := goodIn_r _ [32, 33, 79, 80, 81, 82, 83, 84, 85, 86, 87, 88, 89, 90, 91, 92, 93, 94, 95, 96, 97] (by decide +kernel) (by decide +kernel)
set_option maxRecDepth 20000 in
theorem gX5_best_X5_refused : GoodIn wsX5_best (wsV RX5 81 RX5 yX5_refused wsX5_refused) := goodIn_app (goodIn_of _ (by decide +kernel)) ggX5_best_X5_refused
set_option maxRecDepth 20000 in
theorem ggX5_best_X5_lookAhead : GoodIn wsX5_best wsX5_lookAhead := goodIn_r _ [37, 38, 1, 3, 4, 39, 40, 2, 41, 42, 43, 44, 45, 46, 47, 5, 48, 49, 50, 9, 51, 52, 16, 53, 54, 55, 56, 17, 18, 19, 20, 21, 22, 23, 24, 25, 26, 27, 28, 57, 58, 59, 60, 61, 62, 63, 64, 65, 66, 67, 68, 69, 70, 71, 72, 73, 74, 75, 76, 77, 78, 79, 80, 81, 82, 83, 84, 85, 86, 87, 88, 89, 90, 91, 92, 93, 94, 95, 96, 97] (by decide +kernel) (by decide +kernel)
set_option maxRecDepth 20000 in
theorem gX5_best_X5_lookAhead : GoodIn wsX5_best (wsV RX5 143 RX5 yX5_lookAhead wsX5_lookAhead) := goodIn_app (goodIn_of _ (by decide +kernel)) ggX5_best_X5_lookAhead
set_option maxRecDepth 20000 in
theorem ggX5_best_X5_show : GoodIn wsX5_best wsX5_show := goodIn_r _ [51, 43, 52, 16, 1, 3, 2, 44, 40, 47, 79, 80, 81, 82, 83, 84, 85, 86, 87, 88, 89, 90, 91, 92, 93, 94, 95, 96, 97] (by decide +kernel) (by decide +kernel)
set_option maxRecDepth 20000 in
theorem gX5_best_X5_show : GoodIn wsX5_best (wsV RX5 124 RX5 yX5_show wsX5_show) := goodIn_app (goodIn_of _ (by decide +kernel)) ggX5_best_X5_show
set_option maxRecDepth 20000 in
theorem ggX5_best_X5_valueBehind : GoodIn wsX5_best wsX5_valueBehind := goodIn_r _ [68, 5, 53, 54, 55, 9, 56, 52, 47, 17, 18, 19, 20, 21, 22, 23, 24, 25, 26, 27, 28, 1, 3, 69, 70, 71, 72, 44, 40, 2, 43, 39, 42, 61, 62, 63, 64, 41, 73, 74, 75, 79, 80, 81, 82, 83, 84, 85, 86, 87, 88, 89, 90, 91, 92, 93, 94, 95, 96, 97] (by decide +kernel) (by decide +kernel)
set_option maxRecDepth 20000 in
theorem gX5_best_X5_valueBehind : GoodIn wsX5_best (wsV RX5 132 RX5 yX5_valueBehind wsX5_valueBehind) := goodIn_app (goodIn_of _ (by decide +kernel)) ggX5_best_X5_valueBehind
set_option maxRecDepth 20000 in
theorem ggX5_beats_X5_winnerNow : GoodIn wsX5_beats wsX5_winnerNow := goodIn_r _ [14, 4, 15, 16, 3, 1, 2, 17, 18, 19, 13, 20, 21, 22, 23, 24, 25, 26, 27, 28, 42, 43, 44, 45, 46, 47, 48, 49, 50, 51, 52, 53, 54, 55, 56, 57, 58, 59, 60] (by decide +kernel) (by decide +kernel)
set_option maxRecDepth 20000 in
theorem gX5_beats_X5_winnerNow : GoodIn wsX5_beats (wsV RX5 77 RX5 yX5_winnerNow wsX5_winnerNow) := goodIn_app (goodIn_of _ (by decide +kernel)) ggX5_beats_X5_winnerNow
set_option maxRecDepth 20000 in
theorem ggX5_beats_X5_refused : GoodIn wsX5_beats wsX5_refused := goodIn_r _ [32, 33, 42, 43, 44, 45, 46, 47, 48, 49, 50, 51, 52, 53, 54, 55, 56, 57, 58, 59, 60] (by decide +kernel) (by decide +kernel)
set_option maxRecDepth 20000 in
theorem gX5_beats_X5_refused : GoodIn wsX5_beats (wsV RX5 81 RX5 yX5_refused wsX5_refused) := goodIn_app (goodIn_of _ (by decide +kernel)) ggX5_beats_X5_refused
set_option maxRecDepth 20000 in
theorem ggX5_beats_X5_showPairs : GoodIn wsX5_beats wsX5_showPairs := goodIn_r _ [37, 9, 16, 1, 2, 3, 4, 8, 42, 43, 44, 45, 46, 47, 48, 49, 50, 51, 52, 53, 54, 55, 56, 57, 58, 59, 60] (by decide +kernel) (by decide +kernel)
set_option maxRecDepth 20000 in
theorem gX5_beats_X5_showPairs : GoodIn wsX5_beats (wsV RX5 146 RX5 yX5_showPairs wsX5_showPairs) := goodIn_app (goodIn_of _ (by decide +kernel)) ggX5_beats_X5_showPairs
set_option maxRecDepth 20000 in
theorem ggX5_beats_X5_dropWins : GoodIn wsX5_beats wsX5_dropWins := goodIn_r _ [41, 9, 8, 17, 18, 19, 13, 20, 21, 22, 23, 24, 25, 26, 27, 28, 1, 2, 42, 43, 44, 45, 46, 47, 48, 49, 50, 51, 52, 53, 54, 55, 56, 57, 58, 59, 60] (by decide +kernel) (by decide +kernel)
set_option maxRecDepth 20000 in
theorem gX5_beats_X5_dropWins : GoodIn wsX5_beats (wsV RX5 114 RX5 yX5_dropWins wsX5_dropWins) := goodIn_app (goodIn_of _ (by decide +kernel)) ggX5_beats_X5_dropWins
