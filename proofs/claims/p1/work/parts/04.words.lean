set_option maxRecDepth 20000 in
theorem ggX2_choose_X2_putInOrder : GoodIn wsX2_choose wsX2_putInOrder := goodIn_r _ [28, 29, 4, 30, 31, 32, 33, 8, 34, 1, 35, 36, 37, 38, 39] (by decide +kernel) (by decide +kernel)
set_option maxRecDepth 20000 in
theorem gX2_choose_X2_putInOrder : GoodIn wsX2_choose (wsV RX2 42 RX2 yX2_putInOrder wsX2_putInOrder) := goodIn_app (goodIn_of _ (by decide +kernel)) ggX2_choose_X2_putInOrder
set_option maxRecDepth 20000 in
theorem ggX4_has_X9_within : GoodIn wsX4_has wsX9_within := goodIn_r _ [4] (by decide +kernel) (by decide +kernel)
set_option maxRecDepth 20000 in
theorem gX4_has_X9_within_n35 : GoodIn wsX4_has (wsX9_within) := ggX4_has_X9_within
set_option maxRecDepth 20000 in
theorem ggX9_init_X4_init : GoodIn wsX9_init wsX4_init := goodIn_r _ [49, 50, 2, 3, 51, 26, 52, 53, 54, 55, 56, 57, 58, 136, 137, 138, 139, 140, 141, 142] (by decide +kernel) (by decide +kernel)
set_option maxRecDepth 20000 in
theorem gX9_init_X4_init_n11 : GoodIn wsX9_init (wsX4_init) := ggX9_init_X4_init
set_option maxRecDepth 20000 in
theorem ggX9_init_X8_init : GoodIn wsX9_init wsX8_init := goodIn_r _ [60, 61, 2, 3, 62, 63, 64, 65, 159, 160, 161, 162] (by decide +kernel) (by decide +kernel)
set_option maxRecDepth 20000 in
theorem gX9_init_X8_init_n30 : GoodIn wsX9_init (wsX8_init) := ggX9_init_X8_init
set_option maxRecDepth 20000 in
theorem ggX9_init_X6_init : GoodIn wsX9_init wsX6_init := goodIn_r _ [67, 68, 2, 3, 69, 70, 71, 72, 26, 73, 74, 75, 76, 77, 78, 79, 80, 81, 82, 83, 84, 85, 163, 164, 165, 166, 167, 168, 169, 170, 171, 172, 173, 174, 175, 176, 177, 178, 179] (by decide +kernel) (by decide +kernel)
set_option maxRecDepth 20000 in
theorem gX9_init_X6_init_n37 : GoodIn wsX9_init (wsX6_init) := ggX9_init_X6_init
set_option maxRecDepth 20000 in
theorem ggX9_init_X7_init : GoodIn wsX9_init wsX7_init := goodIn_r _ [87, 88, 2, 3, 89, 90, 26, 91, 180, 181, 182] (by decide +kernel) (by decide +kernel)
set_option maxRecDepth 20000 in
theorem gX9_init_X7_init_n44 : GoodIn wsX9_init (wsX7_init) := ggX9_init_X7_init
set_option maxRecDepth 20000 in
theorem ggX9_init_X0_init : GoodIn wsX9_init wsX0_init := goodIn_r _ [93, 94, 2, 3, 95, 96, 183, 184] (by decide +kernel) (by decide +kernel)
set_option maxRecDepth 20000 in
theorem gX9_init_X0_init_n82 : GoodIn wsX9_init (wsX0_init) := ggX9_init_X0_init
set_option maxRecDepth 20000 in
theorem ggX9_init_X2_init : GoodIn wsX9_init wsX2_init := goodIn_r _ [98, 99, 2, 3, 100, 26, 101, 102, 103, 104, 105, 185, 186, 187, 188, 189] (by decide +kernel) (by decide +kernel)
set_option maxRecDepth 20000 in
theorem gX9_init_X2_init_n89 : GoodIn wsX9_init (wsX2_init) := ggX9_init_X2_init
set_option maxRecDepth 20000 in
theorem ggX9_init_X1_init : GoodIn wsX9_init wsX1_init := goodIn_r _ [107, 108, 2, 3, 109, 110, 111, 112, 26, 113, 114, 115, 116, 190, 191, 192, 193, 194, 195, 196, 197] (by decide +kernel) (by decide +kernel)
set_option maxRecDepth 20000 in
theorem gX9_init_X1_init_n94 : GoodIn wsX9_init (wsX1_init) := ggX9_init_X1_init
set_option maxRecDepth 20000 in
theorem ggX9_init_X5_init : GoodIn wsX9_init wsX5_init := goodIn_r _ [118, 119, 2, 3, 120, 103, 121, 26, 122, 123, 124, 125, 198, 199, 200, 201, 202, 203] (by decide +kernel) (by decide +kernel)
set_option maxRecDepth 20000 in
theorem gX9_init_X5_init_n95 : GoodIn wsX9_init (wsX5_init) := ggX9_init_X5_init
set_option maxRecDepth 20000 in
theorem ggX9_init_X3_init : GoodIn wsX9_init wsX3_init := goodIn_r _ [127, 128, 2, 3, 129, 130, 131, 26, 132, 133, 134, 103, 135, 204, 205, 206, 207, 208, 209, 210] (by decide +kernel) (by decide +kernel)
set_option maxRecDepth 20000 in
theorem gX9_init_X3_init_n96 : GoodIn wsX9_init (wsX3_init) := ggX9_init_X3_init
set_option maxRecDepth 20000 in
theorem ggX9_paddler_X9_within : GoodIn wsX9_paddler wsX9_within := goodIn_r _ [6] (by decide +kernel) (by decide +kernel)
set_option maxRecDepth 20000 in
theorem gX9_paddler_X9_within : GoodIn wsX9_paddler (va_wsS RX9 97 yX9_within wsX9_within) := goodIn_app (goodIn_of _ (by decide +kernel)) ggX9_paddler_X9_within
set_option maxRecDepth 20000 in
theorem ggX9_paddler_X4_add : GoodIn wsX9_paddler wsX4_add := goodIn_r _ [11, 12, 13, 14, 15, 16, 17, 34, 35, 36, 37, 38, 39, 40] (by decide +kernel) (by decide +kernel)
set_option maxRecDepth 20000 in
theorem gX9_paddler_X4_add : GoodIn wsX9_paddler (wsV RX9 104 RX4 yX4_add wsX4_add) := goodIn_app (goodIn_of _ (by decide +kernel)) ggX9_paddler_X4_add
set_option maxRecDepth 20000 in
theorem ggX9_like_X4_has : GoodIn wsX9_like wsX4_has := goodIn_r _ [6, 7, 8, 9, 10, 38, 39, 40, 41, 42, 43, 44] (by decide +kernel) (by decide +kernel)
set_option maxRecDepth 20000 in
theorem gX9_like_X4_has : GoodIn wsX9_like (wsV RX9 108 RX4 yX4_has wsX4_has) := goodIn_app (goodIn_of _ (by decide +kernel)) ggX9_like_X4_has
set_option maxRecDepth 20000 in
theorem ggX9_crew_X9_within : GoodIn wsX9_crew wsX9_within := goodIn_r _ [8] (by decide +kernel) (by decide +kernel)
set_option maxRecDepth 20000 in
theorem gX9_crew_X9_within : GoodIn wsX9_crew (va_wsS RX9 97 yX9_within wsX9_within) := goodIn_app (goodIn_of _ (by decide +kernel)) ggX9_crew_X9_within
set_option maxRecDepth 20000 in
theorem ggX9_join_X9_isCrew : GoodIn wsX9_join wsX9_isCrew := goodIn_r _ [8, 9, 10, 11, 7, 12, 32, 33, 34, 35, 36, 37, 38, 39, 40, 41, 42, 43, 44, 45, 46, 47] (by decide +kernel) (by decide +kernel)
set_option maxRecDepth 20000 in
theorem gX9_join_X9_isCrew : GoodIn wsX9_join (wsV RX9 126 RX9 yX9_isCrew wsX9_isCrew) := goodIn_app (goodIn_of _ (by decide +kernel)) ggX9_join_X9_isCrew
set_option maxRecDepth 20000 in
theorem ggX9_beat_X9_isCrew : GoodIn wsX9_beat wsX9_isCrew := goodIn_r _ [7, 8, 9, 10, 6, 11, 12, 13, 14, 15, 16, 17, 18, 19, 20, 21, 22, 23, 24, 25, 26, 27] (by decide +kernel) (by decide +kernel)
set_option maxRecDepth 20000 in
theorem gX9_beat_X9_isCrew : GoodIn wsX9_beat (wsV RX9 126 RX9 yX9_isCrew wsX9_isCrew) := goodIn_app (goodIn_of _ (by decide +kernel)) ggX9_beat_X9_isCrew
set_option maxRecDepth 20000 in
theorem ggX9_seat_X9_isCrew : GoodIn wsX9_seat wsX9_isCrew := goodIn_r _ [12, 13, 14, 15, 11, 16, 111, 112, 113, 114, 115, 116, 117, 118, 119, 120, 121, 122, 123, 124, 125, 126] (by decide +kernel) (by decide +kernel)
set_option maxRecDepth 20000 in
theorem gX9_seat_X9_isCrew : GoodIn wsX9_seat (wsV RX9 126 RX9 yX9_isCrew wsX9_isCrew) := goodIn_app (goodIn_of _ (by decide +kernel)) ggX9_seat_X9_isCrew
set_option maxRecDepth 20000 in
theorem ggX9_sits_X9_isCrew : GoodIn wsX9_sits wsX9_isCrew := goodIn_r _ [9, 10, 11, 12, 8, 13, 14, 15, 16, 17, 18, 19, 20, 21, 22, 23, 24, 25, 26, 27, 28, 29] (by decide +kernel) (by decide +kernel)
set_option maxRecDepth 20000 in
theorem gX9_sits_X9_isCrew : GoodIn wsX9_sits (wsV RX9 126 RX9 yX9_isCrew wsX9_isCrew) := goodIn_app (goodIn_of _ (by decide +kernel)) ggX9_sits_X9_isCrew
set_option maxRecDepth 20000 in
theorem ggX9_trim_X9_isCrew : GoodIn wsX9_trim wsX9_isCrew := goodIn_r _ [13, 14, 15, 16, 12, 17, 59, 60, 61, 62, 63, 64, 65, 66, 67, 68, 69, 70, 71, 72, 73, 74] (by decide +kernel) (by decide +kernel)
set_option maxRecDepth 20000 in
theorem gX9_trim_X9_isCrew : GoodIn wsX9_trim (wsV RX9 126 RX9 yX9_isCrew wsX9_isCrew) := goodIn_app (goodIn_of _ (by decide +kernel)) ggX9_trim_X9_isCrew
set_option maxRecDepth 20000 in
theorem ggX9_change_X9_isCrew : GoodIn wsX9_change wsX9_isCrew := goodIn_r _ [12, 13, 14, 15, 11, 16, 76, 77, 78, 79, 80, 81, 82, 83, 84, 85, 86, 87, 88, 89, 90, 91] (by decide +kernel) (by decide +kernel)
set_option maxRecDepth 20000 in
theorem gX9_change_X9_isCrew : GoodIn wsX9_change (wsV RX9 126 RX9 yX9_isCrew wsX9_isCrew) := goodIn_app (goodIn_of _ (by decide +kernel)) ggX9_change_X9_isCrew
set_option maxRecDepth 20000 in
theorem ggX9_keeps_X9_isCrew : GoodIn wsX9_keeps wsX9_isCrew := goodIn_r _ [10, 11, 12, 13, 9, 14, 45, 46, 47, 48, 49, 50, 51, 52, 53, 54, 55, 56, 57, 58, 59, 60] (by decide +kernel) (by decide +kernel)
set_option maxRecDepth 20000 in
theorem gX9_keeps_X9_isCrew : GoodIn wsX9_keeps (wsV RX9 126 RX9 yX9_isCrew wsX9_isCrew) := goodIn_app (goodIn_of _ (by decide +kernel)) ggX9_keeps_X9_isCrew
set_option maxRecDepth 20000 in
theorem ggX9_rest_X9_within : GoodIn wsX9_rest wsX9_within := goodIn_r _ [5] (by decide +kernel) (by decide +kernel)
set_option maxRecDepth 20000 in
theorem gX9_rest_X9_within : GoodIn wsX9_rest (va_wsS RX9 97 yX9_within wsX9_within) := goodIn_app (goodIn_of _ (by decide +kernel)) ggX9_rest_X9_within
set_option maxRecDepth 20000 in
theorem ggX9_lane_X9_isCrew : GoodIn wsX9_lane wsX9_isCrew := goodIn_r _ [6, 7, 8, 9, 5, 10, 24, 25, 26, 27, 28, 29, 30, 31, 32, 33, 34, 35, 36, 37, 38, 39] (by decide +kernel) (by decide +kernel)
set_option maxRecDepth 20000 in
theorem gX9_lane_X9_isCrew : GoodIn wsX9_lane (wsV RX9 126 RX9 yX9_isCrew wsX9_isCrew) := goodIn_app (goodIn_of _ (by decide +kernel)) ggX9_lane_X9_isCrew
set_option maxRecDepth 20000 in
theorem ggX9_race_X9_within : GoodIn wsX9_race wsX9_within := goodIn_r _ [7] (by decide +kernel) (by decide +kernel)
set_option maxRecDepth 20000 in
theorem gX9_race_X9_within : GoodIn wsX9_race (va_wsS RX9 97 yX9_within wsX9_within) := goodIn_app (goodIn_of _ (by decide +kernel)) ggX9_race_X9_within
set_option maxRecDepth 20000 in
theorem ggX9_race_X9_howManyWait : GoodIn wsX9_race wsX9_howManyWait := goodIn_r _ [11, 3, 44, 45, 46, 47, 48, 49, 50, 51, 52, 53, 54, 55, 56, 57, 58, 59] (by decide +kernel) (by decide +kernel)
set_option maxRecDepth 20000 in
theorem gX9_race_X9_howManyWait : GoodIn wsX9_race (wsV RX9 218 RX9 yX9_howManyWait wsX9_howManyWait) := goodIn_app (goodIn_of _ (by decide +kernel)) ggX9_race_X9_howManyWait
set_option maxRecDepth 20000 in
theorem ggX9_current_X9_isLane : GoodIn wsX9_current wsX9_isLane := goodIn_r _ [5, 6, 7, 4, 8] (by decide +kernel) (by decide +kernel)
set_option maxRecDepth 20000 in
theorem gX9_current_X9_isLane : GoodIn wsX9_current (va_wsS RX9 211 yX9_isLane wsX9_isLane) := goodIn_app (goodIn_of _ (by decide +kernel)) ggX9_current_X9_isLane
set_option maxRecDepth 20000 in
theorem ggX9_current_X9_within : GoodIn wsX9_current wsX9_within := goodIn_r _ [8] (by decide +kernel) (by decide +kernel)
set_option maxRecDepth 20000 in
theorem gX9_current_X9_within : GoodIn wsX9_current (va_wsS RX9 97 yX9_within wsX9_within) := goodIn_app (goodIn_of _ (by decide +kernel)) ggX9_current_X9_within
set_option maxRecDepth 20000 in
theorem ggX9_run_X9_isRace : GoodIn wsX9_run wsX9_isRace := goodIn_r _ [9, 10, 11, 12, 8, 13, 100, 101, 102, 103, 104, 105, 106, 107, 108, 109, 110, 111, 112, 113, 114, 115] (by decide +kernel) (by decide +kernel)
set_option maxRecDepth 20000 in
theorem gX9_run_X9_isRace : GoodIn wsX9_run (wsV RX9 229 RX9 yX9_isRace wsX9_isRace) := goodIn_app (goodIn_of _ (by decide +kernel)) ggX9_run_X9_isRace
set_option maxRecDepth 20000 in
theorem ggX9_time_X9_isRace : GoodIn wsX9_time wsX9_isRace := goodIn_r _ [11, 12, 13, 14, 10, 15, 19, 20, 21, 22, 23, 24, 25, 26, 27, 28, 29, 30, 31, 32, 33, 34] (by decide +kernel) (by decide +kernel)
set_option maxRecDepth 20000 in
theorem gX9_time_X9_isRace : GoodIn wsX9_time (wsV RX9 229 RX9 yX9_isRace wsX9_isRace) := goodIn_app (goodIn_of _ (by decide +kernel)) ggX9_time_X9_isRace
set_option maxRecDepth 20000 in
theorem ggX9_told_X9_isRace : GoodIn wsX9_told wsX9_isRace := goodIn_r _ [9, 10, 11, 12, 8, 13, 23, 24, 25, 26, 27, 28, 29, 30, 31, 32, 33, 34, 35, 36, 37, 38] (by decide +kernel) (by decide +kernel)
set_option maxRecDepth 20000 in
theorem gX9_told_X9_isRace : GoodIn wsX9_told (wsV RX9 229 RX9 yX9_isRace wsX9_isRace) := goodIn_app (goodIn_of _ (by decide +kernel)) ggX9_told_X9_isRace
set_option maxRecDepth 20000 in
theorem ggX9_again_X9_isRace : GoodIn wsX9_again wsX9_isRace := goodIn_r _ [6, 7, 8, 9, 5, 10, 23, 24, 25, 26, 27, 28, 29, 30, 31, 32, 33, 34, 35, 36, 37, 38] (by decide +kernel) (by decide +kernel)
set_option maxRecDepth 20000 in
theorem gX9_again_X9_isRace : GoodIn wsX9_again (wsV RX9 229 RX9 yX9_isRace wsX9_isRace) := goodIn_app (goodIn_of _ (by decide +kernel)) ggX9_again_X9_isRace
set_option maxRecDepth 20000 in
theorem ggX9_strike_X9_isRace : GoodIn wsX9_strike wsX9_isRace := goodIn_r _ [8, 9, 10, 11, 7, 12, 29, 30, 31, 32, 33, 34, 35, 36, 37, 38, 39, 40, 41, 42, 43, 44] (by decide +kernel) (by decide +kernel)
set_option maxRecDepth 20000 in
theorem gX9_strike_X9_isRace : GoodIn wsX9_strike (wsV RX9 229 RX9 yX9_isRace wsX9_isRace) := goodIn_app (goodIn_of _ (by decide +kernel)) ggX9_strike_X9_isRace
set_option maxRecDepth 20000 in
theorem ggX9_finalists_X9_within : GoodIn wsX9_finalists wsX9_within := goodIn_r _ [8] (by decide +kernel) (by decide +kernel)
set_option maxRecDepth 20000 in
theorem gX9_finalists_X9_within : GoodIn wsX9_finalists (va_wsS RX9 97 yX9_within wsX9_within) := goodIn_app (goodIn_of _ (by decide +kernel)) ggX9_finalists_X9_within
set_option maxRecDepth 20000 in
theorem ggX9_finalists_X2_choose : GoodIn wsX9_finalists wsX2_choose := goodIn_r _ [13, 14, 15, 16, 17, 18, 19, 20, 12, 21, 22, 23, 6, 7, 8, 24, 25, 26, 27, 28, 29, 30, 31, 32, 33, 34, 35, 36, 37, 38, 39, 40, 41, 42, 43, 60, 61, 62, 63, 64, 65, 66, 67, 68, 69, 70, 71] (by decide +kernel) (by decide +kernel)
set_option maxRecDepth 20000 in
theorem gX9_finalists_X2_choose : GoodIn wsX9_finalists (wsV RX9 264 RX2 yX2_choose wsX2_choose) := goodIn_app (goodIn_of _ (by decide +kernel)) ggX9_finalists_X2_choose
set_option maxRecDepth 20000 in
theorem ggX9_finalist_X9_within : GoodIn wsX9_finalist wsX9_within := goodIn_r _ [7] (by decide +kernel) (by decide +kernel)
set_option maxRecDepth 20000 in
theorem gX9_finalist_X9_within : GoodIn wsX9_finalist (va_wsS RX9 97 yX9_within wsX9_within) := goodIn_app (goodIn_of _ (by decide +kernel)) ggX9_finalist_X9_within
set_option maxRecDepth 20000 in
theorem ggX9_level_X9_isLane : GoodIn wsX9_level wsX9_isLane := goodIn_r _ [10, 11, 12, 9, 13] (by decide +kernel) (by decide +kernel)
set_option maxRecDepth 20000 in
theorem gX9_level_X9_isLane : GoodIn wsX9_level (va_wsS RX9 211 yX9_isLane wsX9_isLane) := goodIn_app (goodIn_of _ (by decide +kernel)) ggX9_level_X9_isLane
set_option maxRecDepth 20000 in
theorem ggX9_level_X9_within : GoodIn wsX9_level wsX9_within := goodIn_r _ [13] (by decide +kernel) (by decide +kernel)
set_option maxRecDepth 20000 in
theorem gX9_level_X9_within : GoodIn wsX9_level (va_wsS RX9 97 yX9_within wsX9_within) := goodIn_app (goodIn_of _ (by decide +kernel)) ggX9_level_X9_within
set_option maxRecDepth 20000 in
theorem ggX9_level_X9_commonDivisor : GoodIn wsX9_level wsX9_commonDivisor := goodIn_r _ [24] (by decide +kernel) (by decide +kernel)
set_option maxRecDepth 20000 in
theorem gX9_level_X9_commonDivisor : GoodIn wsX9_level (va_wsS RX9 292 yX9_commonDivisor wsX9_commonDivisor) := goodIn_app (goodIn_of _ (by decide +kernel)) ggX9_level_X9_commonDivisor
set_option maxRecDepth 20000 in
theorem ggX9_points_X9_isCrew : GoodIn wsX9_points wsX9_isCrew := goodIn_r _ [5, 6, 7, 8, 4, 9, 32, 33, 34, 35, 36, 37, 38, 39, 40, 41, 42, 43, 44, 45, 46, 47] (by decide +kernel) (by decide +kernel)
set_option maxRecDepth 20000 in
theorem gX9_points_X9_isCrew : GoodIn wsX9_points (wsV RX9 126 RX9 yX9_isCrew wsX9_isCrew) := goodIn_app (goodIn_of _ (by decide +kernel)) ggX9_points_X9_isCrew
set_option maxRecDepth 20000 in
theorem ggX9_count_X9_howManyWait : GoodIn wsX9_count wsX9_howManyWait := goodIn_r _ [13, 14, 32, 33, 34, 35, 36, 37, 38, 39, 40, 41, 42, 43, 44, 45, 46, 47] (by decide +kernel) (by decide +kernel)
set_option maxRecDepth 20000 in
theorem gX9_count_X9_howManyWait : GoodIn wsX9_count (wsV RX9 218 RX9 yX9_howManyWait wsX9_howManyWait) := goodIn_app (goodIn_of _ (by decide +kernel)) ggX9_count_X9_howManyWait
set_option maxRecDepth 20000 in
theorem ggX9_count_X9_howManyAreSeated : GoodIn wsX9_count wsX9_howManyAreSeated := goodIn_r _ [18, 3, 19, 20, 32, 33, 34, 35, 36, 37, 38, 39, 40, 41, 42, 43, 44, 45, 46, 47, 58, 59, 60, 61, 62, 63, 64, 65] (by decide +kernel) (by decide +kernel)
set_option maxRecDepth 20000 in
theorem gX9_count_X9_howManyAreSeated : GoodIn wsX9_count (wsV RX9 302 RX9 yX9_howManyAreSeated wsX9_howManyAreSeated) := goodIn_app (goodIn_of _ (by decide +kernel)) ggX9_count_X9_howManyAreSeated
set_option maxRecDepth 20000 in
theorem ggX9_count_X9_howManyTimes : GoodIn wsX9_count wsX9_howManyTimes := goodIn_r _ [24, 5, 25, 26, 27, 28, 29, 30, 31, 32, 33, 34, 35, 36, 37, 38, 39, 40, 41, 42, 43, 44, 45, 46, 47, 66, 67, 68, 69, 70, 71, 72] (by decide +kernel) (by decide +kernel)
set_option maxRecDepth 20000 in
theorem gX9_count_X9_howManyTimes : GoodIn wsX9_count (wsV RX9 305 RX9 yX9_howManyTimes wsX9_howManyTimes) := goodIn_app (goodIn_of _ (by decide +kernel)) ggX9_count_X9_howManyTimes
set_option maxRecDepth 20000 in
theorem ggX9_isLane_X9_within : GoodIn wsX9_isLane wsX9_within := goodIn_r _ [4] (by decide +kernel) (by decide +kernel)
set_option maxRecDepth 20000 in
theorem gX9_isLane_X9_within : GoodIn wsX9_isLane (va_wsS RX9 97 yX9_within wsX9_within) := goodIn_app (goodIn_of _ (by decide +kernel)) ggX9_isLane_X9_within
set_option maxRecDepth 20000 in
theorem ggX9_isCrew_X9_within : GoodIn wsX9_isCrew wsX9_within := goodIn_r _ [5] (by decide +kernel) (by decide +kernel)
set_option maxRecDepth 20000 in
theorem gX9_isCrew_X9_within : GoodIn wsX9_isCrew (va_wsS RX9 97 yX9_within wsX9_within) := goodIn_app (goodIn_of _ (by decide +kernel)) ggX9_isCrew_X9_within
set_option maxRecDepth 20000 in
theorem ggX9_isRace_X9_within : GoodIn wsX9_isRace wsX9_within := goodIn_r _ [5] (by decide +kernel) (by decide +kernel)
set_option maxRecDepth 20000 in
theorem gX9_isRace_X9_within : GoodIn wsX9_isRace (va_wsS RX9 97 yX9_within wsX9_within) := goodIn_app (goodIn_of _ (by decide +kernel)) ggX9_isRace_X9_within
set_option maxRecDepth 20000 in
theorem ggX10_like_X10_isPaddler : GoodIn wsX10_like wsX10_isPaddler := goodIn_r _ [6, 7, 8, 9, 10, 11, 12, 13, 14, 15, 16, 17, 18, 19, 20, 21, 22, 23, 24, 25, 26, 27, 28, 29, 30, 31, 32, 33, 34, 35, 36, 37, 38, 39, 40, 41, 42, 43, 44, 45, 46, 47, 48, 49, 50, 51, 52, 53, 54, 55] (by decide +kernel) (by decide +kernel)
set_option maxRecDepth 20000 in
theorem gX10_like_X10_isPaddler : GoodIn wsX10_like (wsV RX10 131 RX10 yX10_isPaddler wsX10_isPaddler) := goodIn_app (goodIn_of _ (by decide +kernel)) ggX10_like_X10_isPaddler
set_option maxRecDepth 20000 in
theorem ggX10_join_X10_isCrew : GoodIn wsX10_join wsX10_isCrew := goodIn_r _ [8, 9, 19, 20, 21, 22, 23, 24, 25, 26, 27, 28, 29, 30, 31, 32, 33, 34, 35, 36, 37, 38, 39, 40, 41, 42, 43, 44, 45, 46, 47, 48, 49, 50, 51, 52, 53, 54, 55, 56, 57, 58, 59, 60, 61, 62, 63, 64, 65, 66] (by decide +kernel) (by decide +kernel)
set_option maxRecDepth 20000 in
theorem gX10_join_X10_isCrew : GoodIn wsX10_join (wsV RX10 135 RX10 yX10_isCrew wsX10_isCrew) := goodIn_app (goodIn_of _ (by decide +kernel)) ggX10_join_X10_isCrew
set_option maxRecDepth 20000 in
theorem ggX10_beat_X10_isCrew : GoodIn wsX10_beat wsX10_isCrew := goodIn_r _ [6, 7, 8, 9, 10, 11, 12, 13, 14, 15, 16, 17, 18, 19, 20, 21, 22, 23, 24, 25, 26, 27, 28, 29, 30, 31, 32, 33, 34, 35, 36, 37, 38, 39, 40, 41, 42, 43, 44, 45, 46, 47, 48, 49, 50, 51, 52, 53, 54, 55] (by decide +kernel) (by decide +kernel)
set_option maxRecDepth 20000 in
theorem gX10_beat_X10_isCrew : GoodIn wsX10_beat (wsV RX10 135 RX10 yX10_isCrew wsX10_isCrew) := goodIn_app (goodIn_of _ (by decide +kernel)) ggX10_beat_X10_isCrew
set_option maxRecDepth 20000 in
theorem ggX10_seat_X10_isCrew : GoodIn wsX10_seat wsX10_isCrew := goodIn_r _ [15, 16, 37, 38, 39, 40, 41, 42, 43, 44, 45, 46, 47, 48, 49, 50, 51, 52, 53, 54, 55, 56, 57, 58, 59, 60, 61, 62, 63, 64, 65, 66, 67, 68, 69, 70, 71, 72, 73, 74, 75, 76, 77, 78, 79, 80, 81, 82, 83, 84] (by decide +kernel) (by decide +kernel)
set_option maxRecDepth 20000 in
theorem gX10_seat_X10_isCrew : GoodIn wsX10_seat (wsV RX10 135 RX10 yX10_isCrew wsX10_isCrew) := goodIn_app (goodIn_of _ (by decide +kernel)) ggX10_seat_X10_isCrew
set_option maxRecDepth 20000 in
theorem ggX10_sits_X10_isCrew : GoodIn wsX10_sits wsX10_isCrew := goodIn_r _ [8, 9, 10, 11, 12, 13, 14, 15, 16, 17, 18, 19, 20, 21, 22, 23, 24, 25, 26, 27, 28, 29, 30, 31, 32, 33, 34, 35, 36, 37, 38, 39, 40, 41, 42, 43, 44, 45, 46, 47, 48, 49, 50, 51, 52, 53, 54, 55, 56, 57] (by decide +kernel) (by decide +kernel)
set_option maxRecDepth 20000 in
theorem gX10_sits_X10_isCrew : GoodIn wsX10_sits (wsV RX10 135 RX10 yX10_isCrew wsX10_isCrew) := goodIn_app (goodIn_of _ (by decide +kernel)) ggX10_sits_X10_isCrew
set_option maxRecDepth 20000 in
theorem ggX10_trim_X10_isCrew : GoodIn wsX10_trim wsX10_isCrew := goodIn_r _ [7, 8, 21, 22, 23, 24, 25, 26, 27, 28, 29, 30, 31, 32, 33, 34, 35, 36, 37, 38, 39, 40, 41, 42, 43, 44, 45, 46, 47, 48, 49, 50, 51, 52, 53, 54, 55, 56, 57, 58, 59, 60, 61, 62, 63, 64, 65, 66, 67, 68] (by decide +kernel) (by decide +kernel)
set_option maxRecDepth 20000 in
theorem gX10_trim_X10_isCrew : GoodIn wsX10_trim (wsV RX10 135 RX10 yX10_isCrew wsX10_isCrew) := goodIn_app (goodIn_of _ (by decide +kernel)) ggX10_trim_X10_isCrew
set_option maxRecDepth 20000 in
theorem ggX10_change_X10_isCrew : GoodIn wsX10_change wsX10_isCrew := goodIn_r _ [11, 12, 33, 34, 35, 36, 37, 38, 39, 40, 41, 42, 43, 44, 45, 46, 47, 48, 49, 50, 51, 52, 53, 54, 55, 56, 57, 58, 59, 60, 61, 62, 63, 64, 65, 66, 67, 68, 69, 70, 71, 72, 73, 74, 75, 76, 77, 78, 79, 80] (by decide +kernel) (by decide +kernel)
set_option maxRecDepth 20000 in
theorem gX10_change_X10_isCrew : GoodIn wsX10_change (wsV RX10 135 RX10 yX10_isCrew wsX10_isCrew) := goodIn_app (goodIn_of _ (by decide +kernel)) ggX10_change_X10_isCrew
set_option maxRecDepth 20000 in
theorem ggX10_keeps_X10_isCrew : GoodIn wsX10_keeps wsX10_isCrew := goodIn_r _ [13, 14, 24, 25, 26, 27, 28, 29, 30, 31, 32, 33, 34, 35, 36, 37, 38, 39, 40, 41, 42, 43, 44, 45, 46, 47, 48, 49, 50, 51, 52, 53, 54, 55, 56, 57, 58, 59, 60, 61, 62, 63, 64, 65, 66, 67, 68, 69, 70, 71] (by decide +kernel) (by decide +kernel)
set_option maxRecDepth 20000 in
theorem gX10_keeps_X10_isCrew : GoodIn wsX10_keeps (wsV RX10 135 RX10 yX10_isCrew wsX10_isCrew) := goodIn_app (goodIn_of _ (by decide +kernel)) ggX10_keeps_X10_isCrew
set_option maxRecDepth 20000 in
theorem ggX10_lane_X10_isCrew : GoodIn wsX10_lane wsX10_isCrew := goodIn_r _ [7, 8, 19, 20, 21, 22, 23, 24, 25, 26, 27, 28, 29, 30, 31, 32, 33, 34, 35, 36, 37, 38, 39, 40, 41, 42, 43, 44, 45, 46, 47, 48, 49, 50, 51, 52, 53, 54, 55, 56, 57, 58, 59, 60, 61, 62, 63, 64, 65, 66] (by decide +kernel) (by decide +kernel)
set_option maxRecDepth 20000 in
theorem gX10_lane_X10_isCrew : GoodIn wsX10_lane (wsV RX10 135 RX10 yX10_isCrew wsX10_isCrew) := goodIn_app (goodIn_of _ (by decide +kernel)) ggX10_lane_X10_isCrew
set_option maxRecDepth 20000 in
theorem ggX10_run_X10_isRace : GoodIn wsX10_run wsX10_isRace := goodIn_r _ [10, 11, 37, 38, 39, 40, 41, 42, 43, 44, 45, 46, 47, 48, 49, 50, 51, 52, 53, 54, 55, 56, 57, 58, 59, 60, 61, 62, 63, 64, 65, 66, 67, 68, 69, 70, 71, 72, 73, 74, 75, 76, 77, 78, 79, 80, 81, 82, 83, 84] (by decide +kernel) (by decide +kernel)
set_option maxRecDepth 20000 in
theorem gX10_run_X10_isRace : GoodIn wsX10_run (wsV RX10 226 RX10 yX10_isRace wsX10_isRace) := goodIn_app (goodIn_of _ (by decide +kernel)) ggX10_run_X10_isRace
set_option maxRecDepth 20000 in
theorem ggX10_isIn_X10_isRace : GoodIn wsX10_isIn wsX10_isRace := goodIn_r _ [6, 7, 8, 9, 10, 11, 12, 13, 14, 15, 16, 17, 18, 19, 20, 21, 22, 23, 24, 25, 26, 27, 28, 29, 30, 31, 32, 33, 34, 35, 36, 37, 38, 39, 40, 41, 42, 43, 44, 45, 46, 47, 48, 49, 50, 51, 52, 53, 54, 55] (by decide +kernel) (by decide +kernel)
set_option maxRecDepth 20000 in
theorem gX10_isIn_X10_isRace : GoodIn wsX10_isIn (wsV RX10 226 RX10 yX10_isRace wsX10_isRace) := goodIn_app (goodIn_of _ (by decide +kernel)) ggX10_isIn_X10_isRace
set_option maxRecDepth 20000 in
theorem ggX10_time_X10_isIn : GoodIn wsX10_time wsX10_isIn := goodIn_r _ [8, 9, 10, 11, 12, 7, 13, 14, 15, 16, 17, 18, 19, 20, 21, 22, 23, 24, 25, 26, 27, 28, 29, 30, 31, 32, 33, 34, 35, 36, 37, 38, 39, 40, 41, 42, 43, 44, 45, 46, 47, 48, 49, 50, 51, 52, 53, 54, 55, 56, 57, 58, 59, 60, 61, 62] (by decide +kernel) (by decide +kernel)
set_option maxRecDepth 20000 in
theorem gX10_time_X10_isIn : GoodIn wsX10_time (wsV RX10 233 RX10 yX10_isIn wsX10_isIn) := goodIn_app (goodIn_of _ (by decide +kernel)) ggX10_time_X10_isIn
set_option maxRecDepth 20000 in
theorem ggX10_told_X10_isIn : GoodIn wsX10_told wsX10_isIn := goodIn_r _ [8, 1, 9, 10, 11, 7, 12, 13, 18, 19, 20, 21, 22, 23, 24, 25, 26, 27, 28, 29, 30, 31, 32, 33, 34, 35, 36, 37, 38, 39, 40, 41, 42, 43, 44, 45, 46, 47, 48, 49, 50, 51, 52, 53, 54, 55, 56, 57, 58, 59, 60, 61, 62, 63, 64, 65] (by decide +kernel) (by decide +kernel)
set_option maxRecDepth 20000 in
theorem gX10_told_X10_isIn : GoodIn wsX10_told (wsV RX10 233 RX10 yX10_isIn wsX10_isIn) := goodIn_app (goodIn_of _ (by decide +kernel)) ggX10_told_X10_isIn
set_option maxRecDepth 20000 in
theorem ggX10_again_X10_isRace : GoodIn wsX10_again wsX10_isRace := goodIn_r _ [8, 9, 10, 11, 12, 13, 14, 15, 16, 17, 18, 19, 20, 21, 22, 23, 24, 25, 26, 27, 28, 29, 30, 31, 32, 33, 34, 35, 36, 37, 38, 39, 40, 41, 42, 43, 44, 45, 46, 47, 48, 49, 50, 51, 52, 53, 54, 55, 56, 57] (by decide +kernel) (by decide +kernel)
set_option maxRecDepth 20000 in
theorem gX10_again_X10_isRace : GoodIn wsX10_again (wsV RX10 226 RX10 yX10_isRace wsX10_isRace) := goodIn_app (goodIn_of _ (by decide +kernel)) ggX10_again_X10_isRace
set_option maxRecDepth 20000 in
theorem ggX10_strike_X10_isRace : GoodIn wsX10_strike wsX10_isRace := goodIn_r _ [8, 9, 14, 15, 16, 17, 18, 19, 20, 21, 22, 23, 24, 25, 26, 27, 28, 29, 30, 31, 32, 33, 34, 35, 36, 37, 38, 39, 40, 41, 42, 43, 44, 45, 46, 47, 48, 49, 50, 51, 52, 53, 54, 55, 56, 57, 58, 59, 60, 61] (by decide +kernel) (by decide +kernel)
set_option maxRecDepth 20000 in
theorem gX10_strike_X10_isRace : GoodIn wsX10_strike (wsV RX10 226 RX10 yX10_isRace wsX10_isRace) := goodIn_app (goodIn_of _ (by decide +kernel)) ggX10_strike_X10_isRace
set_option maxRecDepth 20000 in
theorem ggX10_points_X10_isCrew : GoodIn wsX10_points wsX10_isCrew := goodIn_r _ [5, 6, 22, 23, 24, 25, 26, 27, 28, 29, 30, 31, 32, 33, 34, 35, 36, 37, 38, 39, 40, 41, 42, 43, 44, 45, 46, 47, 48, 49, 50, 51, 52, 53, 54, 55, 56, 57, 58, 59, 60, 61, 62, 63, 64, 65, 66, 67, 68, 69] (by decide +kernel) (by decide +kernel)
set_option maxRecDepth 20000 in
theorem gX10_points_X10_isCrew : GoodIn wsX10_points (wsV RX10 135 RX10 yX10_isCrew wsX10_isCrew) := goodIn_app (goodIn_of _ (by decide +kernel)) ggX10_points_X10_isCrew
