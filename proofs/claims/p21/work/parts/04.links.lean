set_option maxRecDepth 20000 in
theorem ggX0_init_J7_fill_53178 : GoodIn wsX0_init wsJ7_fill_53178 := goodIn_r _ [15] (by decide +kernel) (by decide +kernel)
set_option maxRecDepth 20000 in
theorem gX0_init_J7_fill_53178 : GoodIn wsX0_init (va_wsS RX0 34 yJ7_fill_53178 wsJ7_fill_53178) := goodIn_app (goodIn_of _ (by decide +kernel)) ggX0_init_J7_fill_53178
set_option maxRecDepth 20000 in
theorem ggX0_arrange_J7_fill_53178 : GoodIn wsX0_arrange wsJ7_fill_53178 := goodIn_r _ [7] (by decide +kernel) (by decide +kernel)
set_option maxRecDepth 20000 in
theorem gX0_arrange_J7_fill_53178 : GoodIn wsX0_arrange (va_wsS RX0 34 yJ7_fill_53178 wsJ7_fill_53178) := goodIn_app (goodIn_of _ (by decide +kernel)) ggX0_arrange_J7_fill_53178
set_option maxRecDepth 20000 in
theorem ggX0_arrange_X5_lampAt : GoodIn wsX0_arrange wsX5_lampAt := goodIn_r _ [12, 13, 52, 53, 54] (by decide +kernel) (by decide +kernel)
set_option maxRecDepth 20000 in
theorem gX0_arrange_X5_lampAt : GoodIn wsX0_arrange (wsV RX0 40 RX5 yX5_lampAt wsX5_lampAt) := goodIn_app (goodIn_of _ (by decide +kernel)) ggX0_arrange_X5_lampAt
set_option maxRecDepth 20000 in
theorem ggX0_arrange_X5_isUsable : GoodIn wsX0_arrange wsX5_isUsable := goodIn_r _ [17, 18, 19, 20, 55, 56, 57, 58, 59, 60, 52, 53, 54] (by decide +kernel) (by decide +kernel)
set_option maxRecDepth 20000 in
theorem gX0_arrange_X5_isUsable : GoodIn wsX0_arrange (wsV RX0 46 RX5 yX5_isUsable wsX5_isUsable) := goodIn_app (goodIn_of _ (by decide +kernel)) ggX0_arrange_X5_isUsable
set_option maxRecDepth 20000 in
theorem ggX0_arrange_X5_nearestSpare : GoodIn wsX0_arrange wsX5_nearestSpare := goodIn_r _ [24, 13, 25, 26, 15, 16, 11, 17, 18, 19, 20, 27, 28, 29, 30, 31, 3, 2, 32, 33, 34, 35, 36, 37, 38, 39, 40, 41, 42, 52, 53, 54, 55, 56, 57, 58, 59, 60, 43, 44, 45, 46, 47, 48, 49, 50, 51] (by decide +kernel) (by decide +kernel)
set_option maxRecDepth 20000 in
theorem gX0_arrange_X5_nearestSpare : GoodIn wsX0_arrange (wsV RX0 50 RX5 yX5_nearestSpare wsX5_nearestSpare) := goodIn_app (goodIn_of _ (by decide +kernel)) ggX0_arrange_X5_nearestSpare
set_option maxRecDepth 20000 in
theorem ggX1_isOver_X1_isReleased : GoodIn wsX1_isOver wsX1_isReleased := goodIn_r _ [8, 2, 9, 10, 11] (by decide +kernel) (by decide +kernel)
set_option maxRecDepth 20000 in
theorem gX1_isOver_X1_isReleased : GoodIn wsX1_isOver (wsV RX1 22 RX1 yX1_isReleased wsX1_isReleased) := goodIn_app (goodIn_of _ (by decide +kernel)) ggX1_isOver_X1_isReleased
set_option maxRecDepth 20000 in
theorem ggX1_levelFor_X0_levelFor : GoodIn wsX1_levelFor wsX0_levelFor := goodIn_r _ [6, 7, 11, 12, 13, 14, 15, 16, 17, 18, 19] (by decide +kernel) (by decide +kernel)
set_option maxRecDepth 20000 in
theorem gX1_levelFor_X0_levelFor : GoodIn wsX1_levelFor (wsV RX1 34 RX0 yX0_levelFor wsX0_levelFor) := goodIn_app (goodIn_of _ (by decide +kernel)) ggX1_levelFor_X0_levelFor
set_option maxRecDepth 20000 in
theorem ggX1_master_X1_isReleased : GoodIn wsX1_master wsX1_isReleased := goodIn_r _ [9, 4, 16, 17, 18] (by decide +kernel) (by decide +kernel)
set_option maxRecDepth 20000 in
theorem gX1_master_X1_isReleased : GoodIn wsX1_master (wsV RX1 22 RX1 yX1_isReleased wsX1_isReleased) := goodIn_app (goodIn_of _ (by decide +kernel)) ggX1_master_X1_isReleased
set_option maxRecDepth 20000 in
theorem ggX1_master_X0_masterRisen : GoodIn wsX1_master wsX0_masterRisen := goodIn_r _ [14, 15, 19, 20, 21, 22, 23, 24, 25, 26, 27] (by decide +kernel) (by decide +kernel)
set_option maxRecDepth 20000 in
theorem gX1_master_X0_masterRisen : GoodIn wsX1_master (wsV RX1 38 RX0 yX0_masterRisen wsX0_masterRisen) := goodIn_app (goodIn_of _ (by decide +kernel)) ggX1_master_X0_masterRisen
set_option maxRecDepth 20000 in
theorem ggX2_init_X1_init : GoodIn wsX2_init wsX1_init := goodIn_r _ [10, 11, 2, 3, 12, 15, 16, 17] (by decide +kernel) (by decide +kernel)
set_option maxRecDepth 20000 in
theorem gX2_init_X1_init : GoodIn wsX2_init (wsX1_init) := ggX2_init_X1_init
set_option maxRecDepth 20000 in
theorem ggX2_placeOf_X2_at : GoodIn wsX2_placeOf wsX2_at := goodIn_r _ [7, 1, 8, 9, 10] (by decide +kernel) (by decide +kernel)
set_option maxRecDepth 20000 in
theorem gX2_placeOf_X2_at : GoodIn wsX2_placeOf (wsV RX2 22 RX2 yX2_at wsX2_at) := goodIn_app (goodIn_of _ (by decide +kernel)) ggX2_placeOf_X2_at
set_option maxRecDepth 20000 in
theorem ggX2_goingOf_X2_placeOf : GoodIn wsX2_goingOf wsX2_placeOf := goodIn_r _ [5, 6, 7, 8, 9, 10, 4, 11, 12, 13, 14, 15, 16, 17] (by decide +kernel) (by decide +kernel)
set_option maxRecDepth 20000 in
theorem gX2_goingOf_X2_placeOf : GoodIn wsX2_goingOf (wsV RX2 30 RX2 yX2_placeOf wsX2_placeOf) := goodIn_app (goodIn_of _ (by decide +kernel)) ggX2_goingOf_X2_placeOf
set_option maxRecDepth 20000 in
theorem ggX2_goingOf_X2_at : GoodIn wsX2_goingOf wsX2_at := goodIn_r _ [11, 6, 12, 13, 14] (by decide +kernel) (by decide +kernel)
set_option maxRecDepth 20000 in
theorem gX2_goingOf_X2_at : GoodIn wsX2_goingOf (wsV RX2 22 RX2 yX2_at wsX2_at) := goodIn_app (goodIn_of _ (by decide +kernel)) ggX2_goingOf_X2_at
set_option maxRecDepth 20000 in
theorem ggX2_begin_X2_placeOf : GoodIn wsX2_begin wsX2_placeOf := goodIn_r _ [7, 1, 8, 9, 10, 11, 6, 12, 2, 25, 26, 27, 28, 29] (by decide +kernel) (by decide +kernel)
set_option maxRecDepth 20000 in
theorem gX2_begin_X2_placeOf : GoodIn wsX2_begin (wsV RX2 30 RX2 yX2_placeOf wsX2_placeOf) := goodIn_app (goodIn_of _ (by decide +kernel)) ggX2_begin_X2_placeOf
set_option maxRecDepth 20000 in
theorem ggX2_begin_X2_moveLast : GoodIn wsX2_begin wsX2_moveLast := goodIn_r _ [16, 1, 2, 9, 10, 11, 6, 12, 25, 26] (by decide +kernel) (by decide +kernel)
set_option maxRecDepth 20000 in
theorem gX2_begin_X2_moveLast : GoodIn wsX2_begin (wsV RX2 34 RX2 yX2_moveLast wsX2_moveLast) := goodIn_app (goodIn_of _ (by decide +kernel)) ggX2_begin_X2_moveLast
set_option maxRecDepth 20000 in
theorem ggX2_begin_X2_at : GoodIn wsX2_begin wsX2_at := goodIn_r _ [12, 1, 2, 25, 26] (by decide +kernel) (by decide +kernel)
set_option maxRecDepth 20000 in
theorem gX2_begin_X2_at : GoodIn wsX2_begin (wsV RX2 22 RX2 yX2_at wsX2_at) := goodIn_app (goodIn_of _ (by decide +kernel)) ggX2_begin_X2_at
set_option maxRecDepth 20000 in
theorem ggX2_begin_X1_begin : GoodIn wsX2_begin wsX1_begin := goodIn_r _ [21, 22, 23, 24, 27, 28, 29] (by decide +kernel) (by decide +kernel)
set_option maxRecDepth 20000 in
theorem gX2_begin_X1_begin : GoodIn wsX2_begin (wsV RX2 38 RX1 yX1_begin wsX1_begin) := goodIn_app (goodIn_of _ (by decide +kernel)) ggX2_begin_X1_begin
set_option maxRecDepth 20000 in
theorem ggX2_fall_X2_goingOf : GoodIn wsX2_fall wsX2_goingOf := goodIn_r _ [5, 6, 7, 8, 4, 9, 10, 11, 12, 13, 14, 15, 16, 23, 24, 25, 26, 27] (by decide +kernel) (by decide +kernel)
set_option maxRecDepth 20000 in
theorem gX2_fall_X2_goingOf : GoodIn wsX2_fall (wsV RX2 42 RX2 yX2_goingOf wsX2_goingOf) := goodIn_app (goodIn_of _ (by decide +kernel)) ggX2_fall_X2_goingOf
set_option maxRecDepth 20000 in
theorem ggX2_fall_X1_fall : GoodIn wsX2_fall wsX1_fall := goodIn_r _ [21, 22, 25, 26, 27] (by decide +kernel) (by decide +kernel)
set_option maxRecDepth 20000 in
theorem gX2_fall_X1_fall : GoodIn wsX2_fall (wsV RX2 46 RX1 yX1_fall wsX1_fall) := goodIn_app (goodIn_of _ (by decide +kernel)) ggX2_fall_X1_fall
set_option maxRecDepth 20000 in
theorem ggX2_dropOver_X2_at : GoodIn wsX2_dropOver wsX2_at := goodIn_r _ [6, 1, 7, 24, 25] (by decide +kernel) (by decide +kernel)
set_option maxRecDepth 20000 in
theorem gX2_dropOver_X2_at : GoodIn wsX2_dropOver (wsV RX2 22 RX2 yX2_at wsX2_at) := goodIn_app (goodIn_of _ (by decide +kernel)) ggX2_dropOver_X2_at
set_option maxRecDepth 20000 in
theorem ggX2_dropOver_X1_isOver : GoodIn wsX2_dropOver wsX1_isOver := goodIn_r _ [12, 13, 14, 15, 16, 17, 18, 11, 19, 26, 27, 28, 29, 30, 31, 32, 33, 34, 35, 36, 37] (by decide +kernel) (by decide +kernel)
set_option maxRecDepth 20000 in
theorem gX2_dropOver_X1_isOver : GoodIn wsX2_dropOver (wsV RX2 49 RX1 yX1_isOver wsX1_isOver) := goodIn_app (goodIn_of _ (by decide +kernel)) ggX2_dropOver_X1_isOver
set_option maxRecDepth 20000 in
theorem ggX2_dropOver_X2_moveLast : GoodIn wsX2_dropOver wsX2_moveLast := goodIn_r _ [23, 1, 7, 2, 3, 4, 5, 6, 24, 25] (by decide +kernel) (by decide +kernel)
set_option maxRecDepth 20000 in
theorem gX2_dropOver_X2_moveLast : GoodIn wsX2_dropOver (wsV RX2 34 RX2 yX2_moveLast wsX2_moveLast) := goodIn_app (goodIn_of _ (by decide +kernel)) ggX2_dropOver_X2_moveLast
set_option maxRecDepth 20000 in
theorem ggX2_moveLast_X2_at : GoodIn wsX2_moveLast wsX2_at := goodIn_r _ [7, 1, 2, 8, 9] (by decide +kernel) (by decide +kernel)
set_option maxRecDepth 20000 in
theorem gX2_moveLast_X2_at : GoodIn wsX2_moveLast (wsV RX2 22 RX2 yX2_at wsX2_at) := goodIn_app (goodIn_of _ (by decide +kernel)) ggX2_moveLast_X2_at
set_option maxRecDepth 20000 in
theorem ggX2_greatestUnreleased_X2_at : GoodIn wsX2_greatestUnreleased wsX2_at := goodIn_r _ [10, 1, 11, 29, 30] (by decide +kernel) (by decide +kernel)
set_option maxRecDepth 20000 in
theorem gX2_greatestUnreleased_X2_at : GoodIn wsX2_greatestUnreleased (wsV RX2 22 RX2 yX2_at wsX2_at) := goodIn_app (goodIn_of _ (by decide +kernel)) ggX2_greatestUnreleased_X2_at
set_option maxRecDepth 20000 in
theorem ggX2_greatestUnreleased_X1_isReleased : GoodIn wsX2_greatestUnreleased wsX1_isReleased := goodIn_r _ [16, 17, 31, 32, 33] (by decide +kernel) (by decide +kernel)
set_option maxRecDepth 20000 in
theorem gX2_greatestUnreleased_X1_isReleased : GoodIn wsX2_greatestUnreleased (wsV RX2 53 RX1 yX1_isReleased wsX1_isReleased) := goodIn_app (goodIn_of _ (by decide +kernel)) ggX2_greatestUnreleased_X1_isReleased
set_option maxRecDepth 20000 in
theorem ggX2_greatestUnreleased_X1_levelFor : GoodIn wsX2_greatestUnreleased wsX1_levelFor := goodIn_r _ [21, 22, 23, 24, 25, 26, 27, 28, 31, 32, 33, 34, 35, 36, 37, 38, 39, 40, 41, 42] (by decide +kernel) (by decide +kernel)
set_option maxRecDepth 20000 in
theorem gX2_greatestUnreleased_X1_levelFor : GoodIn wsX2_greatestUnreleased (wsV RX2 57 RX1 yX1_levelFor wsX1_levelFor) := goodIn_app (goodIn_of _ (by decide +kernel)) ggX2_greatestUnreleased_X1_levelFor
set_option maxRecDepth 20000 in
theorem ggX2_mix_X2_at : GoodIn wsX2_mix wsX2_at := goodIn_r _ [6, 1, 7, 41, 42] (by decide +kernel) (by decide +kernel)
set_option maxRecDepth 20000 in
theorem gX2_mix_X2_at : GoodIn wsX2_mix (wsV RX2 22 RX2 yX2_at wsX2_at) := goodIn_app (goodIn_of _ (by decide +kernel)) ggX2_mix_X2_at
set_option maxRecDepth 20000 in
theorem ggX2_mix_X1_isOf : GoodIn wsX2_mix wsX1_isOf := goodIn_r _ [12, 13, 14, 43, 44, 45, 46, 47, 48, 49, 50, 51, 52, 53, 54] (by decide +kernel) (by decide +kernel)
set_option maxRecDepth 20000 in
theorem gX2_mix_X1_isOf : GoodIn wsX2_mix (wsV RX2 67 RX1 yX1_isOf wsX1_isOf) := goodIn_app (goodIn_of _ (by decide +kernel)) ggX2_mix_X1_isOf
set_option maxRecDepth 20000 in
theorem ggX2_mix_X1_levelFor : GoodIn wsX2_mix wsX1_levelFor := goodIn_r _ [18, 13, 19, 20, 21, 22, 23, 24, 43, 44, 45, 46, 47, 48, 49, 50, 51, 52, 53, 54] (by decide +kernel) (by decide +kernel)
set_option maxRecDepth 20000 in
theorem gX2_mix_X1_levelFor : GoodIn wsX2_mix (wsV RX2 57 RX1 yX1_levelFor wsX1_levelFor) := goodIn_app (goodIn_of _ (by decide +kernel)) ggX2_mix_X1_levelFor
set_option maxRecDepth 20000 in
theorem ggX2_mix_X1_master : GoodIn wsX2_mix wsX1_master := goodIn_r _ [28, 13, 29, 30, 31, 32, 33, 34, 11, 35, 36, 37, 38, 22, 39, 40, 43, 44, 45, 46, 47, 48, 49, 50, 51, 52, 53, 54] (by decide +kernel) (by decide +kernel)
set_option maxRecDepth 20000 in
theorem gX2_mix_X1_master : GoodIn wsX2_mix (wsV RX2 70 RX1 yX1_master wsX1_master) := goodIn_app (goodIn_of _ (by decide +kernel)) ggX2_mix_X1_master
set_option maxRecDepth 20000 in
theorem ggX3_writeGoing_X3_entryFor : GoodIn wsX3_writeGoing wsX3_entryFor := goodIn_r _ [4] (by decide +kernel) (by decide +kernel)
set_option maxRecDepth 20000 in
theorem gX3_writeGoing_X3_entryFor : GoodIn wsX3_writeGoing (va_wsS RX3 15 yX3_entryFor wsX3_entryFor) := goodIn_app (goodIn_of _ (by decide +kernel)) ggX3_writeGoing_X3_entryFor
set_option maxRecDepth 20000 in
theorem ggX3_writeGoing_X3_strike : GoodIn wsX3_writeGoing wsX3_strike := goodIn_r _ [8, 9, 10, 11, 12, 3, 13, 14, 15, 16, 17, 18, 19, 20, 21, 47, 48] (by decide +kernel) (by decide +kernel)
set_option maxRecDepth 20000 in
theorem gX3_writeGoing_X3_strike : GoodIn wsX3_writeGoing (wsV RX3 19 RX3 yX3_strike wsX3_strike) := goodIn_app (goodIn_of _ (by decide +kernel)) ggX3_writeGoing_X3_strike
set_option maxRecDepth 20000 in
theorem ggX3_writeGoing_X3_append : GoodIn wsX3_writeGoing wsX3_append := goodIn_r _ [25, 9, 14, 26, 27, 28, 29, 30, 31, 32, 33, 34, 35, 36, 37, 38, 39, 40, 41, 42, 43, 44, 45, 46, 47, 48] (by decide +kernel) (by decide +kernel)
set_option maxRecDepth 20000 in
theorem gX3_writeGoing_X3_append : GoodIn wsX3_writeGoing (wsV RX3 23 RX3 yX3_append wsX3_append) := goodIn_app (goodIn_of _ (by decide +kernel)) ggX3_writeGoing_X3_append
set_option maxRecDepth 20000 in
theorem ggX3_writeRelease_X3_entryFor : GoodIn wsX3_writeRelease wsX3_entryFor := goodIn_r _ [4] (by decide +kernel) (by decide +kernel)
set_option maxRecDepth 20000 in
theorem gX3_writeRelease_X3_entryFor : GoodIn wsX3_writeRelease (va_wsS RX3 15 yX3_entryFor wsX3_entryFor) := goodIn_app (goodIn_of _ (by decide +kernel)) ggX3_writeRelease_X3_entryFor
set_option maxRecDepth 20000 in
theorem ggX3_writeRelease_X3_append : GoodIn wsX3_writeRelease wsX3_append := goodIn_r _ [8, 9, 10, 11, 12, 13, 14, 15, 16, 17, 18, 19, 20, 21, 22, 23, 24, 25, 26, 27, 28, 29, 30, 31, 32, 33] (by decide +kernel) (by decide +kernel)
set_option maxRecDepth 20000 in
theorem gX3_writeRelease_X3_append : GoodIn wsX3_writeRelease (wsV RX3 23 RX3 yX3_append wsX3_append) := goodIn_app (goodIn_of _ (by decide +kernel)) ggX3_writeRelease_X3_append
set_option maxRecDepth 20000 in
theorem ggX3_strike_X3_entryAt : GoodIn wsX3_strike wsX3_entryAt := goodIn_r _ [6, 7, 15, 16] (by decide +kernel) (by decide +kernel)
set_option maxRecDepth 20000 in
theorem gX3_strike_X3_entryAt : GoodIn wsX3_strike (wsV RX3 30 RX3 yX3_entryAt wsX3_entryAt) := goodIn_app (goodIn_of _ (by decide +kernel)) ggX3_strike_X3_entryAt
set_option maxRecDepth 20000 in
theorem ggX3_strike_X3_tickOf : GoodIn wsX3_strike wsX3_tickOf := goodIn_r _ [10] (by decide +kernel) (by decide +kernel)
set_option maxRecDepth 20000 in
theorem gX3_strike_X3_tickOf : GoodIn wsX3_strike (va_wsS RX3 34 yX3_tickOf wsX3_tickOf) := goodIn_app (goodIn_of _ (by decide +kernel)) ggX3_strike_X3_tickOf
set_option maxRecDepth 20000 in
theorem ggX3_strike_X3_removeAt : GoodIn wsX3_strike wsX3_removeAt := goodIn_r _ [14, 1, 7, 15, 16] (by decide +kernel) (by decide +kernel)
set_option maxRecDepth 20000 in
theorem gX3_strike_X3_removeAt : GoodIn wsX3_strike (wsV RX3 37 RX3 yX3_removeAt wsX3_removeAt) := goodIn_app (goodIn_of _ (by decide +kernel)) ggX3_strike_X3_removeAt
set_option maxRecDepth 20000 in
theorem ggX3_append_J7_copyOf_59c91 : GoodIn wsX3_append wsJ7_copyOf_59c91 := goodIn_r _ [11, 12, 13, 14, 15, 16, 17, 18, 19, 5, 6, 7, 20, 21, 22, 23] (by decide +kernel) (by decide +kernel)
set_option maxRecDepth 20000 in
theorem gX3_append_J7_copyOf_59c91 : GoodIn wsX3_append (va_wsS RX3 47 yJ7_copyOf_59c91 wsJ7_copyOf_59c91) := goodIn_app (goodIn_of _ (by decide +kernel)) ggX3_append_J7_copyOf_59c91
set_option maxRecDepth 20000 in
theorem ggX5_countUsable_X5_isUsable : GoodIn wsX5_countUsable wsX5_isUsable := goodIn_r _ [6, 7, 8, 9, 13, 14, 15, 16, 17, 18, 10, 11, 12] (by decide +kernel) (by decide +kernel)
set_option maxRecDepth 20000 in
theorem gX5_countUsable_X5_isUsable : GoodIn wsX5_countUsable (wsV RX5 31 RX5 yX5_isUsable wsX5_isUsable) := goodIn_app (goodIn_of _ (by decide +kernel)) ggX5_countUsable_X5_isUsable
set_option maxRecDepth 20000 in
theorem ggX5_nearestSpare_X5_isUsable : GoodIn wsX5_nearestSpare wsX5_isUsable := goodIn_r _ [7, 8, 9, 10, 32, 33, 34, 35, 36, 37, 29, 30, 31] (by decide +kernel) (by decide +kernel)
set_option maxRecDepth 20000 in
theorem gX5_nearestSpare_X5_isUsable : GoodIn wsX5_nearestSpare (wsV RX5 31 RX5 yX5_isUsable wsX5_isUsable) := goodIn_app (goodIn_of _ (by decide +kernel)) ggX5_nearestSpare_X5_isUsable
set_option maxRecDepth 20000 in
theorem ggX5_nearestSpare_X0_canSpare : GoodIn wsX5_nearestSpare wsX0_canSpare := goodIn_r _ [15, 16, 17, 38, 39, 40, 41, 42, 43, 44, 45, 46] (by decide +kernel) (by decide +kernel)
set_option maxRecDepth 20000 in
theorem gX5_nearestSpare_X0_canSpare : GoodIn wsX5_nearestSpare (wsV RX5 38 RX0 yX0_canSpare wsX0_canSpare) := goodIn_app (goodIn_of _ (by decide +kernel)) ggX5_nearestSpare_X0_canSpare
set_option maxRecDepth 20000 in
theorem ggX5_nearestSpare_X4_distanceTo : GoodIn wsX5_nearestSpare wsX4_distanceTo := goodIn_r _ [22, 23, 24, 25, 26, 27, 28, 32, 33, 34, 35, 36, 37] (by decide +kernel) (by decide +kernel)
set_option maxRecDepth 20000 in
theorem gX5_nearestSpare_X4_distanceTo : GoodIn wsX5_nearestSpare (wsV RX5 44 RX4 yX4_distanceTo wsX4_distanceTo) := goodIn_app (goodIn_of _ (by decide +kernel)) ggX5_nearestSpare_X4_distanceTo
set_option maxRecDepth 20000 in
theorem ggX7_init_X5_init : GoodIn wsX7_init wsX5_init := goodIn_r _ [27, 28, 2, 3, 29, 30, 31, 62, 63, 64] (by decide +kernel) (by decide +kernel)
set_option maxRecDepth 20000 in
theorem gX7_init_X5_init : GoodIn wsX7_init (wsX5_init) := ggX7_init_X5_init
set_option maxRecDepth 20000 in
theorem ggX7_init_J7_fill_53178 : GoodIn wsX7_init wsJ7_fill_53178 := goodIn_r _ [35] (by decide +kernel) (by decide +kernel)
set_option maxRecDepth 20000 in
theorem gX7_init_J7_fill_53178 : GoodIn wsX7_init (va_wsS RX7 26 yJ7_fill_53178 wsJ7_fill_53178) := goodIn_app (goodIn_of _ (by decide +kernel)) ggX7_init_J7_fill_53178
set_option maxRecDepth 20000 in
theorem ggX7_init_X2_init : GoodIn wsX7_init wsX2_init := goodIn_r _ [38, 39, 2, 3, 40, 41, 42, 43, 44, 45, 46, 47, 48, 75, 76, 84, 85, 86] (by decide +kernel) (by decide +kernel)
set_option maxRecDepth 20000 in
theorem gX7_init_X2_init : GoodIn wsX7_init (wsX2_init) := ggX7_init_X2_init
set_option maxRecDepth 20000 in
theorem ggX7_init_X6_init : GoodIn wsX7_init wsX6_init := goodIn_r _ [51, 52, 2, 3, 53, 54, 10, 55, 56, 77, 78, 79, 80, 81] (by decide +kernel) (by decide +kernel)
set_option maxRecDepth 20000 in
theorem gX7_init_X6_init : GoodIn wsX7_init (wsX6_init) := ggX7_init_X6_init
set_option maxRecDepth 20000 in
theorem ggX7_init_X3_init : GoodIn wsX7_init wsX3_init := goodIn_r _ [59, 60, 2, 3, 10, 61, 82, 83] (by decide +kernel) (by decide +kernel)
set_option maxRecDepth 20000 in
theorem gX7_init_X3_init : GoodIn wsX7_init (wsX3_init) := ggX7_init_X3_init
set_option maxRecDepth 20000 in
theorem ggX7_lamp_X7_isWithin : GoodIn wsX7_lamp wsX7_isWithin := goodIn_r _ [12] (by decide +kernel) (by decide +kernel)
set_option maxRecDepth 20000 in
theorem gX7_lamp_X7_isWithin : GoodIn wsX7_lamp (va_wsS RX7 56 yX7_isWithin wsX7_isWithin) := goodIn_app (goodIn_of _ (by decide +kernel)) ggX7_lamp_X7_isWithin
set_option maxRecDepth 20000 in
theorem ggX7_lamp_X7_isGel : GoodIn wsX7_lamp wsX7_isGel := goodIn_r _ [15] (by decide +kernel) (by decide +kernel)
set_option maxRecDepth 20000 in
theorem gX7_lamp_X7_isGel : GoodIn wsX7_lamp (va_wsS RX7 60 yX7_isGel wsX7_isGel) := goodIn_app (goodIn_of _ (by decide +kernel)) ggX7_lamp_X7_isGel
set_option maxRecDepth 20000 in
theorem ggX7_lamp_X7_isPhase : GoodIn wsX7_lamp wsX7_isPhase := goodIn_r _ [18, 9, 10, 11, 12] (by decide +kernel) (by decide +kernel)
set_option maxRecDepth 20000 in
theorem gX7_lamp_X7_isPhase : GoodIn wsX7_lamp (va_wsS RX7 64 yX7_isPhase wsX7_isPhase) := goodIn_app (goodIn_of _ (by decide +kernel)) ggX7_lamp_X7_isPhase
set_option maxRecDepth 20000 in
theorem ggX7_lamp_X5_isFull : GoodIn wsX7_lamp wsX5_isFull := goodIn_r _ [23, 24, 25, 103, 104, 105] (by decide +kernel) (by decide +kernel)
set_option maxRecDepth 20000 in
theorem gX7_lamp_X5_isFull : GoodIn wsX7_lamp (wsV RX7 74 RX5 yX5_isFull wsX5_isFull) := goodIn_app (goodIn_of _ (by decide +kernel)) ggX7_lamp_X5_isFull
set_option maxRecDepth 20000 in
theorem ggX7_lamp_X4_init : GoodIn wsX7_lamp wsX4_init := goodIn_r _ [28, 29, 30, 31, 32, 33, 34, 35, 36, 97, 98, 99, 100, 101, 102] (by decide +kernel) (by decide +kernel)
set_option maxRecDepth 20000 in
theorem gX7_lamp_X4_init : GoodIn wsX7_lamp (wsX4_init) := ggX7_lamp_X4_init
set_option maxRecDepth 20000 in
theorem ggX7_lamp_X5_hang : GoodIn wsX7_lamp wsX5_hang := goodIn_r _ [40, 24, 25, 103, 104, 105] (by decide +kernel) (by decide +kernel)
set_option maxRecDepth 20000 in
theorem gX7_lamp_X5_hang : GoodIn wsX7_lamp (wsV RX7 88 RX5 yX5_hang wsX5_hang) := goodIn_app (goodIn_of _ (by decide +kernel)) ggX7_lamp_X5_hang
set_option maxRecDepth 20000 in
theorem ggX7_lamp_X7_arrangeCues : GoodIn wsX7_lamp wsX7_arrangeCues := goodIn_r _ [44, 45, 5, 46, 47, 48, 49, 50, 51, 52, 53, 54, 55, 56, 57, 58, 59, 60, 22, 61, 25, 62, 63, 64, 65, 66, 67, 68, 69, 70, 71, 72, 73, 74, 75, 76, 77, 78, 79, 80, 81, 8, 82, 32, 83, 84, 85, 86, 33, 87, 88, 89, 90, 91, 92, 93, 94, 95, 96, 106, 107, 108, 109, 110, 111, 112, 113, 114, 103, 104, 105, 97, 98, 99, 100, 101, 102] (by decide +kernel) (by decide +kernel)
set_option maxRecDepth 20000 in
theorem gX7_lamp_X7_arrangeCues : GoodIn wsX7_lamp (wsV RX7 92 RX7 yX7_arrangeCues wsX7_arrangeCues) := goodIn_app (goodIn_of _ (by decide +kernel)) ggX7_lamp_X7_arrangeCues
set_option maxRecDepth 20000 in
theorem ggX7_die_X5_lampAt : GoodIn wsX7_die wsX5_lampAt := goodIn_r _ [9, 10, 74, 75, 76] (by decide +kernel) (by decide +kernel)
set_option maxRecDepth 20000 in
theorem gX7_die_X5_lampAt : GoodIn wsX7_die (wsV RX7 95 RX5 yX5_lampAt wsX5_lampAt) := goodIn_app (goodIn_of _ (by decide +kernel)) ggX7_die_X5_lampAt
set_option maxRecDepth 20000 in
theorem ggX7_die_X7_arrangeCues : GoodIn wsX7_die wsX7_arrangeCues := goodIn_r _ [15, 16, 3, 17, 18, 19, 20, 21, 22, 23, 24, 25, 26, 27, 28, 29, 6, 7, 8, 9, 10, 30, 31, 32, 33, 34, 35, 36, 37, 38, 39, 40, 41, 42, 43, 44, 45, 46, 47, 48, 49, 50, 51, 52, 53, 54, 55, 56, 57, 58, 59, 60, 61, 62, 63, 64, 65, 66, 67, 77, 78, 79, 80, 81, 82, 83, 84, 85, 74, 75, 76, 68, 69, 70, 71, 72, 73] (by decide +kernel) (by decide +kernel)
set_option maxRecDepth 20000 in
theorem gX7_die_X7_arrangeCues : GoodIn wsX7_die (wsV RX7 92 RX7 yX7_arrangeCues wsX7_arrangeCues) := goodIn_app (goodIn_of _ (by decide +kernel)) ggX7_die_X7_arrangeCues
set_option maxRecDepth 20000 in
theorem ggX7_house_X7_isWithin : GoodIn wsX7_house wsX7_isWithin := goodIn_r _ [8] (by decide +kernel) (by decide +kernel)
set_option maxRecDepth 20000 in
theorem gX7_house_X7_isWithin : GoodIn wsX7_house (va_wsS RX7 56 yX7_isWithin wsX7_isWithin) := goodIn_app (goodIn_of _ (by decide +kernel)) ggX7_house_X7_isWithin
set_option maxRecDepth 20000 in
theorem ggX7_house_X7_arrangeCues : GoodIn wsX7_house wsX7_arrangeCues := goodIn_r _ [12, 13, 3, 14, 15, 16, 17, 18, 19, 20, 21, 22, 23, 24, 25, 26, 27, 28, 29, 30, 31, 32, 33, 34, 35, 36, 37, 38, 39, 40, 41, 42, 43, 44, 45, 46, 47, 48, 49, 50, 51, 52, 53, 54, 55, 56, 57, 58, 59, 64, 65, 66, 67, 68, 69, 70, 71, 72, 73, 77, 78, 79, 80, 81, 82, 83, 84, 85, 74, 75, 76, 86, 87, 88, 89, 90, 91] (by decide +kernel) (by decide +kernel)
set_option maxRecDepth 20000 in
theorem gX7_house_X7_arrangeCues : GoodIn wsX7_house (wsV RX7 92 RX7 yX7_arrangeCues wsX7_arrangeCues) := goodIn_app (goodIn_of _ (by decide +kernel)) ggX7_house_X7_arrangeCues
set_option maxRecDepth 20000 in
theorem ggX7_house_X5_countUsable : GoodIn wsX7_house wsX5_countUsable := goodIn_r _ [63, 31, 44, 33, 34, 29, 35, 36, 37, 38, 74, 75, 76, 86, 87, 88, 89, 90, 91] (by decide +kernel) (by decide +kernel)
set_option maxRecDepth 20000 in
theorem gX7_house_X5_countUsable : GoodIn wsX7_house (wsV RX7 114 RX5 yX5_countUsable wsX5_countUsable) := goodIn_app (goodIn_of _ (by decide +kernel)) ggX7_house_X5_countUsable
set_option maxRecDepth 20000 in
theorem ggX7_power_X7_isPhase : GoodIn wsX7_power wsX7_isPhase := goodIn_r _ [9, 10, 11, 8, 12] (by decide +kernel) (by decide +kernel)
set_option maxRecDepth 20000 in
theorem gX7_power_X7_isPhase : GoodIn wsX7_power (va_wsS RX7 64 yX7_isPhase wsX7_isPhase) := goodIn_app (goodIn_of _ (by decide +kernel)) ggX7_power_X7_isPhase
set_option maxRecDepth 20000 in
theorem ggX7_power_X7_isWithin : GoodIn wsX7_power wsX7_isWithin := goodIn_r _ [12] (by decide +kernel) (by decide +kernel)
set_option maxRecDepth 20000 in
theorem gX7_power_X7_isWithin : GoodIn wsX7_power (va_wsS RX7 56 yX7_isWithin wsX7_isWithin) := goodIn_app (goodIn_of _ (by decide +kernel)) ggX7_power_X7_isWithin
set_option maxRecDepth 20000 in
theorem ggX7_cue_X7_isWithin : GoodIn wsX7_cue wsX7_isWithin := goodIn_r _ [13] (by decide +kernel) (by decide +kernel)
set_option maxRecDepth 20000 in
theorem gX7_cue_X7_isWithin : GoodIn wsX7_cue (va_wsS RX7 56 yX7_isWithin wsX7_isWithin) := goodIn_app (goodIn_of _ (by decide +kernel)) ggX7_cue_X7_isWithin
set_option maxRecDepth 20000 in
theorem ggX7_cue_X0_init : GoodIn wsX7_cue wsX0_init := goodIn_r _ [16, 17, 18, 19, 20, 21, 22, 23, 24, 25, 26, 27, 28, 29, 30, 31, 42, 43, 44, 45, 46, 47, 48, 49, 50] (by decide +kernel) (by decide +kernel)
set_option maxRecDepth 20000 in
theorem gX7_cue_X0_init : GoodIn wsX7_cue (wsX0_init) := ggX7_cue_X0_init
set_option maxRecDepth 20000 in
theorem ggX7_level_X7_cueAt : GoodIn wsX7_level wsX7_cueAt := goodIn_r _ [10, 11, 66, 67, 68, 69, 70, 71, 72, 73, 74, 75] (by decide +kernel) (by decide +kernel)
set_option maxRecDepth 20000 in
theorem gX7_level_X7_cueAt : GoodIn wsX7_level (wsV RX7 132 RX7 yX7_cueAt wsX7_cueAt) := goodIn_app (goodIn_of _ (by decide +kernel)) ggX7_level_X7_cueAt
set_option maxRecDepth 20000 in
theorem ggX7_level_X5_lampAt : GoodIn wsX7_level wsX5_lampAt := goodIn_r _ [16, 17, 76, 77, 78] (by decide +kernel) (by decide +kernel)
set_option maxRecDepth 20000 in
theorem gX7_level_X5_lampAt : GoodIn wsX7_level (wsV RX7 95 RX5 yX5_lampAt wsX5_lampAt) := goodIn_app (goodIn_of _ (by decide +kernel)) ggX7_level_X5_lampAt
set_option maxRecDepth 20000 in
theorem ggX7_level_X7_isWithin : GoodIn wsX7_level wsX7_isWithin := goodIn_r _ [20] (by decide +kernel) (by decide +kernel)
set_option maxRecDepth 20000 in
theorem gX7_level_X7_isWithin : GoodIn wsX7_level (va_wsS RX7 56 yX7_isWithin wsX7_isWithin) := goodIn_app (goodIn_of _ (by decide +kernel)) ggX7_level_X7_isWithin
set_option maxRecDepth 20000 in
theorem ggX7_level_X0_tell : GoodIn wsX7_level wsX0_tell := goodIn_r _ [25, 26, 79, 80, 81, 82, 83, 84, 85, 86, 87] (by decide +kernel) (by decide +kernel)
set_option maxRecDepth 20000 in
theorem gX7_level_X0_tell : GoodIn wsX7_level (wsV RX7 140 RX0 yX0_tell wsX0_tell) := goodIn_app (goodIn_of _ (by decide +kernel)) ggX7_level_X0_tell
set_option maxRecDepth 20000 in
theorem ggX7_level_X0_arrange : GoodIn wsX7_level wsX0_arrange := goodIn_r _ [30, 31, 32, 26, 33, 34, 35, 36, 37, 13, 14, 15, 16, 17, 38, 39, 40, 41, 42, 43, 44, 45, 46, 47, 48, 49, 50, 51, 52, 53, 24, 54, 55, 56, 57, 58, 59, 60, 61, 62, 63, 64, 65, 79, 80, 81, 82, 83, 84, 85, 86, 87, 76, 77, 78, 88, 89, 90, 91, 92, 93] (by decide +kernel) (by decide +kernel)
set_option maxRecDepth 20000 in
theorem gX7_level_X0_arrange : GoodIn wsX7_level (wsV RX7 144 RX0 yX0_arrange wsX0_arrange) := goodIn_app (goodIn_of _ (by decide +kernel)) ggX7_level_X0_arrange
set_option maxRecDepth 20000 in
theorem ggX7_follow_X7_cueAt : GoodIn wsX7_follow wsX7_cueAt := goodIn_r _ [12, 13, 26, 27, 28, 29, 30, 31, 32, 33, 34, 35] (by decide +kernel) (by decide +kernel)
set_option maxRecDepth 20000 in
theorem gX7_follow_X7_cueAt : GoodIn wsX7_follow (wsV RX7 132 RX7 yX7_cueAt wsX7_cueAt) := goodIn_app (goodIn_of _ (by decide +kernel)) ggX7_follow_X7_cueAt
set_option maxRecDepth 20000 in
theorem ggX7_follow_X7_isWithin : GoodIn wsX7_follow wsX7_isWithin := goodIn_r _ [16] (by decide +kernel) (by decide +kernel)
set_option maxRecDepth 20000 in
theorem gX7_follow_X7_isWithin : GoodIn wsX7_follow (va_wsS RX7 56 yX7_isWithin wsX7_isWithin) := goodIn_app (goodIn_of _ (by decide +kernel)) ggX7_follow_X7_isWithin
set_option maxRecDepth 20000 in
theorem ggX7_go_X7_cueAt : GoodIn wsX7_go wsX7_cueAt := goodIn_r _ [11, 12, 150, 151, 152, 153, 154, 155, 156, 157, 158, 159] (by decide +kernel) (by decide +kernel)
set_option maxRecDepth 20000 in
theorem gX7_go_X7_cueAt : GoodIn wsX7_go (wsV RX7 132 RX7 yX7_cueAt wsX7_cueAt) := goodIn_app (goodIn_of _ (by decide +kernel)) ggX7_go_X7_cueAt
set_option maxRecDepth 20000 in
theorem ggX7_go_X7_canGo : GoodIn wsX7_go wsX7_canGo := goodIn_r _ [16, 17, 18, 19, 20, 10, 21, 22, 23, 24, 5, 25, 26, 27, 28, 29, 30, 31, 32, 33, 34, 35, 36, 37, 38, 39, 40, 41, 42, 43, 44, 45, 46, 47, 48, 49, 50, 51, 52, 53, 54, 55, 56, 57, 58, 59, 60, 61, 62, 63, 64, 150, 151, 152, 153, 154, 155, 156, 157, 158, 159, 162, 163, 164, 165, 166, 167, 168, 169, 170, 171, 172, 173, 174, 175, 176, 177, 178, 179, 160, 161, 180, 181, 182] (by decide +kernel) (by decide +kernel)
set_option maxRecDepth 20000 in
theorem gX7_go_X7_canGo : GoodIn wsX7_go (wsV RX7 162 RX7 yX7_canGo wsX7_canGo) := goodIn_app (goodIn_of _ (by decide +kernel)) ggX7_go_X7_canGo
set_option maxRecDepth 20000 in
theorem ggX7_go_X7_begin : GoodIn wsX7_go wsX7_begin := goodIn_r _ [68, 5, 69, 70, 71, 72, 73, 74, 75, 76, 77, 44, 78, 46, 52, 79, 80, 81, 82, 83, 48, 49, 50, 51, 84, 85, 86, 87, 88, 89, 90, 56, 91, 63, 92, 58, 93, 94, 95, 96, 97, 98, 99, 100, 101, 102, 103, 104, 105, 106, 107, 108, 109, 110, 111, 112, 113, 114, 115, 116, 117, 118, 119, 120, 121, 122, 123, 124, 27, 125, 126, 127, 128, 129, 130, 131, 132, 133, 134, 135, 136, 137, 138, 139, 140, 141, 142, 143, 144, 145, 146, 147, 148, 149, 150, 151, 152, 153, 154, 155, 156, 157, 158, 159, 171, 172, 173, 174, 175, 176, 177, 178, 179, 160, 161, 180, 181, 182, 183, 184, 185, 186, 187, 188, 189] (by decide +kernel) (by decide +kernel)
set_option maxRecDepth 20000 in
theorem gX7_go_X7_begin : GoodIn wsX7_go (wsV RX7 168 RX7 yX7_begin wsX7_begin) := goodIn_app (goodIn_of _ (by decide +kernel)) ggX7_go_X7_begin
set_option maxRecDepth 20000 in
theorem ggX7_release_X7_cueAt : GoodIn wsX7_release wsX7_cueAt := goodIn_r _ [13, 14, 91, 92, 93, 94, 95, 96, 97, 98, 99, 100] (by decide +kernel) (by decide +kernel)
set_option maxRecDepth 20000 in
theorem gX7_release_X7_cueAt : GoodIn wsX7_release (wsV RX7 132 RX7 yX7_cueAt wsX7_cueAt) := goodIn_app (goodIn_of _ (by decide +kernel)) ggX7_release_X7_cueAt
set_option maxRecDepth 20000 in
theorem ggX7_release_X2_goingOf : GoodIn wsX7_release wsX2_goingOf := goodIn_r _ [19, 20, 21, 22, 18, 23, 24, 25, 26, 27, 28, 29, 30, 110, 111, 112, 113, 114] (by decide +kernel) (by decide +kernel)
set_option maxRecDepth 20000 in
theorem gX7_release_X2_goingOf : GoodIn wsX7_release (wsV RX7 175 RX2 yX2_goingOf wsX2_goingOf) := goodIn_app (goodIn_of _ (by decide +kernel)) ggX7_release_X2_goingOf
set_option maxRecDepth 20000 in
theorem ggX7_release_X1_isReleased : GoodIn wsX7_release wsX1_isReleased := goodIn_r _ [35, 36, 112, 113, 114] (by decide +kernel) (by decide +kernel)
set_option maxRecDepth 20000 in
theorem gX7_release_X1_isReleased : GoodIn wsX7_release (wsV RX7 179 RX1 yX1_isReleased wsX1_isReleased) := goodIn_app (goodIn_of _ (by decide +kernel)) ggX7_release_X1_isReleased
set_option maxRecDepth 20000 in
theorem ggX7_release_X1_fall : GoodIn wsX7_release wsX1_fall := goodIn_r _ [40, 36, 112, 113, 114] (by decide +kernel) (by decide +kernel)
set_option maxRecDepth 20000 in
theorem gX7_release_X1_fall : GoodIn wsX7_release (wsV RX7 189 RX1 yX1_fall wsX1_fall) := goodIn_app (goodIn_of _ (by decide +kernel)) ggX7_release_X1_fall
set_option maxRecDepth 20000 in
theorem ggX7_release_X3_writeRelease : GoodIn wsX7_release wsX3_writeRelease := goodIn_r _ [45, 46, 47, 44, 48, 49, 50, 51, 52, 53, 54, 55, 56, 57, 58, 59, 60, 61, 62, 63, 64, 65, 66, 67, 68, 69, 70, 71, 72, 73, 74, 75, 115, 116] (by decide +kernel) (by decide +kernel)
set_option maxRecDepth 20000 in
theorem gX7_release_X3_writeRelease : GoodIn wsX7_release (wsV RX7 193 RX3 yX3_writeRelease wsX3_writeRelease) := goodIn_app (goodIn_of _ (by decide +kernel)) ggX7_release_X3_writeRelease
set_option maxRecDepth 20000 in
theorem ggX7_release_X2_dropOver : GoodIn wsX7_release wsX2_dropOver := goodIn_r _ [79, 24, 26, 27, 28, 18, 29, 30, 80, 81, 82, 34, 83, 84, 36, 85, 86, 32, 33, 35, 87, 88, 89, 90, 110, 111, 112, 113, 114, 101, 102, 103, 104, 105, 106, 107, 108, 109] (by decide +kernel) (by decide +kernel)
set_option maxRecDepth 20000 in
theorem gX7_release_X2_dropOver : GoodIn wsX7_release (wsV RX7 197 RX2 yX2_dropOver wsX2_dropOver) := goodIn_app (goodIn_of _ (by decide +kernel)) ggX7_release_X2_dropOver
set_option maxRecDepth 20000 in
theorem ggX7_pass_X7_isWithin : GoodIn wsX7_pass wsX7_isWithin := goodIn_r _ [7] (by decide +kernel) (by decide +kernel)
set_option maxRecDepth 20000 in
theorem gX7_pass_X7_isWithin : GoodIn wsX7_pass (va_wsS RX7 56 yX7_isWithin wsX7_isWithin) := goodIn_app (goodIn_of _ (by decide +kernel)) ggX7_pass_X7_isWithin
set_option maxRecDepth 20000 in
theorem ggX7_pass_X7_passOne : GoodIn wsX7_pass wsX7_passOne := goodIn_r _ [11, 3, 12, 13, 14, 15, 16, 17, 18, 19, 20, 21, 22, 23, 24, 25, 26, 27, 28, 29, 30, 31, 32, 33, 34, 35, 36, 37, 38, 39, 40, 41, 42, 43, 44, 45, 46, 47, 48, 49, 50, 51, 52, 53, 54, 55, 56, 57, 58, 59, 6, 60, 61, 62, 63, 64, 65, 66, 67, 68, 69, 70, 71, 72, 73, 74, 75, 76, 77, 78, 79, 80, 81, 82, 83, 84, 85, 86, 87, 88, 89, 90, 91, 92, 93, 94, 95, 96, 97, 98, 99, 100, 101, 102, 103, 104, 105, 106, 107, 108, 109, 110, 111, 112, 113, 114, 115, 116, 117, 118, 119, 120, 121, 122, 123, 124, 125, 126, 127, 128, 129, 130, 131, 132, 133, 134, 135, 136, 137, 138, 139, 140, 141, 142, 143, 144, 145, 146, 147, 148, 149, 150, 151, 152, 153, 154, 155, 156, 157, 158, 159, 160, 161, 162, 163, 164, 165, 166, 167, 168, 169, 170, 171, 172, 173, 174, 175, 176, 177, 178, 179, 180, 181, 182, 183, 184, 185, 186, 187, 188, 189, 190, 191, 192, 193, 194, 195, 196, 197, 198, 199, 200, 201, 202, 203, 204, 205, 206, 207, 208, 209, 210] (by decide +kernel) (by decide +kernel)
set_option maxRecDepth 20000 in
theorem gX7_pass_X7_passOne : GoodIn wsX7_pass (wsV RX7 200 RX7 yX7_passOne wsX7_passOne) := goodIn_app (goodIn_of _ (by decide +kernel)) ggX7_pass_X7_passOne
set_option maxRecDepth 20000 in
theorem ggX7_levelOf_X5_lampAt : GoodIn wsX7_levelOf wsX5_lampAt := goodIn_r _ [10, 11, 71, 72, 73] (by decide +kernel) (by decide +kernel)
set_option maxRecDepth 20000 in
theorem gX7_levelOf_X5_lampAt : GoodIn wsX7_levelOf (wsV RX7 95 RX5 yX5_lampAt wsX5_lampAt) := goodIn_app (goodIn_of _ (by decide +kernel)) ggX7_levelOf_X5_lampAt
set_option maxRecDepth 20000 in
theorem ggX7_levelOf_X2_mix : GoodIn wsX7_levelOf wsX2_mix := goodIn_r _ [16, 17, 18, 19, 20, 15, 21, 22, 23, 24, 25, 26, 27, 28, 29, 30, 31, 32, 33, 34, 35, 36, 37, 38, 39, 40, 41, 42, 43, 44, 45, 46, 47, 48, 49, 50, 51, 52, 53, 54, 55, 74, 75, 76, 77, 78, 79, 80, 81, 82, 83, 84, 85, 86, 87] (by decide +kernel) (by decide +kernel)
set_option maxRecDepth 20000 in
theorem gX7_levelOf_X2_mix : GoodIn wsX7_levelOf (wsV RX7 203 RX2 yX2_mix wsX2_mix) := goodIn_app (goodIn_of _ (by decide +kernel)) ggX7_levelOf_X2_mix
set_option maxRecDepth 20000 in
theorem ggX7_levelOf_X7_bitsOf : GoodIn wsX7_levelOf wsX7_bitsOf := goodIn_r _ [59, 60] (by decide +kernel) (by decide +kernel)
set_option maxRecDepth 20000 in
theorem gX7_levelOf_X7_bitsOf : GoodIn wsX7_levelOf (va_wsS RX7 207 yX7_bitsOf wsX7_bitsOf) := goodIn_app (goodIn_of _ (by decide +kernel)) ggX7_levelOf_X7_bitsOf
set_option maxRecDepth 20000 in
theorem ggX7_levelAnew_X5_lampAt : GoodIn wsX7_levelAnew wsX5_lampAt := goodIn_r _ [10, 11, 138, 139, 140] (by decide +kernel) (by decide +kernel)
set_option maxRecDepth 20000 in
theorem gX7_levelAnew_X5_lampAt : GoodIn wsX7_levelAnew (wsV RX7 95 RX5 yX5_lampAt wsX5_lampAt) := goodIn_app (goodIn_of _ (by decide +kernel)) ggX7_levelAnew_X5_lampAt
set_option maxRecDepth 20000 in
theorem ggX7_levelAnew_X7_retell : GoodIn wsX7_levelAnew wsX7_retell := goodIn_r _ [16, 4, 17, 18, 5, 19, 20, 21, 22, 23, 24, 25, 26, 27, 28, 29, 30, 31, 32, 33, 34, 35, 36, 15, 37, 38, 39, 40, 41, 42, 43, 44, 45, 46, 47, 48, 49, 50, 51, 52, 53, 54, 55, 56, 57, 58, 59, 60, 61, 62, 63, 64, 65, 66, 67, 68, 69, 70, 71, 72, 73, 74, 75, 76, 77, 78, 79, 80, 81, 82, 83, 84, 85, 86, 87, 88, 89, 90, 91, 92, 93, 94, 95, 128, 129, 130, 131, 132, 133, 134, 135, 136, 137, 141, 142, 143, 144, 145, 146, 147, 148, 149, 150, 151, 152, 153, 154, 155, 156] (by decide +kernel) (by decide +kernel)
set_option maxRecDepth 20000 in
theorem gX7_levelAnew_X7_retell : GoodIn wsX7_levelAnew (wsV RX7 211 RX7 yX7_retell wsX7_retell) := goodIn_app (goodIn_of _ (by decide +kernel)) ggX7_levelAnew_X7_retell
set_option maxRecDepth 20000 in
theorem ggX7_levelAnew_X2_mix : GoodIn wsX7_levelAnew wsX2_mix := goodIn_r _ [99, 24, 58, 59, 60, 22, 61, 62, 100, 101, 102, 66, 103, 81, 104, 105, 106, 107, 108, 109, 110, 111, 112, 113, 114, 115, 116, 117, 118, 82, 91, 68, 92, 93, 94, 95, 119, 120, 121, 122, 123, 143, 144, 145, 146, 147, 148, 149, 150, 151, 152, 153, 154, 155, 156] (by decide +kernel) (by decide +kernel)
set_option maxRecDepth 20000 in
theorem gX7_levelAnew_X2_mix : GoodIn wsX7_levelAnew (wsV RX7 203 RX2 yX2_mix wsX2_mix) := goodIn_app (goodIn_of _ (by decide +kernel)) ggX7_levelAnew_X2_mix
set_option maxRecDepth 20000 in
theorem ggX7_levelAnew_X7_bitsOf : GoodIn wsX7_levelAnew wsX7_bitsOf := goodIn_r _ [126, 127] (by decide +kernel) (by decide +kernel)
set_option maxRecDepth 20000 in
theorem gX7_levelAnew_X7_bitsOf : GoodIn wsX7_levelAnew (va_wsS RX7 207 yX7_bitsOf wsX7_bitsOf) := goodIn_app (goodIn_of _ (by decide +kernel)) ggX7_levelAnew_X7_bitsOf
set_option maxRecDepth 20000 in
theorem ggX7_loadOf_X7_isPhase : GoodIn wsX7_loadOf wsX7_isPhase := goodIn_r _ [6, 7, 8, 5, 9] (by decide +kernel) (by decide +kernel)
set_option maxRecDepth 20000 in
theorem gX7_loadOf_X7_isPhase : GoodIn wsX7_loadOf (va_wsS RX7 64 yX7_isPhase wsX7_isPhase) := goodIn_app (goodIn_of _ (by decide +kernel)) ggX7_loadOf_X7_isPhase
set_option maxRecDepth 20000 in
theorem ggX7_loadOf_X7_loadNow : GoodIn wsX7_loadOf wsX7_loadNow := goodIn_r _ [13, 14, 15, 16, 17, 18, 19, 20, 21, 22, 23, 24, 25, 26, 27, 28, 29, 30, 31, 32, 33, 34, 35, 36, 37, 38, 39, 40, 41, 42, 43, 44, 45, 46, 47, 48, 49, 50, 51, 52, 53, 54, 55, 56, 57, 58, 59, 60, 61, 62, 63, 64, 65, 66, 67, 68, 69, 74, 75, 76, 77, 78, 79, 80, 81, 82, 83, 84, 85, 86, 87, 88, 89, 90, 91, 92, 93, 94, 95, 96, 97, 98, 99, 100, 101, 102, 103, 104, 105, 106] (by decide +kernel) (by decide +kernel)
set_option maxRecDepth 20000 in
theorem gX7_loadOf_X7_loadNow : GoodIn wsX7_loadOf (wsV RX7 214 RX7 yX7_loadNow wsX7_loadNow) := goodIn_app (goodIn_of _ (by decide +kernel)) ggX7_loadOf_X7_loadNow
set_option maxRecDepth 20000 in
theorem ggX7_loadOf_X7_bitsOf : GoodIn wsX7_loadOf wsX7_bitsOf := goodIn_r _ [72, 73] (by decide +kernel) (by decide +kernel)
set_option maxRecDepth 20000 in
theorem gX7_loadOf_X7_bitsOf : GoodIn wsX7_loadOf (va_wsS RX7 207 yX7_bitsOf wsX7_bitsOf) := goodIn_app (goodIn_of _ (by decide +kernel)) ggX7_loadOf_X7_bitsOf
set_option maxRecDepth 20000 in
theorem ggX7_watts_X7_isPhase : GoodIn wsX7_watts wsX7_isPhase := goodIn_r _ [6, 7, 8, 5, 9] (by decide +kernel) (by decide +kernel)
set_option maxRecDepth 20000 in
theorem gX7_watts_X7_isPhase : GoodIn wsX7_watts (va_wsS RX7 64 yX7_isPhase wsX7_isPhase) := goodIn_app (goodIn_of _ (by decide +kernel)) ggX7_watts_X7_isPhase
set_option maxRecDepth 20000 in
theorem ggX7_watts_X7_loadNow : GoodIn wsX7_watts wsX7_loadNow := goodIn_r _ [13, 14, 15, 16, 17, 18, 19, 20, 21, 22, 23, 24, 25, 26, 27, 28, 29, 30, 31, 32, 33, 34, 35, 36, 37, 38, 39, 40, 41, 42, 43, 44, 45, 46, 47, 48, 49, 50, 51, 52, 53, 54, 55, 56, 57, 58, 59, 60, 61, 62, 63, 64, 65, 66, 67, 68, 69, 70, 71, 72, 73, 74, 75, 76, 77, 78, 79, 80, 81, 82, 83, 84, 85, 86, 87, 88, 89, 90, 91, 92, 93, 94, 95, 96, 97, 98, 99, 100, 101, 102] (by decide +kernel) (by decide +kernel)
set_option maxRecDepth 20000 in
theorem gX7_watts_X7_loadNow : GoodIn wsX7_watts (wsV RX7 214 RX7 yX7_loadNow wsX7_loadNow) := goodIn_app (goodIn_of _ (by decide +kernel)) ggX7_watts_X7_loadNow
set_option maxRecDepth 20000 in
theorem ggX7_asks_X7_cueAt : GoodIn wsX7_asks wsX7_cueAt := goodIn_r _ [7, 8, 63, 64, 65, 66, 67, 68, 69, 70, 71, 72] (by decide +kernel) (by decide +kernel)
set_option maxRecDepth 20000 in
theorem gX7_asks_X7_cueAt : GoodIn wsX7_asks (wsV RX7 132 RX7 yX7_cueAt wsX7_cueAt) := goodIn_app (goodIn_of _ (by decide +kernel)) ggX7_asks_X7_cueAt
set_option maxRecDepth 20000 in
theorem ggX7_asks_X7_isPhase : GoodIn wsX7_asks wsX7_isPhase := goodIn_r _ [11, 12, 13, 6, 14] (by decide +kernel) (by decide +kernel)
set_option maxRecDepth 20000 in
theorem gX7_asks_X7_isPhase : GoodIn wsX7_asks (va_wsS RX7 64 yX7_isPhase wsX7_isPhase) := goodIn_app (goodIn_of _ (by decide +kernel)) ggX7_asks_X7_isPhase
set_option maxRecDepth 20000 in
theorem ggX7_asks_X7_wattsAsked : GoodIn wsX7_asks wsX7_wattsAsked := goodIn_r _ [18, 19, 20, 21, 22, 23, 24, 25, 26, 27, 28, 29, 30, 31, 32, 33, 34, 35, 36, 37, 38, 39, 40, 41, 42, 43, 44, 45, 46, 47, 48, 49, 50, 51, 52, 53, 54, 55, 56, 57, 58, 59, 60, 61, 62, 63, 64, 65, 66, 67, 68, 69, 70, 71, 72, 73, 74, 75, 76, 77, 78, 79, 80, 81, 82, 83, 84, 85, 86, 87, 88, 89, 90, 91, 92, 93, 94, 95] (by decide +kernel) (by decide +kernel)
set_option maxRecDepth 20000 in
theorem gX7_asks_X7_wattsAsked : GoodIn wsX7_asks (wsV RX7 220 RX7 yX7_wattsAsked wsX7_wattsAsked) := goodIn_app (goodIn_of _ (by decide +kernel)) ggX7_asks_X7_wattsAsked
set_option maxRecDepth 20000 in
theorem ggX7_shines_X7_cueAt : GoodIn wsX7_shines wsX7_cueAt := goodIn_r _ [8, 9, 22, 23, 24, 25, 26, 27, 28, 29, 30, 31] (by decide +kernel) (by decide +kernel)
set_option maxRecDepth 20000 in
theorem gX7_shines_X7_cueAt : GoodIn wsX7_shines (wsV RX7 132 RX7 yX7_cueAt wsX7_cueAt) := goodIn_app (goodIn_of _ (by decide +kernel)) ggX7_shines_X7_cueAt
set_option maxRecDepth 20000 in
theorem ggX7_shines_X5_lampAt : GoodIn wsX7_shines wsX5_lampAt := goodIn_r _ [14, 15, 32, 33, 34] (by decide +kernel) (by decide +kernel)
set_option maxRecDepth 20000 in
theorem gX7_shines_X5_lampAt : GoodIn wsX7_shines (wsV RX7 95 RX5 yX5_lampAt wsX5_lampAt) := goodIn_app (goodIn_of _ (by decide +kernel)) ggX7_shines_X5_lampAt
set_option maxRecDepth 20000 in
theorem ggX7_shines_X0_shinerFor : GoodIn wsX7_shines wsX0_shinerFor := goodIn_r _ [20, 21, 35, 36, 37, 38, 39, 40, 41, 42, 43] (by decide +kernel) (by decide +kernel)
set_option maxRecDepth 20000 in
theorem gX7_shines_X0_shinerFor : GoodIn wsX7_shines (wsV RX7 224 RX0 yX0_shinerFor wsX0_shinerFor) := goodIn_app (goodIn_of _ (by decide +kernel)) ggX7_shines_X0_shinerFor
set_option maxRecDepth 20000 in
theorem ggX7_playing_X7_cueAt : GoodIn wsX7_playing wsX7_cueAt := goodIn_r _ [12, 13, 57, 58, 59, 60, 61, 62, 63, 64, 65, 66] (by decide +kernel) (by decide +kernel)
set_option maxRecDepth 20000 in
theorem gX7_playing_X7_cueAt : GoodIn wsX7_playing (wsV RX7 132 RX7 yX7_cueAt wsX7_cueAt) := goodIn_app (goodIn_of _ (by decide +kernel)) ggX7_playing_X7_cueAt
set_option maxRecDepth 20000 in
theorem ggX7_playing_X7_isWithin : GoodIn wsX7_playing wsX7_isWithin := goodIn_r _ [16] (by decide +kernel) (by decide +kernel)
set_option maxRecDepth 20000 in
theorem gX7_playing_X7_isWithin : GoodIn wsX7_playing (va_wsS RX7 56 yX7_isWithin wsX7_isWithin) := goodIn_app (goodIn_of _ (by decide +kernel)) ggX7_playing_X7_isWithin
set_option maxRecDepth 20000 in
theorem ggX7_playing_X2_goingOf : GoodIn wsX7_playing wsX2_goingOf := goodIn_r _ [21, 22, 23, 24, 20, 25, 26, 27, 28, 29, 30, 31, 32, 70, 71, 67, 68, 69] (by decide +kernel) (by decide +kernel)
set_option maxRecDepth 20000 in
theorem gX7_playing_X2_goingOf : GoodIn wsX7_playing (wsV RX7 175 RX2 yX2_goingOf wsX2_goingOf) := goodIn_app (goodIn_of _ (by decide +kernel)) ggX7_playing_X2_goingOf
set_option maxRecDepth 20000 in
theorem ggX7_playing_X1_isReleased : GoodIn wsX7_playing wsX1_isReleased := goodIn_r _ [37, 38, 67, 68, 69] (by decide +kernel) (by decide +kernel)
set_option maxRecDepth 20000 in
theorem gX7_playing_X1_isReleased : GoodIn wsX7_playing (wsV RX7 179 RX1 yX1_isReleased wsX1_isReleased) := goodIn_app (goodIn_of _ (by decide +kernel)) ggX7_playing_X1_isReleased
set_option maxRecDepth 20000 in
theorem ggX7_playing_X1_master : GoodIn wsX7_playing wsX1_master := goodIn_r _ [42, 43, 44, 45, 38, 46, 34, 35, 36, 37, 47, 48, 49, 50, 51, 52, 67, 68, 69, 72, 73, 74, 75, 76, 77, 78, 79, 80] (by decide +kernel) (by decide +kernel)
set_option maxRecDepth 20000 in
theorem gX7_playing_X1_master : GoodIn wsX7_playing (wsV RX7 233 RX1 yX1_master wsX1_master) := goodIn_app (goodIn_of _ (by decide +kernel)) ggX7_playing_X1_master
set_option maxRecDepth 20000 in
theorem ggX7_playing_X7_bitsOf : GoodIn wsX7_playing wsX7_bitsOf := goodIn_r _ [55, 56] (by decide +kernel) (by decide +kernel)
set_option maxRecDepth 20000 in
theorem gX7_playing_X7_bitsOf : GoodIn wsX7_playing (va_wsS RX7 207 yX7_bitsOf wsX7_bitsOf) := goodIn_app (goodIn_of _ (by decide +kernel)) ggX7_playing_X7_bitsOf
set_option maxRecDepth 20000 in
theorem ggX7_isPhase_X7_isWithin : GoodIn wsX7_isPhase wsX7_isWithin := goodIn_r _ [4] (by decide +kernel) (by decide +kernel)
set_option maxRecDepth 20000 in
theorem gX7_isPhase_X7_isWithin : GoodIn wsX7_isPhase (va_wsS RX7 56 yX7_isWithin wsX7_isWithin) := goodIn_app (goodIn_of _ (by decide +kernel)) ggX7_isPhase_X7_isWithin
set_option maxRecDepth 20000 in
theorem ggX7_arrangeCues_X0_arrange : GoodIn wsX7_arrangeCues wsX0_arrange := goodIn_r _ [7, 8, 9, 10, 11, 12, 13, 14, 15, 16, 17, 18, 19, 20, 21, 22, 23, 24, 25, 26, 27, 28, 29, 30, 31, 32, 33, 34, 35, 36, 6, 37, 38, 39, 40, 41, 42, 43, 44, 45, 46, 47, 48, 59, 60, 61, 62, 63, 64, 65, 66, 67, 68, 69, 70, 71, 72, 73, 74, 75, 76] (by decide +kernel) (by decide +kernel)
set_option maxRecDepth 20000 in
theorem gX7_arrangeCues_X0_arrange : GoodIn wsX7_arrangeCues (wsV RX7 144 RX0 yX0_arrange wsX0_arrange) := goodIn_app (goodIn_of _ (by decide +kernel)) ggX7_arrangeCues_X0_arrange
set_option maxRecDepth 20000 in
theorem ggX7_canGo_X7_wattsAsked : GoodIn wsX7_canGo wsX7_wattsAsked := goodIn_r _ [6, 7, 8, 9, 10, 11, 12, 13, 14, 15, 16, 17, 18, 19, 20, 21, 22, 23, 24, 25, 26, 27, 28, 29, 30, 31, 32, 33, 34, 35, 36, 37, 38, 39, 40, 41, 42, 43, 44, 45, 46, 47, 48, 49, 50, 51, 52, 53, 54, 55, 56, 57, 58, 59, 60, 61, 62, 63, 64, 65, 66, 67, 68, 69, 70, 71, 72, 73, 74, 75, 76, 77, 78, 79, 80, 81, 82, 83] (by decide +kernel) (by decide +kernel)
set_option maxRecDepth 20000 in
theorem gX7_canGo_X7_wattsAsked : GoodIn wsX7_canGo (wsV RX7 220 RX7 yX7_wattsAsked wsX7_wattsAsked) := goodIn_app (goodIn_of _ (by decide +kernel)) ggX7_canGo_X7_wattsAsked
set_option maxRecDepth 20000 in
theorem ggX7_wattsAsked_X5_lampAt : GoodIn wsX7_wattsAsked wsX5_lampAt := goodIn_r _ [13, 14, 61, 62, 63] (by decide +kernel) (by decide +kernel)
set_option maxRecDepth 20000 in
theorem gX7_wattsAsked_X5_lampAt : GoodIn wsX7_wattsAsked (wsV RX7 95 RX5 yX5_lampAt wsX5_lampAt) := goodIn_app (goodIn_of _ (by decide +kernel)) ggX7_wattsAsked_X5_lampAt
set_option maxRecDepth 20000 in
theorem ggX7_wattsAsked_X0_levelFor : GoodIn wsX7_wattsAsked wsX0_levelFor := goodIn_r _ [19, 20, 64, 65, 66, 67, 68, 69, 70, 71, 72] (by decide +kernel) (by decide +kernel)
set_option maxRecDepth 20000 in
theorem gX7_wattsAsked_X0_levelFor : GoodIn wsX7_wattsAsked (wsV RX7 246 RX0 yX0_levelFor wsX0_levelFor) := goodIn_app (goodIn_of _ (by decide +kernel)) ggX7_wattsAsked_X0_levelFor
set_option maxRecDepth 20000 in
theorem ggX7_wattsAsked_X2_greatestUnreleased : GoodIn wsX7_wattsAsked wsX2_greatestUnreleased := goodIn_r _ [25, 26, 27, 6, 7, 8, 28, 29, 30, 24, 31, 32, 33, 34, 35, 36, 37, 38, 39, 40, 41, 42, 43, 44, 16, 17, 18, 19, 20, 73, 74, 75, 76, 77, 64, 65, 66, 67, 68, 69, 70, 71, 72] (by decide +kernel) (by decide +kernel)
set_option maxRecDepth 20000 in
theorem gX7_wattsAsked_X2_greatestUnreleased : GoodIn wsX7_wattsAsked (wsV RX7 249 RX2 yX2_greatestUnreleased wsX2_greatestUnreleased) := goodIn_app (goodIn_of _ (by decide +kernel)) ggX7_wattsAsked_X2_greatestUnreleased
set_option maxRecDepth 20000 in
theorem ggX7_begin_X2_begin : GoodIn wsX7_begin wsX2_begin := goodIn_r _ [12, 13, 14, 15, 16, 17, 11, 18, 19, 20, 21, 22, 23, 24, 25, 26, 27, 28, 29, 30, 31, 32, 33, 34, 35, 113, 114, 115, 116, 117] (by decide +kernel) (by decide +kernel)
set_option maxRecDepth 20000 in
theorem gX7_begin_X2_begin : GoodIn wsX7_begin (wsV RX7 257 RX2 yX2_begin wsX2_begin) := goodIn_app (goodIn_of _ (by decide +kernel)) ggX7_begin_X2_begin
set_option maxRecDepth 20000 in
theorem ggX7_begin_X3_writeGoing : GoodIn wsX7_begin wsX3_writeGoing := goodIn_r _ [40, 41, 42, 39, 43, 44, 45, 46, 47, 48, 49, 50, 51, 52, 53, 54, 55, 56, 57, 58, 59, 60, 61, 62, 63, 64, 65, 66, 67, 68, 69, 70, 71, 72, 73, 74, 75, 76, 77, 78, 79, 80, 81, 82, 83, 84, 85, 118, 119] (by decide +kernel) (by decide +kernel)
set_option maxRecDepth 20000 in
theorem gX7_begin_X3_writeGoing : GoodIn wsX7_begin (wsV RX7 260 RX3 yX3_writeGoing wsX3_writeGoing) := goodIn_app (goodIn_of _ (by decide +kernel)) ggX7_begin_X3_writeGoing
set_option maxRecDepth 20000 in
theorem ggX7_begin_X6_note : GoodIn wsX7_begin wsX6_note := goodIn_r _ [90, 91, 92, 93, 120, 121, 122, 123, 124] (by decide +kernel) (by decide +kernel)
set_option maxRecDepth 20000 in
theorem gX7_begin_X6_note : GoodIn wsX7_begin (wsV RX7 263 RX6 yX6_note wsX6_note) := goodIn_app (goodIn_of _ (by decide +kernel)) ggX7_begin_X6_note
set_option maxRecDepth 20000 in
theorem ggX7_passOne_X2_dropOver : GoodIn wsX7_passOne wsX2_dropOver := goodIn_r _ [10, 11, 12, 13, 14, 9, 15, 16, 17, 18, 19, 20, 21, 22, 23, 24, 25, 26, 27, 28, 29, 30, 31, 32, 177, 178, 179, 180, 181, 182, 183, 184, 185, 186, 187, 188, 189, 190] (by decide +kernel) (by decide +kernel)
set_option maxRecDepth 20000 in
theorem gX7_passOne_X2_dropOver : GoodIn wsX7_passOne (wsV RX7 197 RX2 yX2_dropOver wsX2_dropOver) := goodIn_app (goodIn_of _ (by decide +kernel)) ggX7_passOne_X2_dropOver
set_option maxRecDepth 20000 in
theorem ggX7_passOne_X6_takeDue : GoodIn wsX7_passOne wsX6_takeDue := goodIn_r _ [37, 38, 39, 40, 41, 42, 172, 173, 174, 175, 176] (by decide +kernel) (by decide +kernel)
set_option maxRecDepth 20000 in
theorem gX7_passOne_X6_takeDue : GoodIn wsX7_passOne (wsV RX7 266 RX6 yX6_takeDue wsX6_takeDue) := goodIn_app (goodIn_of _ (by decide +kernel)) ggX7_passOne_X6_takeDue
set_option maxRecDepth 20000 in
theorem ggX7_passOne_X6_readyAt : GoodIn wsX7_passOne wsX6_readyAt := goodIn_r _ [46, 38, 42, 172, 173, 174, 175, 176] (by decide +kernel) (by decide +kernel)
set_option maxRecDepth 20000 in
theorem gX7_passOne_X6_readyAt : GoodIn wsX7_passOne (wsV RX7 272 RX6 yX6_readyAt wsX6_readyAt) := goodIn_app (goodIn_of _ (by decide +kernel)) ggX7_passOne_X6_readyAt
set_option maxRecDepth 20000 in
theorem ggX7_passOne_X7_canGo : GoodIn wsX7_passOne wsX7_canGo := goodIn_r _ [51, 52, 53, 54, 55, 50, 56, 57, 58, 59, 2, 60, 61, 62, 63, 64, 65, 66, 67, 68, 69, 70, 71, 72, 73, 74, 75, 76, 77, 78, 9, 79, 11, 80, 12, 13, 14, 15, 16, 81, 26, 27, 20, 28, 23, 82, 83, 84, 85, 22, 86, 162, 163, 164, 165, 166, 167, 168, 169, 170, 171, 191, 192, 193, 194, 195, 196, 197, 198, 199, 182, 183, 184, 185, 186, 187, 188, 189, 190, 177, 178, 179, 180, 181] (by decide +kernel) (by decide +kernel)
set_option maxRecDepth 20000 in
theorem gX7_passOne_X7_canGo : GoodIn wsX7_passOne (wsV RX7 162 RX7 yX7_canGo wsX7_canGo) := goodIn_app (goodIn_of _ (by decide +kernel)) ggX7_passOne_X7_canGo
set_option maxRecDepth 20000 in
theorem ggX7_passOne_X7_begin : GoodIn wsX7_passOne wsX7_begin := goodIn_r _ [90, 2, 1, 91, 92, 93, 3, 94, 95, 96, 97, 9, 98, 11, 16, 99, 100, 101, 102, 103, 12, 13, 14, 15, 29, 30, 31, 32, 104, 105, 106, 20, 107, 22, 108, 23, 109, 110, 111, 112, 113, 114, 115, 116, 117, 118, 119, 120, 121, 122, 123, 124, 125, 126, 127, 128, 129, 130, 131, 132, 133, 134, 135, 136, 137, 138, 139, 140, 62, 141, 142, 143, 144, 145, 146, 147, 148, 149, 150, 151, 152, 153, 154, 155, 156, 157, 158, 159, 160, 36, 161, 39, 40, 41, 162, 163, 164, 165, 166, 167, 168, 169, 170, 171, 182, 183, 184, 185, 186, 187, 188, 189, 190, 177, 178, 179, 180, 181, 200, 201, 172, 173, 174, 175, 176] (by decide +kernel) (by decide +kernel)
set_option maxRecDepth 20000 in
theorem gX7_passOne_X7_begin : GoodIn wsX7_passOne (wsV RX7 168 RX7 yX7_begin wsX7_begin) := goodIn_app (goodIn_of _ (by decide +kernel)) ggX7_passOne_X7_begin
set_option maxRecDepth 20000 in
theorem ggX7_loadNow_X5_lampAt : GoodIn wsX7_loadNow wsX5_lampAt := goodIn_r _ [11, 12, 73, 74, 75] (by decide +kernel) (by decide +kernel)
set_option maxRecDepth 20000 in
theorem gX7_loadNow_X5_lampAt : GoodIn wsX7_loadNow (wsV RX7 95 RX5 yX5_lampAt wsX5_lampAt) := goodIn_app (goodIn_of _ (by decide +kernel)) ggX7_loadNow_X5_lampAt
set_option maxRecDepth 20000 in
theorem ggX7_loadNow_X2_mix : GoodIn wsX7_loadNow wsX2_mix := goodIn_r _ [17, 18, 19, 20, 21, 16, 22, 23, 24, 25, 26, 27, 28, 29, 30, 31, 32, 33, 34, 35, 36, 37, 38, 39, 40, 41, 42, 43, 44, 45, 46, 47, 48, 49, 50, 51, 52, 53, 54, 55, 56, 76, 77, 78, 79, 80, 81, 82, 83, 84, 85, 86, 87, 88, 89] (by decide +kernel) (by decide +kernel)
set_option maxRecDepth 20000 in
theorem gX7_loadNow_X2_mix : GoodIn wsX7_loadNow (wsV RX7 203 RX2 yX2_mix wsX2_mix) := goodIn_app (goodIn_of _ (by decide +kernel)) ggX7_loadNow_X2_mix
set_option maxRecDepth 20000 in
theorem ggX7_retell_X2_clear : GoodIn wsX7_retell wsX2_clear := goodIn_r _ [9, 10, 95, 96] (by decide +kernel) (by decide +kernel)
set_option maxRecDepth 20000 in
theorem gX7_retell_X2_clear : GoodIn wsX7_retell (wsV RX7 276 RX2 yX2_clear wsX2_clear) := goodIn_app (goodIn_of _ (by decide +kernel)) ggX7_retell_X2_clear
set_option maxRecDepth 20000 in
theorem ggX7_retell_X3_entryAt : GoodIn wsX7_retell wsX3_entryAt := goodIn_r _ [15, 16, 93, 94] (by decide +kernel) (by decide +kernel)
set_option maxRecDepth 20000 in
theorem gX7_retell_X3_entryAt : GoodIn wsX7_retell (wsV RX7 280 RX3 yX3_entryAt wsX3_entryAt) := goodIn_app (goodIn_of _ (by decide +kernel)) ggX7_retell_X3_entryAt
set_option maxRecDepth 20000 in
theorem ggX7_retell_X3_cueOf : GoodIn wsX7_retell wsX3_cueOf := goodIn_r _ [19] (by decide +kernel) (by decide +kernel)
set_option maxRecDepth 20000 in
theorem gX7_retell_X3_cueOf : GoodIn wsX7_retell (va_wsS RX7 283 yX3_cueOf wsX3_cueOf) := goodIn_app (goodIn_of _ (by decide +kernel)) ggX7_retell_X3_cueOf
set_option maxRecDepth 20000 in
theorem ggX7_retell_X7_cueAt : GoodIn wsX7_retell wsX7_cueAt := goodIn_r _ [24, 25, 83, 84, 85, 86, 87, 88, 89, 90, 91, 92] (by decide +kernel) (by decide +kernel)
set_option maxRecDepth 20000 in
theorem gX7_retell_X7_cueAt : GoodIn wsX7_retell (wsV RX7 132 RX7 yX7_cueAt wsX7_cueAt) := goodIn_app (goodIn_of _ (by decide +kernel)) ggX7_retell_X7_cueAt
set_option maxRecDepth 20000 in
theorem ggX7_retell_X3_isRelease : GoodIn wsX7_retell wsX3_isRelease := goodIn_r _ [28] (by decide +kernel) (by decide +kernel)
set_option maxRecDepth 20000 in
theorem gX7_retell_X3_isRelease : GoodIn wsX7_retell (va_wsS RX7 286 yX3_isRelease wsX3_isRelease) := goodIn_app (goodIn_of _ (by decide +kernel)) ggX7_retell_X3_isRelease
set_option maxRecDepth 20000 in
theorem ggX7_retell_X3_tickOf : GoodIn wsX7_retell wsX3_tickOf := goodIn_r _ [31] (by decide +kernel) (by decide +kernel)
set_option maxRecDepth 20000 in
theorem gX7_retell_X3_tickOf : GoodIn wsX7_retell (va_wsS RX7 289 yX3_tickOf wsX3_tickOf) := goodIn_app (goodIn_of _ (by decide +kernel)) ggX7_retell_X3_tickOf
set_option maxRecDepth 20000 in
theorem ggX7_retell_X2_fall : GoodIn wsX7_retell wsX2_fall := goodIn_r _ [35, 36, 37, 38, 8, 39, 40, 41, 42, 43, 10, 44, 45, 46, 47, 48, 49, 50, 51, 52, 53, 54, 55, 95, 96, 97, 98, 99] (by decide +kernel) (by decide +kernel)
set_option maxRecDepth 20000 in
theorem gX7_retell_X2_fall : GoodIn wsX7_retell (wsV RX7 292 RX2 yX2_fall wsX2_fall) := goodIn_app (goodIn_of _ (by decide +kernel)) ggX7_retell_X2_fall
set_option maxRecDepth 20000 in
theorem ggX7_retell_X2_begin : GoodIn wsX7_retell wsX2_begin := goodIn_r _ [59, 10, 49, 40, 41, 42, 8, 43, 44, 45, 46, 47, 48, 60, 61, 62, 63, 64, 65, 66, 53, 67, 68, 69, 55, 95, 96, 97, 98, 99] (by decide +kernel) (by decide +kernel)
set_option maxRecDepth 20000 in
theorem gX7_retell_X2_begin : GoodIn wsX7_retell (wsV RX7 257 RX2 yX2_begin wsX2_begin) := goodIn_app (goodIn_of _ (by decide +kernel)) ggX7_retell_X2_begin
set_option maxRecDepth 20000 in
theorem ggX7_retell_X2_dropOver : GoodIn wsX7_retell wsX2_dropOver := goodIn_r _ [73, 10, 45, 46, 47, 8, 48, 49, 74, 75, 76, 53, 77, 68, 55, 78, 79, 80, 81, 82, 60, 61, 62, 63, 95, 96, 97, 98, 99, 100, 101, 102, 103, 104, 105, 106, 107, 108] (by decide +kernel) (by decide +kernel)
set_option maxRecDepth 20000 in
theorem gX7_retell_X2_dropOver : GoodIn wsX7_retell (wsV RX7 197 RX2 yX2_dropOver wsX2_dropOver) := goodIn_app (goodIn_of _ (by decide +kernel)) ggX7_retell_X2_dropOver
