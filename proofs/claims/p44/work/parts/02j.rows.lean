set_option maxRecDepth 20000 in
theorem ggX0_copyFrom_X2_copyRow : GoodIn wsX0_copyFrom wsX2_copyRow := goodIn_r _ [12] (by decide +kernel) (by decide +kernel)
set_option maxRecDepth 20000 in
theorem gX0_copyFrom_X2_copyRow_n35 : GoodIn wsX0_copyFrom (wsX2_copyRow) := ggX0_copyFrom_X2_copyRow
set_option maxRecDepth 20000 in
theorem ggX0_copyFrom_X2_copyMarks : GoodIn wsX0_copyFrom wsX2_copyMarks := goodIn_r _ [14] (by decide +kernel) (by decide +kernel)
set_option maxRecDepth 20000 in
theorem gX0_copyFrom_X2_copyMarks_n39 : GoodIn wsX0_copyFrom (wsX2_copyMarks) := ggX0_copyFrom_X2_copyMarks
set_option maxRecDepth 20000 in
theorem ggX0_stayOf_X2_at : GoodIn wsX0_stayOf wsX2_at := goodIn_r _ [4] (by decide +kernel) (by decide +kernel)
set_option maxRecDepth 20000 in
theorem gX0_stayOf_X2_at_n53 : GoodIn wsX0_stayOf (wsX2_at) := ggX0_stayOf_X2_at
set_option maxRecDepth 20000 in
theorem ggX0_sendOut_X2_put : GoodIn wsX0_sendOut wsX2_put := goodIn_r _ [6] (by decide +kernel) (by decide +kernel)
set_option maxRecDepth 20000 in
theorem gX0_sendOut_X2_put_n57 : GoodIn wsX0_sendOut (wsX2_put) := ggX0_sendOut_X2_put
set_option maxRecDepth 20000 in
theorem ggX0_sendOut_X1_shipWith : GoodIn wsX0_sendOut wsX1_shipWith := goodIn_r _ [11, 12, 30, 31, 32, 33, 34, 35, 36, 37] (by decide +kernel) (by decide +kernel)
set_option maxRecDepth 20000 in
theorem gX0_sendOut_X1_shipWith : GoodIn wsX0_sendOut (wsV RX0 61 RX1 yX1_shipWith wsX1_shipWith) := goodIn_app (goodIn_of _ (by decide +kernel)) ggX0_sendOut_X1_shipWith
set_option maxRecDepth 20000 in
theorem ggX0_sendOut_X0_lightCandle : GoodIn wsX0_sendOut wsX0_lightCandle := goodIn_r _ [17, 18, 19, 4, 5, 6, 20, 21, 22, 23, 24, 25, 26, 27, 28, 29] (by decide +kernel) (by decide +kernel)
set_option maxRecDepth 20000 in
theorem gX0_sendOut_X0_lightCandle : GoodIn wsX0_sendOut (wsV RX0 67 RX0 yX0_lightCandle wsX0_lightCandle) := goodIn_app (goodIn_of _ (by decide +kernel)) ggX0_sendOut_X0_lightCandle
set_option maxRecDepth 20000 in
theorem ggX0_endWaiting_X2_put : GoodIn wsX0_endWaiting wsX2_put := goodIn_r _ [9] (by decide +kernel) (by decide +kernel)
set_option maxRecDepth 20000 in
theorem gX0_endWaiting_X2_put_n57 : GoodIn wsX0_endWaiting (wsX2_put) := ggX0_endWaiting_X2_put
set_option maxRecDepth 20000 in
theorem ggX0_endWaiting_X2_mark : GoodIn wsX0_endWaiting wsX2_mark := goodIn_r _ [11] (by decide +kernel) (by decide +kernel)
set_option maxRecDepth 20000 in
theorem gX0_endWaiting_X2_mark_n71 : GoodIn wsX0_endWaiting (wsX2_mark) := ggX0_endWaiting_X2_mark
set_option maxRecDepth 20000 in
theorem ggX0_endWaiting_X0_placeOf : GoodIn wsX0_endWaiting wsX0_placeOf := goodIn_r _ [15] (by decide +kernel) (by decide +kernel)
set_option maxRecDepth 20000 in
theorem gX0_endWaiting_X0_placeOf : GoodIn wsX0_endWaiting (va_wsS RX0 75 yX0_placeOf wsX0_placeOf) := goodIn_app (goodIn_of _ (by decide +kernel)) ggX0_endWaiting_X0_placeOf
set_option maxRecDepth 20000 in
theorem ggX0_endWaiting_X1_shipWith : GoodIn wsX0_endWaiting wsX1_shipWith := goodIn_r _ [20, 21, 34, 35, 36, 37, 38, 39, 40, 41] (by decide +kernel) (by decide +kernel)
set_option maxRecDepth 20000 in
theorem gX0_endWaiting_X1_shipWith : GoodIn wsX0_endWaiting (wsV RX0 61 RX1 yX1_shipWith wsX1_shipWith) := goodIn_app (goodIn_of _ (by decide +kernel)) ggX0_endWaiting_X1_shipWith
set_option maxRecDepth 20000 in
theorem ggX0_endWaiting_X2_at : GoodIn wsX0_endWaiting wsX2_at := goodIn_r _ [23] (by decide +kernel) (by decide +kernel)
set_option maxRecDepth 20000 in
theorem gX0_endWaiting_X2_at_n53 : GoodIn wsX0_endWaiting (wsX2_at) := ggX0_endWaiting_X2_at
set_option maxRecDepth 20000 in
theorem ggX0_lostSailors_X1_shipWith : GoodIn wsX0_lostSailors wsX1_shipWith := goodIn_r _ [6, 7, 27, 28, 29, 30, 31, 32, 33, 34] (by decide +kernel) (by decide +kernel)
set_option maxRecDepth 20000 in
theorem gX0_lostSailors_X1_shipWith : GoodIn wsX0_lostSailors (wsV RX0 61 RX1 yX1_shipWith wsX1_shipWith) := goodIn_app (goodIn_of _ (by decide +kernel)) ggX0_lostSailors_X1_shipWith
set_option maxRecDepth 20000 in
theorem ggX0_lostSailors_X0_stayOf : GoodIn wsX0_lostSailors wsX0_stayOf := goodIn_r _ [12, 13, 14, 15, 16, 17, 18, 19, 20, 21, 22, 23, 24, 25, 26] (by decide +kernel) (by decide +kernel)
set_option maxRecDepth 20000 in
theorem gX0_lostSailors_X0_stayOf : GoodIn wsX0_lostSailors (wsV RX0 79 RX0 yX0_stayOf wsX0_stayOf) := goodIn_app (goodIn_of _ (by decide +kernel)) ggX0_lostSailors_X0_stayOf
set_option maxRecDepth 20000 in
theorem ggX0_hasSighting_X0_placeOf : GoodIn wsX0_hasSighting wsX0_placeOf := goodIn_r _ [5] (by decide +kernel) (by decide +kernel)
set_option maxRecDepth 20000 in
theorem gX0_hasSighting_X0_placeOf : GoodIn wsX0_hasSighting (va_wsS RX0 75 yX0_placeOf wsX0_placeOf) := goodIn_app (goodIn_of _ (by decide +kernel)) ggX0_hasSighting_X0_placeOf
set_option maxRecDepth 20000 in
theorem ggX0_enterSighting_X0_placeOf : GoodIn wsX0_enterSighting wsX0_placeOf := goodIn_r _ [6] (by decide +kernel) (by decide +kernel)
set_option maxRecDepth 20000 in
theorem gX0_enterSighting_X0_placeOf : GoodIn wsX0_enterSighting (va_wsS RX0 75 yX0_placeOf wsX0_placeOf) := goodIn_app (goodIn_of _ (by decide +kernel)) ggX0_enterSighting_X0_placeOf
set_option maxRecDepth 20000 in
theorem ggX0_enterSighting_X2_put : GoodIn wsX0_enterSighting wsX2_put := goodIn_r _ [9] (by decide +kernel) (by decide +kernel)
set_option maxRecDepth 20000 in
theorem gX0_enterSighting_X2_put_n57 : GoodIn wsX0_enterSighting (wsX2_put) := ggX0_enterSighting_X2_put
set_option maxRecDepth 20000 in
theorem ggX0_enterSighting_X0_trustSum : GoodIn wsX0_enterSighting wsX0_trustSum := goodIn_r _ [13, 14, 15, 16, 17, 5, 18, 1, 3, 4, 6, 19, 8, 20, 23, 24, 25, 26, 27, 28, 29, 30, 31, 32] (by decide +kernel) (by decide +kernel)
set_option maxRecDepth 20000 in
theorem gX0_enterSighting_X0_trustSum : GoodIn wsX0_enterSighting (wsV RX0 82 RX0 yX0_trustSum wsX0_trustSum) := goodIn_app (goodIn_of _ (by decide +kernel)) ggX0_enterSighting_X0_trustSum
set_option maxRecDepth 20000 in
theorem ggX0_enterSighting_X2_mark : GoodIn wsX0_enterSighting wsX2_mark := goodIn_r _ [22] (by decide +kernel) (by decide +kernel)
set_option maxRecDepth 20000 in
theorem gX0_enterSighting_X2_mark_n71 : GoodIn wsX0_enterSighting (wsX2_mark) := ggX0_enterSighting_X2_mark
set_option maxRecDepth 20000 in
theorem ggX0_trustSum_X0_hasSighting : GoodIn wsX0_trustSum wsX0_hasSighting := goodIn_r _ [6, 7, 8, 9, 5, 10, 14, 15, 16, 17, 18, 19, 20, 21, 22, 23] (by decide +kernel) (by decide +kernel)
set_option maxRecDepth 20000 in
theorem gX0_trustSum_X0_hasSighting : GoodIn wsX0_trustSum (wsV RX0 85 RX0 yX0_hasSighting wsX0_hasSighting) := goodIn_app (goodIn_of _ (by decide +kernel)) ggX0_trustSum_X0_hasSighting
set_option maxRecDepth 20000 in
theorem ggX0_trustSum_X2_at : GoodIn wsX0_trustSum wsX2_at := goodIn_r _ [13] (by decide +kernel) (by decide +kernel)
set_option maxRecDepth 20000 in
theorem gX0_trustSum_X2_at_n53 : GoodIn wsX0_trustSum (wsX2_at) := ggX0_trustSum_X2_at
set_option maxRecDepth 20000 in
theorem ggX0_believeWatchersOf_X0_hasSighting : GoodIn wsX0_believeWatchersOf wsX0_hasSighting := goodIn_r _ [10, 11, 12, 13, 9, 14, 20, 21, 22, 23, 24, 25, 26, 27, 28, 29] (by decide +kernel) (by decide +kernel)
set_option maxRecDepth 20000 in
theorem gX0_believeWatchersOf_X0_hasSighting : GoodIn wsX0_believeWatchersOf (wsV RX0 85 RX0 yX0_hasSighting wsX0_hasSighting) := goodIn_app (goodIn_of _ (by decide +kernel)) ggX0_believeWatchersOf_X0_hasSighting
set_option maxRecDepth 20000 in
theorem ggX0_believeWatchersOf_X2_at : GoodIn wsX0_believeWatchersOf wsX2_at := goodIn_r _ [17] (by decide +kernel) (by decide +kernel)
set_option maxRecDepth 20000 in
theorem gX0_believeWatchersOf_X2_at_n53 : GoodIn wsX0_believeWatchersOf (wsX2_at) := ggX0_believeWatchersOf_X2_at
set_option maxRecDepth 20000 in
theorem ggX0_believeWatchersOf_X2_put : GoodIn wsX0_believeWatchersOf wsX2_put := goodIn_r _ [19] (by decide +kernel) (by decide +kernel)
set_option maxRecDepth 20000 in
theorem gX0_believeWatchersOf_X2_put_n57 : GoodIn wsX0_believeWatchersOf (wsX2_put) := ggX0_believeWatchersOf_X2_put
set_option maxRecDepth 20000 in
theorem ggX0_darkFor_X1_shipWith : GoodIn wsX0_darkFor wsX1_shipWith := goodIn_r _ [7, 8, 28, 29, 30, 31, 32, 33, 34, 35] (by decide +kernel) (by decide +kernel)
set_option maxRecDepth 20000 in
theorem gX0_darkFor_X1_shipWith : GoodIn wsX0_darkFor (wsV RX0 61 RX1 yX1_shipWith wsX1_shipWith) := goodIn_app (goodIn_of _ (by decide +kernel)) ggX0_darkFor_X1_shipWith
set_option maxRecDepth 20000 in
theorem ggX0_darkFor_X0_stayOf : GoodIn wsX0_darkFor wsX0_stayOf := goodIn_r _ [13, 14, 15, 16, 17, 18, 19, 20, 21, 22, 23, 24, 25, 26, 27] (by decide +kernel) (by decide +kernel)
set_option maxRecDepth 20000 in
theorem gX0_darkFor_X0_stayOf : GoodIn wsX0_darkFor (wsV RX0 79 RX0 yX0_stayOf wsX0_stayOf) := goodIn_app (goodIn_of _ (by decide +kernel)) ggX0_darkFor_X0_stayOf
set_option maxRecDepth 20000 in
theorem ggX0_darkFor_X2_at : GoodIn wsX0_darkFor wsX2_at := goodIn_r _ [17] (by decide +kernel) (by decide +kernel)
set_option maxRecDepth 20000 in
theorem gX0_darkFor_X2_at_n53 : GoodIn wsX0_darkFor (wsX2_at) := ggX0_darkFor_X2_at
set_option maxRecDepth 20000 in
theorem ggX0_darkCount_X0_darkFor : GoodIn wsX0_darkCount wsX0_darkFor := goodIn_r _ [5, 6, 7, 8, 9, 10, 11, 12, 13, 14, 15, 16, 4, 17, 18, 19, 20, 21, 22, 23, 24, 25, 26, 27, 28, 29, 30, 31, 32, 33, 34, 35, 36, 37, 38, 39] (by decide +kernel) (by decide +kernel)
set_option maxRecDepth 20000 in
theorem gX0_darkCount_X0_darkFor : GoodIn wsX0_darkCount (wsV RX0 94 RX0 yX0_darkFor wsX0_darkFor) := goodIn_app (goodIn_of _ (by decide +kernel)) ggX0_darkCount_X0_darkFor
set_option maxRecDepth 20000 in
theorem ggX0_lightCandle_X2_put : GoodIn wsX0_lightCandle wsX2_put := goodIn_r _ [5] (by decide +kernel) (by decide +kernel)
set_option maxRecDepth 20000 in
theorem gX0_lightCandle_X2_put_n57 : GoodIn wsX0_lightCandle (wsX2_put) := ggX0_lightCandle_X2_put
set_option maxRecDepth 20000 in
theorem ggX0_passNights_X0_passNight : GoodIn wsX0_passNights wsX0_passNight := goodIn_r _ [5, 6, 7, 8, 9, 4, 10, 11, 12, 13, 14, 15, 16, 17, 18, 19, 20, 21, 22, 23, 24, 25, 26, 27, 28, 29, 30, 31, 32, 33, 34, 35, 36, 37, 38, 39, 40, 41, 42, 43, 44, 45, 46, 47, 48, 49, 50, 51, 52, 53, 54, 55, 56, 57, 58, 59, 60, 61, 62, 63, 64, 65, 66, 67, 68, 69, 70, 71, 72, 73, 74, 75, 76, 77, 78, 79, 80, 81, 82, 83, 84, 85, 86, 87, 88, 89, 90, 91, 92, 93, 94, 95, 96, 97, 98, 99, 100, 101, 102, 103, 104, 105, 106, 107, 108, 109, 110, 111, 112, 113, 114, 115, 116, 117, 118, 119, 120, 121] (by decide +kernel) (by decide +kernel)
set_option maxRecDepth 20000 in
theorem gX0_passNights_X0_passNight : GoodIn wsX0_passNights (wsV RX0 97 RX0 yX0_passNight wsX0_passNight) := goodIn_app (goodIn_of _ (by decide +kernel)) ggX0_passNights_X0_passNight
set_option maxRecDepth 20000 in
theorem ggX0_passNight_X0_ageSightings : GoodIn wsX0_passNight wsX0_ageSightings := goodIn_r _ [6, 7, 8, 9, 5, 10, 11, 12, 13, 14, 15, 16, 17, 18, 19, 20, 21, 22, 23, 24, 100, 101, 102, 103, 104, 105, 106, 107, 108, 109] (by decide +kernel) (by decide +kernel)
set_option maxRecDepth 20000 in
theorem gX0_passNight_X0_ageSightings : GoodIn wsX0_passNight (wsV RX0 101 RX0 yX0_ageSightings wsX0_ageSightings) := goodIn_app (goodIn_of _ (by decide +kernel)) ggX0_passNight_X0_ageSightings
set_option maxRecDepth 20000 in
theorem ggX0_passNight_X0_unringBells : GoodIn wsX0_passNight wsX0_unringBells := goodIn_r _ [28, 29, 30, 31, 21, 32, 33, 34, 35, 5, 36, 15, 37, 38, 39, 40, 7, 41, 42, 43, 20, 22, 44, 45, 100, 101, 102, 103, 104, 105, 106, 107, 108, 109] (by decide +kernel) (by decide +kernel)
set_option maxRecDepth 20000 in
theorem gX0_passNight_X0_unringBells : GoodIn wsX0_passNight (wsV RX0 104 RX0 yX0_unringBells wsX0_unringBells) := goodIn_app (goodIn_of _ (by decide +kernel)) ggX0_passNight_X0_unringBells
set_option maxRecDepth 20000 in
theorem ggX0_passNight_X0_burnCandles : GoodIn wsX0_passNight wsX0_burnCandles := goodIn_r _ [49, 50, 29, 51, 52, 53, 54, 55, 56, 57, 58, 59, 60, 5, 61, 62, 20, 21, 22, 31, 32, 63, 64, 65, 66, 16, 17, 18, 19, 23, 24, 67, 68, 69, 70, 71, 100, 101, 102, 103, 104, 105, 106, 107, 108, 109, 110, 111, 112, 113, 114, 115, 116, 117] (by decide +kernel) (by decide +kernel)
set_option maxRecDepth 20000 in
theorem gX0_passNight_X0_burnCandles : GoodIn wsX0_passNight (wsV RX0 107 RX0 yX0_burnCandles wsX0_burnCandles) := goodIn_app (goodIn_of _ (by decide +kernel)) ggX0_passNight_X0_burnCandles
set_option maxRecDepth 20000 in
theorem ggX0_passNight_X0_countNightOut : GoodIn wsX0_passNight wsX0_countNightOut := goodIn_r _ [75, 76, 50, 58, 59, 60, 5, 61, 62, 20, 21, 22, 23, 24, 77, 78, 79, 55, 80, 81, 17, 18, 19, 82, 83, 84, 85, 86, 87, 88, 89, 90, 57, 91, 92, 93, 94, 95, 96, 97, 98, 99, 29, 7, 71, 51, 44, 45, 41, 42, 43, 52, 53, 54, 56, 100, 101, 102, 103, 104, 105, 106, 107, 108, 109, 110, 111, 112, 113, 114, 115, 116, 117] (by decide +kernel) (by decide +kernel)
set_option maxRecDepth 20000 in
theorem gX0_passNight_X0_countNightOut : GoodIn wsX0_passNight (wsV RX0 110 RX0 yX0_countNightOut wsX0_countNightOut) := goodIn_app (goodIn_of _ (by decide +kernel)) ggX0_passNight_X0_countNightOut
set_option maxRecDepth 20000 in
theorem ggX0_ageSightings_X0_watcherAt : GoodIn wsX0_ageSightings wsX0_watcherAt := goodIn_r _ [5] (by decide +kernel) (by decide +kernel)
set_option maxRecDepth 20000 in
theorem gX0_ageSightings_X0_watcherAt : GoodIn wsX0_ageSightings (va_wsS RX0 113 yX0_watcherAt wsX0_watcherAt) := goodIn_app (goodIn_of _ (by decide +kernel)) ggX0_ageSightings_X0_watcherAt
set_option maxRecDepth 20000 in
theorem ggX0_ageSightings_X0_doubt : GoodIn wsX0_ageSightings wsX0_doubt := goodIn_r _ [9, 10, 11, 12, 13, 14, 15, 16, 17, 18, 19, 20, 21, 22, 23, 24, 25, 26, 27, 28, 29] (by decide +kernel) (by decide +kernel)
set_option maxRecDepth 20000 in
theorem gX0_ageSightings_X0_doubt : GoodIn wsX0_ageSightings (wsV RX0 116 RX0 yX0_doubt wsX0_doubt) := goodIn_app (goodIn_of _ (by decide +kernel)) ggX0_ageSightings_X0_doubt
set_option maxRecDepth 20000 in
theorem ggX0_doubt_X2_at : GoodIn wsX0_doubt wsX2_at := goodIn_r _ [8] (by decide +kernel) (by decide +kernel)
set_option maxRecDepth 20000 in
theorem gX0_doubt_X2_at_n53 : GoodIn wsX0_doubt (wsX2_at) := ggX0_doubt_X2_at
set_option maxRecDepth 20000 in
theorem ggX0_doubt_X2_put : GoodIn wsX0_doubt wsX2_put := goodIn_r _ [10] (by decide +kernel) (by decide +kernel)
set_option maxRecDepth 20000 in
theorem gX0_doubt_X2_put_n57 : GoodIn wsX0_doubt (wsX2_put) := ggX0_doubt_X2_put
set_option maxRecDepth 20000 in
theorem ggX0_unringBells_X2_is : GoodIn wsX0_unringBells wsX2_is := goodIn_r _ [5] (by decide +kernel) (by decide +kernel)
set_option maxRecDepth 20000 in
theorem gX0_unringBells_X2_is_n123 : GoodIn wsX0_unringBells (wsX2_is) := ggX0_unringBells_X2_is
set_option maxRecDepth 20000 in
theorem ggX0_unringBells_X0_trustSum : GoodIn wsX0_unringBells wsX0_trustSum := goodIn_r _ [10, 11, 12, 13, 14, 9, 15, 16, 17, 18, 19, 20, 4, 21, 24, 25, 26, 27, 28, 29, 30, 31, 32, 33] (by decide +kernel) (by decide +kernel)
set_option maxRecDepth 20000 in
theorem gX0_unringBells_X0_trustSum : GoodIn wsX0_unringBells (wsV RX0 82 RX0 yX0_trustSum wsX0_trustSum) := goodIn_app (goodIn_of _ (by decide +kernel)) ggX0_unringBells_X0_trustSum
set_option maxRecDepth 20000 in
theorem ggX0_unringBells_X2_mark : GoodIn wsX0_unringBells wsX2_mark := goodIn_r _ [23] (by decide +kernel) (by decide +kernel)
set_option maxRecDepth 20000 in
theorem gX0_unringBells_X2_mark_n71 : GoodIn wsX0_unringBells (wsX2_mark) := ggX0_unringBells_X2_mark
set_option maxRecDepth 20000 in
theorem ggX0_burnCandles_X1_shipWith : GoodIn wsX0_burnCandles wsX1_shipWith := goodIn_r _ [8, 9, 46, 47, 48, 49, 50, 51, 52, 53] (by decide +kernel) (by decide +kernel)
set_option maxRecDepth 20000 in
theorem gX0_burnCandles_X1_shipWith : GoodIn wsX0_burnCandles (wsV RX0 61 RX1 yX1_shipWith wsX1_shipWith) := goodIn_app (goodIn_of _ (by decide +kernel)) ggX0_burnCandles_X1_shipWith
set_option maxRecDepth 20000 in
theorem ggX0_burnCandles_X0_stayOf : GoodIn wsX0_burnCandles wsX0_stayOf := goodIn_r _ [14, 15, 16, 17, 18, 36, 37, 38, 39, 40, 41, 42, 43, 44, 45] (by decide +kernel) (by decide +kernel)
set_option maxRecDepth 20000 in
theorem gX0_burnCandles_X0_stayOf : GoodIn wsX0_burnCandles (wsV RX0 79 RX0 yX0_stayOf wsX0_stayOf) := goodIn_app (goodIn_of _ (by decide +kernel)) ggX0_burnCandles_X0_stayOf
set_option maxRecDepth 20000 in
theorem ggX0_burnCandles_X2_is : GoodIn wsX0_burnCandles wsX2_is := goodIn_r _ [20] (by decide +kernel) (by decide +kernel)
set_option maxRecDepth 20000 in
theorem gX0_burnCandles_X2_is_n123 : GoodIn wsX0_burnCandles (wsX2_is) := ggX0_burnCandles_X2_is
set_option maxRecDepth 20000 in
theorem ggX0_burnCandles_X0_burnCandle : GoodIn wsX0_burnCandles wsX0_burnCandle := goodIn_r _ [24, 1, 3, 25, 26, 27, 28, 16, 17, 18, 29, 30, 36, 37, 38, 39, 40, 41, 42, 43, 44, 45, 46, 47, 48, 49, 50, 51, 52, 53] (by decide +kernel) (by decide +kernel)
set_option maxRecDepth 20000 in
theorem gX0_burnCandles_X0_burnCandle : GoodIn wsX0_burnCandles (wsV RX0 127 RX0 yX0_burnCandle wsX0_burnCandle) := goodIn_app (goodIn_of _ (by decide +kernel)) ggX0_burnCandles_X0_burnCandle
set_option maxRecDepth 20000 in
theorem ggX0_burnCandles_X2_at : GoodIn wsX0_burnCandles wsX2_at := goodIn_r _ [18] (by decide +kernel) (by decide +kernel)
set_option maxRecDepth 20000 in
theorem gX0_burnCandles_X2_at_n53 : GoodIn wsX0_burnCandles (wsX2_at) := ggX0_burnCandles_X2_at
set_option maxRecDepth 20000 in
theorem ggX0_burnCandles_X0_lightCandle : GoodIn wsX0_burnCandles wsX0_lightCandle := goodIn_r _ [34, 35, 3, 29, 17, 30, 36, 37, 38, 39, 40, 41, 42, 43, 44, 45] (by decide +kernel) (by decide +kernel)
set_option maxRecDepth 20000 in
theorem gX0_burnCandles_X0_lightCandle : GoodIn wsX0_burnCandles (wsV RX0 67 RX0 yX0_lightCandle wsX0_lightCandle) := goodIn_app (goodIn_of _ (by decide +kernel)) ggX0_burnCandles_X0_lightCandle
set_option maxRecDepth 20000 in
theorem ggX0_burnCandle_X2_at : GoodIn wsX0_burnCandle wsX2_at := goodIn_r _ [9] (by decide +kernel) (by decide +kernel)
set_option maxRecDepth 20000 in
theorem gX0_burnCandle_X2_at_n53 : GoodIn wsX0_burnCandle (wsX2_at) := ggX0_burnCandle_X2_at
set_option maxRecDepth 20000 in
theorem ggX0_burnCandle_X2_put : GoodIn wsX0_burnCandle wsX2_put := goodIn_r _ [11] (by decide +kernel) (by decide +kernel)
set_option maxRecDepth 20000 in
theorem gX0_burnCandle_X2_put_n57 : GoodIn wsX0_burnCandle (wsX2_put) := ggX0_burnCandle_X2_put
set_option maxRecDepth 20000 in
theorem ggX0_countNightOut_X0_stayOf : GoodIn wsX0_countNightOut wsX0_stayOf := goodIn_r _ [7, 8, 9, 10, 11, 55, 56, 57, 58, 59, 60, 61, 62, 63, 64] (by decide +kernel) (by decide +kernel)
set_option maxRecDepth 20000 in
theorem gX0_countNightOut_X0_stayOf : GoodIn wsX0_countNightOut (wsV RX0 79 RX0 yX0_stayOf wsX0_stayOf) := goodIn_app (goodIn_of _ (by decide +kernel)) ggX0_countNightOut_X0_stayOf
set_option maxRecDepth 20000 in
theorem ggX0_countNightOut_X2_at : GoodIn wsX0_countNightOut wsX2_at := goodIn_r _ [11] (by decide +kernel) (by decide +kernel)
set_option maxRecDepth 20000 in
theorem gX0_countNightOut_X2_at_n53 : GoodIn wsX0_countNightOut (wsX2_at) := ggX0_countNightOut_X2_at
set_option maxRecDepth 20000 in
theorem ggX0_countNightOut_X2_put : GoodIn wsX0_countNightOut wsX2_put := goodIn_r _ [13] (by decide +kernel) (by decide +kernel)
set_option maxRecDepth 20000 in
theorem gX0_countNightOut_X2_put_n57 : GoodIn wsX0_countNightOut (wsX2_put) := ggX0_countNightOut_X2_put
set_option maxRecDepth 20000 in
theorem ggX0_countNightOut_X1_votesToLose : GoodIn wsX0_countNightOut wsX1_votesToLose := goodIn_r _ [18, 19, 20, 21, 22, 23, 24, 25, 17, 26, 27, 28, 29, 30, 31, 32, 33, 34, 35, 36, 37, 65, 66, 67, 68, 69, 70, 71, 72] (by decide +kernel) (by decide +kernel)
set_option maxRecDepth 20000 in
theorem gX0_countNightOut_X1_votesToLose : GoodIn wsX0_countNightOut (wsV RX0 133 RX1 yX1_votesToLose wsX1_votesToLose) := goodIn_app (goodIn_of _ (by decide +kernel)) ggX0_countNightOut_X1_votesToLose
set_option maxRecDepth 20000 in
theorem ggX0_countNightOut_X0_endWaiting : GoodIn wsX0_countNightOut wsX0_endWaiting := goodIn_r _ [41, 8, 42, 43, 2, 44, 45, 12, 10, 13, 46, 47, 48, 49, 6, 50, 51, 52, 53, 17, 54, 32, 9, 11, 55, 56, 57, 58, 59, 60, 61, 62, 63, 64, 65, 66, 67, 68, 69, 70, 71, 72] (by decide +kernel) (by decide +kernel)
set_option maxRecDepth 20000 in
theorem gX0_countNightOut_X0_endWaiting : GoodIn wsX0_countNightOut (wsV RX0 136 RX0 yX0_endWaiting wsX0_endWaiting) := goodIn_app (goodIn_of _ (by decide +kernel)) ggX0_countNightOut_X0_endWaiting
set_option maxRecDepth 20000 in
theorem ggX1_enterShip_X2_put : GoodIn wsX1_enterShip wsX2_put := goodIn_r _ [5] (by decide +kernel) (by decide +kernel)
set_option maxRecDepth 20000 in
theorem gX1_enterShip_X2_put_n32 : GoodIn wsX1_enterShip (wsX2_put) := ggX1_enterShip_X2_put
set_option maxRecDepth 20000 in
theorem ggX1_enterSailor_X2_put : GoodIn wsX1_enterSailor wsX2_put := goodIn_r _ [7] (by decide +kernel) (by decide +kernel)
set_option maxRecDepth 20000 in
theorem gX1_enterSailor_X2_put_n32 : GoodIn wsX1_enterSailor (wsX2_put) := ggX1_enterSailor_X2_put
set_option maxRecDepth 20000 in
theorem ggX1_enterSailor_X2_mark : GoodIn wsX1_enterSailor wsX2_mark := goodIn_r _ [9] (by decide +kernel) (by decide +kernel)
set_option maxRecDepth 20000 in
theorem gX1_enterSailor_X2_mark_n39 : GoodIn wsX1_enterSailor (wsX2_mark) := ggX1_enterSailor_X2_mark
set_option maxRecDepth 20000 in
theorem ggX1_votersFor_X1_countOfShip : GoodIn wsX1_votersFor wsX1_countOfShip := goodIn_r _ [6, 7, 8, 9, 10, 11, 12, 13, 14, 15] (by decide +kernel) (by decide +kernel)
set_option maxRecDepth 20000 in
theorem gX1_votersFor_X1_countOfShip : GoodIn wsX1_votersFor (wsV RX1 46 RX1 yX1_countOfShip wsX1_countOfShip) := goodIn_app (goodIn_of _ (by decide +kernel)) ggX1_votersFor_X1_countOfShip
set_option maxRecDepth 20000 in
theorem ggX1_votesAgainst_X1_countOfShip : GoodIn wsX1_votesAgainst wsX1_countOfShip := goodIn_r _ [6, 7, 8, 9, 10, 11, 12, 13, 14, 15] (by decide +kernel) (by decide +kernel)
set_option maxRecDepth 20000 in
theorem gX1_votesAgainst_X1_countOfShip : GoodIn wsX1_votesAgainst (wsV RX1 46 RX1 yX1_countOfShip wsX1_countOfShip) := goodIn_app (goodIn_of _ (by decide +kernel)) ggX1_votesAgainst_X1_countOfShip
set_option maxRecDepth 20000 in
theorem ggX1_votesToLose_X1_votersFor : GoodIn wsX1_votesToLose wsX1_votersFor := goodIn_r _ [9, 10, 11, 12, 13, 8, 14, 15, 21, 22, 23, 24, 25, 26, 27, 28] (by decide +kernel) (by decide +kernel)
set_option maxRecDepth 20000 in
theorem gX1_votesToLose_X1_votersFor : GoodIn wsX1_votesToLose (wsV RX1 50 RX1 yX1_votersFor wsX1_votersFor) := goodIn_app (goodIn_of _ (by decide +kernel)) ggX1_votesToLose_X1_votersFor
set_option maxRecDepth 20000 in
theorem ggX1_votesToLose_X1_votesAgainst : GoodIn wsX1_votesToLose wsX1_votesAgainst := goodIn_r _ [19, 20, 11, 12, 13, 8, 14, 15, 21, 22, 23, 24, 25, 26, 27, 28] (by decide +kernel) (by decide +kernel)
set_option maxRecDepth 20000 in
theorem gX1_votesToLose_X1_votesAgainst : GoodIn wsX1_votesToLose (wsV RX1 54 RX1 yX1_votesAgainst wsX1_votesAgainst) := goodIn_app (goodIn_of _ (by decide +kernel)) ggX1_votesToLose_X1_votesAgainst
set_option maxRecDepth 20000 in
theorem ggX2_init_X1_init : GoodIn wsX2_init wsX1_init := goodIn_r _ [15, 16, 2, 3, 17, 18, 19, 20, 21, 22, 23, 35, 36, 37, 38, 39, 40, 41, 42] (by decide +kernel) (by decide +kernel)
set_option maxRecDepth 20000 in
theorem gX2_init_X1_init : GoodIn wsX2_init (wsX1_init) := ggX2_init_X1_init
set_option maxRecDepth 20000 in
theorem ggX2_init_X0_init : GoodIn wsX2_init wsX0_init := goodIn_r _ [26, 27, 2, 3, 17, 28, 29, 21, 30, 31, 32, 33, 34, 46, 47, 48, 49, 50, 51, 52, 53, 54, 55] (by decide +kernel) (by decide +kernel)
set_option maxRecDepth 20000 in
theorem gX2_init_X0_init : GoodIn wsX2_init (wsX0_init) := ggX2_init_X0_init
set_option maxRecDepth 20000 in
theorem ggX2_addShip_X1_enterShip : GoodIn wsX2_addShip wsX1_enterShip := goodIn_r _ [10, 11, 12, 13, 14, 15, 19, 20, 21, 22, 23, 24, 25, 26] (by decide +kernel) (by decide +kernel)
set_option maxRecDepth 20000 in
theorem gX2_addShip_X1_enterShip : GoodIn wsX2_addShip (wsV RX2 44 RX1 yX1_enterShip wsX1_enterShip) := goodIn_app (goodIn_of _ (by decide +kernel)) ggX2_addShip_X1_enterShip
set_option maxRecDepth 20000 in
theorem ggX2_addSailor_X2_needShip : GoodIn wsX2_addSailor wsX2_needShip := goodIn_ca (goodIn_r _ [11, 1, 2, 5, 34, 35, 36, 37, 38, 39, 40, 41, 42, 43, 44] (by decide +kernel) (by decide +kernel)) (goodIn_sub (fun _ h => List.mem_cons_of_mem _ (List.mem_append_left _ (List.mem_append_right _ h))) (by decide +kernel))
set_option maxRecDepth 20000 in
theorem gX2_addSailor_X2_needShip : GoodIn wsX2_addSailor (wsV RX2 48 RX2 yX2_needShip wsX2_needShip) := goodIn_app (goodIn_of _ (by decide +kernel)) ggX2_addSailor_X2_needShip
set_option maxRecDepth 20000 in
theorem ggX2_addSailor_X2_at : GoodIn wsX2_addSailor wsX2_at := goodIn_r _ [14] (by decide +kernel) (by decide +kernel)
set_option maxRecDepth 20000 in
theorem gX2_addSailor_X2_at : GoodIn wsX2_addSailor (va_wsS RX2 56 yX2_at wsX2_at) := goodIn_app (goodIn_of _ (by decide +kernel)) ggX2_addSailor_X2_at
set_option maxRecDepth 20000 in
theorem ggX2_addSailor_X0_stayOf : GoodIn wsX2_addSailor wsX0_stayOf := goodIn_r _ [19, 20, 13, 10, 14, 45, 46, 47, 48, 49, 50, 51, 52, 53, 54] (by decide +kernel) (by decide +kernel)
set_option maxRecDepth 20000 in
theorem gX2_addSailor_X0_stayOf : GoodIn wsX2_addSailor (wsV RX2 65 RX0 yX0_stayOf wsX0_stayOf) := goodIn_app (goodIn_of _ (by decide +kernel)) ggX2_addSailor_X0_stayOf
set_option maxRecDepth 20000 in
theorem ggX2_addSailor_X1_enterSailor : GoodIn wsX2_addSailor wsX1_enterSailor := goodIn_r _ [25, 26, 27, 28, 29, 30, 10, 31, 32, 33, 37, 38, 39, 40, 41, 42, 43, 44] (by decide +kernel) (by decide +kernel)
set_option maxRecDepth 20000 in
theorem gX2_addSailor_X1_enterSailor : GoodIn wsX2_addSailor (wsV RX2 75 RX1 yX1_enterSailor wsX1_enterSailor) := goodIn_app (goodIn_of _ (by decide +kernel)) ggX2_addSailor_X1_enterSailor
set_option maxRecDepth 20000 in
theorem ggX2_addWatcher_X1_enterWatcher : GoodIn wsX2_addWatcher wsX1_enterWatcher := goodIn_r _ [9, 10, 18, 19, 20, 21, 22, 23, 24, 25] (by decide +kernel) (by decide +kernel)
set_option maxRecDepth 20000 in
theorem gX2_addWatcher_X1_enterWatcher : GoodIn wsX2_addWatcher (wsV RX2 84 RX1 yX1_enterWatcher wsX1_enterWatcher) := goodIn_app (goodIn_of _ (by decide +kernel)) ggX2_addWatcher_X1_enterWatcher
set_option maxRecDepth 20000 in
theorem ggX2_addWatcher_X2_put : GoodIn wsX2_addWatcher wsX2_put := goodIn_r _ [14] (by decide +kernel) (by decide +kernel)
set_option maxRecDepth 20000 in
theorem gX2_addWatcher_X2_put : GoodIn wsX2_addWatcher (va_wsS RX2 91 yX2_put wsX2_put) := goodIn_app (goodIn_of _ (by decide +kernel)) ggX2_addWatcher_X2_put
set_option maxRecDepth 20000 in
theorem ggX2_sail_X2_needShip : GoodIn wsX2_sail wsX2_needShip := goodIn_ca (goodIn_r _ [9, 10, 11, 4, 45, 46, 47, 48, 49, 50, 51, 52, 53, 54, 55] (by decide +kernel) (by decide +kernel)) (goodIn_sub (fun _ h => List.mem_cons_of_mem _ (List.mem_append_right _ h)) (by decide +kernel))
set_option maxRecDepth 20000 in
theorem gX2_sail_X2_needShip : GoodIn wsX2_sail (wsV RX2 48 RX2 yX2_needShip wsX2_needShip) := goodIn_app (goodIn_of _ (by decide +kernel)) ggX2_sail_X2_needShip
set_option maxRecDepth 20000 in
theorem ggX2_sail_X0_stayOf : GoodIn wsX2_sail wsX0_stayOf := goodIn_r _ [16, 17, 18, 8, 19, 56, 57, 58, 59, 60, 61, 62, 63, 64, 65] (by decide +kernel) (by decide +kernel)
set_option maxRecDepth 20000 in
theorem gX2_sail_X0_stayOf : GoodIn wsX2_sail (wsV RX2 65 RX0 yX0_stayOf wsX0_stayOf) := goodIn_app (goodIn_of _ (by decide +kernel)) ggX2_sail_X0_stayOf
set_option maxRecDepth 20000 in
theorem ggX2_sail_X1_clearVotes : GoodIn wsX2_sail wsX1_clearVotes := goodIn_r _ [24, 25, 26, 48, 49, 50, 51, 52, 53, 54, 55] (by decide +kernel) (by decide +kernel)
set_option maxRecDepth 20000 in
theorem gX2_sail_X1_clearVotes : GoodIn wsX2_sail (wsV RX2 100 RX1 yX1_clearVotes wsX1_clearVotes) := goodIn_app (goodIn_of _ (by decide +kernel)) ggX2_sail_X1_clearVotes
set_option maxRecDepth 20000 in
theorem ggX2_sail_X0_sendOut : GoodIn wsX2_sail wsX0_sendOut := goodIn_r _ [30, 17, 31, 32, 33, 8, 34, 35, 36, 37, 23, 38, 25, 39, 40, 41, 15, 42, 43, 44, 56, 57, 58, 59, 60, 61, 62, 63, 64, 65, 48, 49, 50, 51, 52, 53, 54, 55] (by decide +kernel) (by decide +kernel)
set_option maxRecDepth 20000 in
theorem gX2_sail_X0_sendOut : GoodIn wsX2_sail (wsV RX2 103 RX0 yX0_sendOut wsX0_sendOut) := goodIn_app (goodIn_of _ (by decide +kernel)) ggX2_sail_X0_sendOut
set_option maxRecDepth 20000 in
theorem ggX2_comeHome_X2_needShip : GoodIn wsX2_comeHome wsX2_needShip := goodIn_ca (goodIn_r _ [8, 9, 10, 11, 56, 57, 58, 69, 70, 71, 72, 73, 74, 75, 76] (by decide +kernel) (by decide +kernel)) (goodIn_sub (fun _ h => List.mem_cons_of_mem _ (List.mem_append_right _ h)) (by decide +kernel))
set_option maxRecDepth 20000 in
theorem gX2_comeHome_X2_needShip : GoodIn wsX2_comeHome (wsV RX2 48 RX2 yX2_needShip wsX2_needShip) := goodIn_app (goodIn_of _ (by decide +kernel)) ggX2_comeHome_X2_needShip
set_option maxRecDepth 20000 in
theorem ggX2_comeHome_X0_stayOf : GoodIn wsX2_comeHome wsX0_stayOf := goodIn_r _ [16, 17, 18, 7, 19, 59, 60, 61, 62, 63, 64, 65, 66, 67, 68] (by decide +kernel) (by decide +kernel)
set_option maxRecDepth 20000 in
theorem gX2_comeHome_X0_stayOf : GoodIn wsX2_comeHome (wsV RX2 65 RX0 yX0_stayOf wsX0_stayOf) := goodIn_app (goodIn_of _ (by decide +kernel)) ggX2_comeHome_X0_stayOf
set_option maxRecDepth 20000 in
theorem ggX2_comeHome_X0_believeWatchersOf : GoodIn wsX2_comeHome wsX0_believeWatchersOf := goodIn_r _ [23, 24, 25, 26, 27, 28, 29, 30, 31, 15, 32, 33, 34, 35, 36, 18, 7, 19, 37, 38, 59, 60, 61, 62, 63, 64, 65, 66, 67, 68] (by decide +kernel) (by decide +kernel)
set_option maxRecDepth 20000 in
theorem gX2_comeHome_X0_believeWatchersOf : GoodIn wsX2_comeHome (wsV RX2 108 RX0 yX0_believeWatchersOf wsX0_believeWatchersOf) := goodIn_app (goodIn_of _ (by decide +kernel)) ggX2_comeHome_X0_believeWatchersOf
set_option maxRecDepth 20000 in
theorem ggX2_comeHome_X0_endWaiting : GoodIn wsX2_comeHome wsX0_endWaiting := goodIn_r _ [42, 17, 43, 33, 44, 45, 46, 37, 7, 38, 47, 48, 34, 35, 15, 36, 49, 50, 51, 52, 53, 54, 18, 19, 59, 60, 61, 62, 63, 64, 65, 66, 67, 68, 69, 70, 71, 72, 73, 74, 75, 76] (by decide +kernel) (by decide +kernel)
set_option maxRecDepth 20000 in
theorem gX2_comeHome_X0_endWaiting : GoodIn wsX2_comeHome (wsV RX2 111 RX0 yX0_endWaiting wsX0_endWaiting) := goodIn_app (goodIn_of _ (by decide +kernel)) ggX2_comeHome_X0_endWaiting
set_option maxRecDepth 20000 in
theorem ggX2_comeHome_X2_at : GoodIn wsX2_comeHome wsX2_at := goodIn_r _ [19] (by decide +kernel) (by decide +kernel)
set_option maxRecDepth 20000 in
theorem gX2_comeHome_X2_at : GoodIn wsX2_comeHome (va_wsS RX2 56 yX2_at wsX2_at) := goodIn_app (goodIn_of _ (by decide +kernel)) ggX2_comeHome_X2_at
set_option maxRecDepth 20000 in
theorem ggX2_sight_X2_needNewSighting : GoodIn wsX2_sight wsX2_needNewSighting := goodIn_ca (goodIn_ca (goodIn_r _ [6, 7, 8, 1, 9, 10, 11, 5, 12, 13, 14, 15, 16, 17, 18, 19, 20, 21, 22, 23, 24, 25, 26, 27, 28, 29, 30, 31, 32, 33, 34, 35, 54, 55, 56, 67, 68, 69, 70, 71, 72, 73, 74, 57, 58, 59, 60, 61, 62, 63, 64, 65, 66] (by decide +kernel) (by decide +kernel)) (goodIn_sub (fun _ h => List.mem_cons_of_mem _ (List.mem_append_left _ (List.mem_append_right _ h))) (by decide +kernel))) (goodIn_sub (fun _ h => List.mem_cons_of_mem _ (List.mem_append_right _ h)) (by decide +kernel))
set_option maxRecDepth 20000 in
theorem gX2_sight_X2_needNewSighting : GoodIn wsX2_sight (wsV RX2 118 RX2 yX2_needNewSighting wsX2_needNewSighting) := goodIn_app (goodIn_of _ (by decide +kernel)) ggX2_sight_X2_needNewSighting
set_option maxRecDepth 20000 in
theorem ggX2_sight_X0_enterSighting : GoodIn wsX2_sight wsX0_enterSighting := goodIn_r _ [39, 32, 40, 33, 34, 23, 35, 41, 5, 42, 43, 44, 45, 46, 47, 48, 29, 30, 31, 26, 27, 49, 50, 57, 58, 59, 60, 61, 62, 63, 64, 65, 66] (by decide +kernel) (by decide +kernel)
set_option maxRecDepth 20000 in
theorem gX2_sight_X0_enterSighting : GoodIn wsX2_sight (wsV RX2 121 RX0 yX0_enterSighting wsX0_enterSighting) := goodIn_app (goodIn_of _ (by decide +kernel)) ggX2_sight_X0_enterSighting
set_option maxRecDepth 20000 in
theorem ggX2_sight_X2_is : GoodIn wsX2_sight wsX2_is := goodIn_r _ [53] (by decide +kernel) (by decide +kernel)
set_option maxRecDepth 20000 in
theorem gX2_sight_X2_is : GoodIn wsX2_sight (va_wsS RX2 128 yX2_is wsX2_is) := goodIn_app (goodIn_of _ (by decide +kernel)) ggX2_sight_X2_is
set_option maxRecDepth 20000 in
theorem ggX2_vote_X2_needSailor : GoodIn wsX2_vote wsX2_needSailor := goodIn_ca (goodIn_r _ [9, 10, 11, 3, 41, 42, 43, 44, 45, 46, 47, 48, 49, 50, 51] (by decide +kernel) (by decide +kernel)) (goodIn_sub (fun _ h => List.mem_cons_of_mem _ (List.mem_append_right _ h)) (by decide +kernel))
set_option maxRecDepth 20000 in
theorem gX2_vote_X2_needSailor : GoodIn wsX2_vote (wsV RX2 132 RX2 yX2_needSailor wsX2_needSailor) := goodIn_app (goodIn_of _ (by decide +kernel)) ggX2_vote_X2_needSailor
set_option maxRecDepth 20000 in
theorem ggX2_vote_X2_is : GoodIn wsX2_vote wsX2_is := goodIn_r _ [14] (by decide +kernel) (by decide +kernel)
set_option maxRecDepth 20000 in
theorem gX2_vote_X2_is : GoodIn wsX2_vote (va_wsS RX2 128 yX2_is wsX2_is) := goodIn_app (goodIn_of _ (by decide +kernel)) ggX2_vote_X2_is
set_option maxRecDepth 20000 in
theorem ggX2_vote_X1_shipWith : GoodIn wsX2_vote wsX1_shipWith := goodIn_r _ [19, 20, 44, 45, 46, 47, 48, 49, 50, 51] (by decide +kernel) (by decide +kernel)
set_option maxRecDepth 20000 in
theorem gX2_vote_X1_shipWith : GoodIn wsX2_vote (wsV RX2 140 RX1 yX1_shipWith wsX1_shipWith) := goodIn_app (goodIn_of _ (by decide +kernel)) ggX2_vote_X1_shipWith
set_option maxRecDepth 20000 in
theorem ggX2_vote_X0_stayOf : GoodIn wsX2_vote wsX0_stayOf := goodIn_r _ [25, 26, 27, 8, 28, 52, 53, 54, 55, 56, 57, 58, 59, 60, 61] (by decide +kernel) (by decide +kernel)
set_option maxRecDepth 20000 in
theorem gX2_vote_X0_stayOf : GoodIn wsX2_vote (wsV RX2 65 RX0 yX0_stayOf wsX0_stayOf) := goodIn_app (goodIn_of _ (by decide +kernel)) ggX2_vote_X0_stayOf
set_option maxRecDepth 20000 in
theorem ggX2_vote_X2_mark : GoodIn wsX2_vote wsX2_mark := goodIn_r _ [31] (by decide +kernel) (by decide +kernel)
set_option maxRecDepth 20000 in
theorem gX2_vote_X2_mark : GoodIn wsX2_vote (va_wsS RX2 148 yX2_mark wsX2_mark) := goodIn_app (goodIn_of _ (by decide +kernel)) ggX2_vote_X2_mark
set_option maxRecDepth 20000 in
theorem ggX2_vote_X1_votesAgainst : GoodIn wsX2_vote wsX1_votesAgainst := goodIn_r _ [35, 36, 37, 38, 39, 18, 40, 20, 44, 45, 46, 47, 48, 49, 50, 51] (by decide +kernel) (by decide +kernel)
set_option maxRecDepth 20000 in
theorem gX2_vote_X1_votesAgainst : GoodIn wsX2_vote (wsV RX2 152 RX1 yX1_votesAgainst wsX1_votesAgainst) := goodIn_app (goodIn_of _ (by decide +kernel)) ggX2_vote_X1_votesAgainst
set_option maxRecDepth 20000 in
theorem ggX2_burnNights_X2_needNights : GoodIn wsX2_burnNights wsX2_needNights := goodIn_ca (goodIn_r _ [5, 6, 7] (by decide +kernel) (by decide +kernel)) (goodIn_sub (fun _ h => List.mem_cons_of_mem _ (List.mem_append_right _ h)) (by decide +kernel))
set_option maxRecDepth 20000 in
theorem gX2_burnNights_X2_needNights : GoodIn wsX2_burnNights (va_wsS RX2 155 yX2_needNights wsX2_needNights) := goodIn_app (goodIn_of _ (by decide +kernel)) ggX2_burnNights_X2_needNights
set_option maxRecDepth 20000 in
theorem ggX2_burnNights_X0_passNights : GoodIn wsX2_burnNights wsX0_passNights := goodIn_r _ [12, 13, 14, 15, 11, 16, 17, 18, 19, 20, 21, 22, 23, 24, 25, 26, 27, 28, 29, 30, 31, 32, 33, 34, 35, 4, 36, 37, 38, 39, 40, 41, 42, 43, 44, 45, 46, 47, 48, 49, 50, 51, 52, 53, 54, 55, 56, 57, 58, 59, 60, 61, 62, 63, 64, 65, 66, 67, 68, 69, 70, 71, 72, 73, 74, 75, 76, 77, 78, 79, 80, 81, 82, 83, 84, 85, 86, 87, 88, 89, 90, 91, 92, 93, 94, 95, 96, 97, 98, 99, 100, 101, 102, 103, 104, 105, 106, 107, 108, 109, 110, 111, 112, 113, 117, 118, 119, 120, 121, 122, 123, 124, 125, 126, 127, 128, 129, 130, 131, 132, 133, 134] (by decide +kernel) (by decide +kernel)
set_option maxRecDepth 20000 in
theorem gX2_burnNights_X0_passNights : GoodIn wsX2_burnNights (wsV RX2 158 RX0 yX0_passNights wsX0_passNights) := goodIn_app (goodIn_of _ (by decide +kernel)) ggX2_burnNights_X0_passNights
set_option maxRecDepth 20000 in
theorem ggX2_mastsOf_X2_needShip : GoodIn wsX2_mastsOf wsX2_needShip := goodIn_ca (goodIn_r _ [6, 7, 8, 1, 12, 13, 14, 15, 16, 17, 18, 19, 20, 21, 22] (by decide +kernel) (by decide +kernel)) (goodIn_sub (fun _ h => List.mem_cons_of_mem _ (List.mem_append_right _ h)) (by decide +kernel))
set_option maxRecDepth 20000 in
theorem gX2_mastsOf_X2_needShip : GoodIn wsX2_mastsOf (wsV RX2 48 RX2 yX2_needShip wsX2_needShip) := goodIn_app (goodIn_of _ (by decide +kernel)) ggX2_mastsOf_X2_needShip
set_option maxRecDepth 20000 in
theorem ggX2_mastsOf_X2_at : GoodIn wsX2_mastsOf wsX2_at := goodIn_r _ [11] (by decide +kernel) (by decide +kernel)
set_option maxRecDepth 20000 in
theorem gX2_mastsOf_X2_at : GoodIn wsX2_mastsOf (va_wsS RX2 56 yX2_at wsX2_at) := goodIn_app (goodIn_of _ (by decide +kernel)) ggX2_mastsOf_X2_at
set_option maxRecDepth 20000 in
theorem ggX2_isAway_X2_needShip : GoodIn wsX2_isAway wsX2_needShip := goodIn_ca (goodIn_r _ [6, 7, 8, 9, 18, 19, 20, 21, 22, 23, 24, 25, 26, 27, 28] (by decide +kernel) (by decide +kernel)) (goodIn_sub (fun _ h => List.mem_cons_of_mem _ (List.mem_append_right _ h)) (by decide +kernel))
set_option maxRecDepth 20000 in
theorem gX2_isAway_X2_needShip : GoodIn wsX2_isAway (wsV RX2 48 RX2 yX2_needShip wsX2_needShip) := goodIn_app (goodIn_of _ (by decide +kernel)) ggX2_isAway_X2_needShip
set_option maxRecDepth 20000 in
theorem ggX2_isAway_X0_stayOf : GoodIn wsX2_isAway wsX0_stayOf := goodIn_r _ [14, 15, 16, 5, 17, 29, 30, 31, 32, 33, 34, 35, 36, 37, 38] (by decide +kernel) (by decide +kernel)
set_option maxRecDepth 20000 in
theorem gX2_isAway_X0_stayOf : GoodIn wsX2_isAway (wsV RX2 65 RX0 yX0_stayOf wsX0_stayOf) := goodIn_app (goodIn_of _ (by decide +kernel)) ggX2_isAway_X0_stayOf
set_option maxRecDepth 20000 in
theorem ggX2_isLost_X2_needShip : GoodIn wsX2_isLost wsX2_needShip := goodIn_ca (goodIn_r _ [6, 7, 8, 9, 18, 19, 20, 21, 22, 23, 24, 25, 26, 27, 28] (by decide +kernel) (by decide +kernel)) (goodIn_sub (fun _ h => List.mem_cons_of_mem _ (List.mem_append_right _ h)) (by decide +kernel))
set_option maxRecDepth 20000 in
theorem gX2_isLost_X2_needShip : GoodIn wsX2_isLost (wsV RX2 48 RX2 yX2_needShip wsX2_needShip) := goodIn_app (goodIn_of _ (by decide +kernel)) ggX2_isLost_X2_needShip
set_option maxRecDepth 20000 in
theorem ggX2_isLost_X0_stayOf : GoodIn wsX2_isLost wsX0_stayOf := goodIn_r _ [14, 15, 16, 5, 17, 29, 30, 31, 32, 33, 34, 35, 36, 37, 38] (by decide +kernel) (by decide +kernel)
set_option maxRecDepth 20000 in
theorem gX2_isLost_X0_stayOf : GoodIn wsX2_isLost (wsV RX2 65 RX0 yX0_stayOf wsX0_stayOf) := goodIn_app (goodIn_of _ (by decide +kernel)) ggX2_isLost_X0_stayOf
set_option maxRecDepth 20000 in
theorem ggX2_nightsOut_X2_needShip : GoodIn wsX2_nightsOut wsX2_needShip := goodIn_ca (goodIn_r _ [6, 7, 8, 9, 13, 14, 15, 26, 27, 28, 29, 30, 31, 32, 33] (by decide +kernel) (by decide +kernel)) (goodIn_sub (fun _ h => List.mem_cons_of_mem _ (List.mem_append_right _ h)) (by decide +kernel))
set_option maxRecDepth 20000 in
theorem gX2_nightsOut_X2_needShip : GoodIn wsX2_nightsOut (wsV RX2 48 RX2 yX2_needShip wsX2_needShip) := goodIn_app (goodIn_of _ (by decide +kernel)) ggX2_nightsOut_X2_needShip
set_option maxRecDepth 20000 in
theorem ggX2_nightsOut_X2_at : GoodIn wsX2_nightsOut wsX2_at := goodIn_r _ [12] (by decide +kernel) (by decide +kernel)
set_option maxRecDepth 20000 in
theorem gX2_nightsOut_X2_at : GoodIn wsX2_nightsOut (va_wsS RX2 56 yX2_at wsX2_at) := goodIn_app (goodIn_of _ (by decide +kernel)) ggX2_nightsOut_X2_at
set_option maxRecDepth 20000 in
theorem ggX2_isRung_X2_needShip : GoodIn wsX2_isRung wsX2_needShip := goodIn_ca (goodIn_r _ [6, 7, 8, 9, 13, 14, 15, 26, 27, 28, 29, 30, 31, 32, 33] (by decide +kernel) (by decide +kernel)) (goodIn_sub (fun _ h => List.mem_cons_of_mem _ (List.mem_append_right _ h)) (by decide +kernel))
set_option maxRecDepth 20000 in
theorem gX2_isRung_X2_needShip : GoodIn wsX2_isRung (wsV RX2 48 RX2 yX2_needShip wsX2_needShip) := goodIn_app (goodIn_of _ (by decide +kernel)) ggX2_isRung_X2_needShip
set_option maxRecDepth 20000 in
theorem ggX2_isRung_X2_is : GoodIn wsX2_isRung wsX2_is := goodIn_r _ [12] (by decide +kernel) (by decide +kernel)
set_option maxRecDepth 20000 in
theorem gX2_isRung_X2_is : GoodIn wsX2_isRung (va_wsS RX2 128 yX2_is wsX2_is) := goodIn_app (goodIn_of _ (by decide +kernel)) ggX2_isRung_X2_is
set_option maxRecDepth 20000 in
theorem ggX2_trustIn_X2_needShip : GoodIn wsX2_trustIn wsX2_needShip := goodIn_ca (goodIn_r _ [6, 7, 8, 9, 26, 27, 28, 29, 30, 31, 32, 33, 34, 35, 36] (by decide +kernel) (by decide +kernel)) (goodIn_sub (fun _ h => List.mem_cons_of_mem _ (List.mem_append_right _ h)) (by decide +kernel))
set_option maxRecDepth 20000 in
theorem gX2_trustIn_X2_needShip : GoodIn wsX2_trustIn (wsV RX2 48 RX2 yX2_needShip wsX2_needShip) := goodIn_app (goodIn_of _ (by decide +kernel)) ggX2_trustIn_X2_needShip
set_option maxRecDepth 20000 in
theorem ggX2_trustIn_X0_trustSum : GoodIn wsX2_trustIn wsX0_trustSum := goodIn_r _ [14, 15, 16, 17, 18, 13, 19, 20, 21, 22, 23, 24, 5, 25, 37, 38, 39, 40, 41, 42, 43, 44, 45, 46] (by decide +kernel) (by decide +kernel)
set_option maxRecDepth 20000 in
theorem gX2_trustIn_X0_trustSum : GoodIn wsX2_trustIn (wsV RX2 161 RX0 yX0_trustSum wsX0_trustSum) := goodIn_app (goodIn_of _ (by decide +kernel)) ggX2_trustIn_X0_trustSum
set_option maxRecDepth 20000 in
theorem ggX2_voters_X2_needShip : GoodIn wsX2_voters wsX2_needShip := goodIn_ca (goodIn_r _ [6, 7, 8, 1, 20, 21, 22, 23, 24, 25, 26, 27, 28, 29, 30] (by decide +kernel) (by decide +kernel)) (goodIn_sub (fun _ h => List.mem_cons_of_mem _ (List.mem_append_right _ h)) (by decide +kernel))
set_option maxRecDepth 20000 in
theorem gX2_voters_X2_needShip : GoodIn wsX2_voters (wsV RX2 48 RX2 yX2_needShip wsX2_needShip) := goodIn_app (goodIn_of _ (by decide +kernel)) ggX2_voters_X2_needShip
set_option maxRecDepth 20000 in
theorem ggX2_voters_X1_votersFor : GoodIn wsX2_voters wsX1_votersFor := goodIn_r _ [13, 14, 15, 16, 17, 12, 18, 19, 23, 24, 25, 26, 27, 28, 29, 30] (by decide +kernel) (by decide +kernel)
set_option maxRecDepth 20000 in
theorem gX2_voters_X1_votersFor : GoodIn wsX2_voters (wsV RX2 164 RX1 yX1_votersFor wsX1_votersFor) := goodIn_app (goodIn_of _ (by decide +kernel)) ggX2_voters_X1_votersFor
set_option maxRecDepth 20000 in
theorem ggX2_votesForLost_X2_needShip : GoodIn wsX2_votesForLost wsX2_needShip := goodIn_ca (goodIn_r _ [6, 7, 8, 1, 20, 21, 22, 23, 24, 25, 26, 27, 28, 29, 30] (by decide +kernel) (by decide +kernel)) (goodIn_sub (fun _ h => List.mem_cons_of_mem _ (List.mem_append_right _ h)) (by decide +kernel))
set_option maxRecDepth 20000 in
theorem gX2_votesForLost_X2_needShip : GoodIn wsX2_votesForLost (wsV RX2 48 RX2 yX2_needShip wsX2_needShip) := goodIn_app (goodIn_of _ (by decide +kernel)) ggX2_votesForLost_X2_needShip
set_option maxRecDepth 20000 in
theorem ggX2_votesForLost_X1_votesAgainst : GoodIn wsX2_votesForLost wsX1_votesAgainst := goodIn_r _ [13, 14, 15, 16, 17, 12, 18, 19, 23, 24, 25, 26, 27, 28, 29, 30] (by decide +kernel) (by decide +kernel)
set_option maxRecDepth 20000 in
theorem gX2_votesForLost_X1_votesAgainst : GoodIn wsX2_votesForLost (wsV RX2 152 RX1 yX1_votesAgainst wsX1_votesAgainst) := goodIn_app (goodIn_of _ (by decide +kernel)) ggX2_votesForLost_X1_votesAgainst
set_option maxRecDepth 20000 in
theorem ggX2_votesMissing_X2_needShip : GoodIn wsX2_votesMissing wsX2_needShip := goodIn_ca (goodIn_r _ [6, 7, 8, 1, 33, 34, 35, 36, 37, 38, 39, 40, 41, 42, 43] (by decide +kernel) (by decide +kernel)) (goodIn_sub (fun _ h => List.mem_cons_of_mem _ (List.mem_append_right _ h)) (by decide +kernel))
set_option maxRecDepth 20000 in
theorem gX2_votesMissing_X2_needShip : GoodIn wsX2_votesMissing (wsV RX2 48 RX2 yX2_needShip wsX2_needShip) := goodIn_app (goodIn_of _ (by decide +kernel)) ggX2_votesMissing_X2_needShip
set_option maxRecDepth 20000 in
theorem ggX2_votesMissing_X1_votesToLose : GoodIn wsX2_votesMissing wsX1_votesToLose := goodIn_r _ [13, 14, 15, 16, 17, 18, 19, 20, 12, 21, 22, 23, 24, 25, 26, 27, 28, 29, 30, 31, 32, 36, 37, 38, 39, 40, 41, 42, 43] (by decide +kernel) (by decide +kernel)
set_option maxRecDepth 20000 in
theorem gX2_votesMissing_X1_votesToLose : GoodIn wsX2_votesMissing (wsV RX2 167 RX1 yX1_votesToLose wsX1_votesToLose) := goodIn_app (goodIn_of _ (by decide +kernel)) ggX2_votesMissing_X1_votesToLose
set_option maxRecDepth 20000 in
theorem ggX2_shipOf_X2_needSailor : GoodIn wsX2_shipOf wsX2_needSailor := goodIn_ca (goodIn_r _ [6, 7, 8, 1, 15, 16, 17, 18, 19, 20, 21, 22, 23, 24, 25] (by decide +kernel) (by decide +kernel)) (goodIn_sub (fun _ h => List.mem_cons_of_mem _ (List.mem_append_right _ h)) (by decide +kernel))
set_option maxRecDepth 20000 in
theorem gX2_shipOf_X2_needSailor : GoodIn wsX2_shipOf (wsV RX2 132 RX2 yX2_needSailor wsX2_needSailor) := goodIn_app (goodIn_of _ (by decide +kernel)) ggX2_shipOf_X2_needSailor
set_option maxRecDepth 20000 in
theorem ggX2_shipOf_X1_shipWith : GoodIn wsX2_shipOf wsX1_shipWith := goodIn_r _ [13, 14, 18, 19, 20, 21, 22, 23, 24, 25] (by decide +kernel) (by decide +kernel)
set_option maxRecDepth 20000 in
theorem gX2_shipOf_X1_shipWith : GoodIn wsX2_shipOf (wsV RX2 140 RX1 yX1_shipWith wsX1_shipWith) := goodIn_app (goodIn_of _ (by decide +kernel)) ggX2_shipOf_X1_shipWith
set_option maxRecDepth 20000 in
theorem ggX2_mastOf_X2_needSailor : GoodIn wsX2_mastOf wsX2_needSailor := goodIn_ca (goodIn_r _ [6, 7, 8, 1, 12, 13, 14, 15, 16, 17, 18, 19, 20, 21, 22] (by decide +kernel) (by decide +kernel)) (goodIn_sub (fun _ h => List.mem_cons_of_mem _ (List.mem_append_right _ h)) (by decide +kernel))
set_option maxRecDepth 20000 in
theorem gX2_mastOf_X2_needSailor : GoodIn wsX2_mastOf (wsV RX2 132 RX2 yX2_needSailor wsX2_needSailor) := goodIn_app (goodIn_of _ (by decide +kernel)) ggX2_mastOf_X2_needSailor
set_option maxRecDepth 20000 in
theorem ggX2_mastOf_X2_at : GoodIn wsX2_mastOf wsX2_at := goodIn_r _ [11] (by decide +kernel) (by decide +kernel)
set_option maxRecDepth 20000 in
theorem gX2_mastOf_X2_at : GoodIn wsX2_mastOf (va_wsS RX2 56 yX2_at wsX2_at) := goodIn_app (goodIn_of _ (by decide +kernel)) ggX2_mastOf_X2_at
set_option maxRecDepth 20000 in
theorem ggX2_hasVoter_X2_needSailor : GoodIn wsX2_hasVoter wsX2_needSailor := goodIn_ca (goodIn_r _ [6, 7, 8, 1, 12, 13, 14, 15, 16, 17, 18, 19, 20, 21, 22] (by decide +kernel) (by decide +kernel)) (goodIn_sub (fun _ h => List.mem_cons_of_mem _ (List.mem_append_right _ h)) (by decide +kernel))
set_option maxRecDepth 20000 in
theorem gX2_hasVoter_X2_needSailor : GoodIn wsX2_hasVoter (wsV RX2 132 RX2 yX2_needSailor wsX2_needSailor) := goodIn_app (goodIn_of _ (by decide +kernel)) ggX2_hasVoter_X2_needSailor
set_option maxRecDepth 20000 in
theorem ggX2_hasVoter_X2_is : GoodIn wsX2_hasVoter wsX2_is := goodIn_r _ [11] (by decide +kernel) (by decide +kernel)
set_option maxRecDepth 20000 in
theorem gX2_hasVoter_X2_is : GoodIn wsX2_hasVoter (va_wsS RX2 128 yX2_is wsX2_is) := goodIn_app (goodIn_of _ (by decide +kernel)) ggX2_hasVoter_X2_is
set_option maxRecDepth 20000 in
theorem ggX2_isGivenUp_X2_needSailor : GoodIn wsX2_isGivenUp wsX2_needSailor := goodIn_ca (goodIn_r _ [6, 7, 8, 1, 12, 13, 14, 15, 16, 17, 18, 19, 20, 21, 22] (by decide +kernel) (by decide +kernel)) (goodIn_sub (fun _ h => List.mem_cons_of_mem _ (List.mem_append_right _ h)) (by decide +kernel))
set_option maxRecDepth 20000 in
theorem gX2_isGivenUp_X2_needSailor : GoodIn wsX2_isGivenUp (wsV RX2 132 RX2 yX2_needSailor wsX2_needSailor) := goodIn_app (goodIn_of _ (by decide +kernel)) ggX2_isGivenUp_X2_needSailor
set_option maxRecDepth 20000 in
theorem ggX2_isGivenUp_X2_is : GoodIn wsX2_isGivenUp wsX2_is := goodIn_r _ [11] (by decide +kernel) (by decide +kernel)
set_option maxRecDepth 20000 in
theorem gX2_isGivenUp_X2_is : GoodIn wsX2_isGivenUp (va_wsS RX2 128 yX2_is wsX2_is) := goodIn_app (goodIn_of _ (by decide +kernel)) ggX2_isGivenUp_X2_is
set_option maxRecDepth 20000 in
theorem ggX2_candleOf_X2_needSailor : GoodIn wsX2_candleOf wsX2_needSailor := goodIn_ca (goodIn_r _ [6, 7, 8, 9, 13, 14, 15, 26, 27, 28, 29, 30, 31, 32, 33] (by decide +kernel) (by decide +kernel)) (goodIn_sub (fun _ h => List.mem_cons_of_mem _ (List.mem_append_right _ h)) (by decide +kernel))
set_option maxRecDepth 20000 in
theorem gX2_candleOf_X2_needSailor : GoodIn wsX2_candleOf (wsV RX2 132 RX2 yX2_needSailor wsX2_needSailor) := goodIn_app (goodIn_of _ (by decide +kernel)) ggX2_candleOf_X2_needSailor
set_option maxRecDepth 20000 in
theorem ggX2_candleOf_X2_at : GoodIn wsX2_candleOf wsX2_at := goodIn_r _ [12] (by decide +kernel) (by decide +kernel)
set_option maxRecDepth 20000 in
theorem gX2_candleOf_X2_at : GoodIn wsX2_candleOf (va_wsS RX2 56 yX2_at wsX2_at) := goodIn_app (goodIn_of _ (by decide +kernel)) ggX2_candleOf_X2_at
set_option maxRecDepth 20000 in
theorem ggX2_isDark_X2_needSailor : GoodIn wsX2_isDark wsX2_needSailor := goodIn_ca (goodIn_r _ [6, 7, 8, 9, 30, 31, 32, 33, 34, 35, 36, 37, 38, 39, 40] (by decide +kernel) (by decide +kernel)) (goodIn_sub (fun _ h => List.mem_cons_of_mem _ (List.mem_append_right _ h)) (by decide +kernel))
set_option maxRecDepth 20000 in
theorem gX2_isDark_X2_needSailor : GoodIn wsX2_isDark (wsV RX2 132 RX2 yX2_needSailor wsX2_needSailor) := goodIn_app (goodIn_of _ (by decide +kernel)) ggX2_isDark_X2_needSailor
set_option maxRecDepth 20000 in
theorem ggX2_isDark_X0_darkFor : GoodIn wsX2_isDark wsX0_darkFor := goodIn_r _ [14, 15, 16, 17, 18, 19, 20, 21, 22, 23, 24, 25, 13, 26, 27, 28, 5, 29, 41, 42, 43, 44, 45, 46, 47, 48, 49, 50, 33, 34, 35, 36, 37, 38, 39, 40] (by decide +kernel) (by decide +kernel)
set_option maxRecDepth 20000 in
theorem gX2_isDark_X0_darkFor : GoodIn wsX2_isDark (wsV RX2 176 RX0 yX0_darkFor wsX0_darkFor) := goodIn_app (goodIn_of _ (by decide +kernel)) ggX2_isDark_X0_darkFor
set_option maxRecDepth 20000 in
theorem ggX2_trustOf_X2_needWatcher : GoodIn wsX2_trustOf wsX2_needWatcher := goodIn_ca (goodIn_r _ [6, 7, 8, 9, 13, 14, 15, 26, 27, 28, 29, 30, 31, 32, 33] (by decide +kernel) (by decide +kernel)) (goodIn_sub (fun _ h => List.mem_cons_of_mem _ (List.mem_append_right _ h)) (by decide +kernel))
set_option maxRecDepth 20000 in
theorem gX2_trustOf_X2_needWatcher : GoodIn wsX2_trustOf (wsV RX2 180 RX2 yX2_needWatcher wsX2_needWatcher) := goodIn_app (goodIn_of _ (by decide +kernel)) ggX2_trustOf_X2_needWatcher
set_option maxRecDepth 20000 in
theorem ggX2_trustOf_X2_at : GoodIn wsX2_trustOf wsX2_at := goodIn_r _ [12] (by decide +kernel) (by decide +kernel)
set_option maxRecDepth 20000 in
theorem gX2_trustOf_X2_at : GoodIn wsX2_trustOf (va_wsS RX2 56 yX2_at wsX2_at) := goodIn_app (goodIn_of _ (by decide +kernel)) ggX2_trustOf_X2_at
set_option maxRecDepth 20000 in
theorem ggX2_sightings_X0_sightingCount : GoodIn wsX2_sightings wsX0_sightingCount := goodIn_r _ [6, 7, 11, 12, 13, 14, 15, 16, 17, 18, 19, 20] (by decide +kernel) (by decide +kernel)
set_option maxRecDepth 20000 in
theorem gX2_sightings_X0_sightingCount : GoodIn wsX2_sightings (wsV RX2 183 RX0 yX0_sightingCount wsX0_sightingCount) := goodIn_app (goodIn_of _ (by decide +kernel)) ggX2_sightings_X0_sightingCount
set_option maxRecDepth 20000 in
theorem ggX2_darkCandles_X0_darkCount : GoodIn wsX2_darkCandles wsX0_darkCount := goodIn_r _ [6, 7, 8, 9, 5, 10, 11, 12, 13, 14, 15, 16, 17, 18, 19, 20, 21, 22, 23, 24, 25, 26, 30, 31, 32, 33, 34, 35, 36, 37, 38, 39, 40, 41, 42, 43, 44, 45, 46, 47] (by decide +kernel) (by decide +kernel)
set_option maxRecDepth 20000 in
theorem gX2_darkCandles_X0_darkCount : GoodIn wsX2_darkCandles (wsV RX2 189 RX0 yX0_darkCount wsX0_darkCount) := goodIn_app (goodIn_of _ (by decide +kernel)) ggX2_darkCandles_X0_darkCount
set_option maxRecDepth 20000 in
theorem ggX2_namesOnWall_X0_lostSailors : GoodIn wsX2_namesOnWall wsX0_lostSailors := goodIn_r _ [6, 7, 8, 9, 10, 11, 12, 13, 14, 15, 16, 5, 17, 18, 19, 20, 21, 25, 26, 27, 28, 29, 30, 31, 32, 33, 34, 35, 36, 37, 38, 39, 40, 41, 42] (by decide +kernel) (by decide +kernel)
set_option maxRecDepth 20000 in
theorem gX2_namesOnWall_X0_lostSailors : GoodIn wsX2_namesOnWall (wsV RX2 195 RX0 yX0_lostSailors wsX0_lostSailors) := goodIn_app (goodIn_of _ (by decide +kernel)) ggX2_namesOnWall_X0_lostSailors
set_option maxRecDepth 20000 in
theorem ggX2_wouldRing_X2_needNewSighting : GoodIn wsX2_wouldRing wsX2_needNewSighting := goodIn_ca (goodIn_ca (goodIn_r _ [6, 7, 8, 1, 9, 10, 11, 5, 12, 13, 14, 15, 16, 17, 18, 19, 20, 21, 22, 23, 24, 25, 26, 27, 28, 29, 30, 31, 32, 33, 34, 35, 46, 47, 48, 59, 60, 61, 62, 63, 64, 65, 66, 49, 50, 51, 52, 53, 54, 55, 56, 57, 58] (by decide +kernel) (by decide +kernel)) (goodIn_sub (fun _ h => List.mem_cons_of_mem _ (List.mem_append_left _ (List.mem_append_right _ h))) (by decide +kernel))) (goodIn_sub (fun _ h => List.mem_cons_of_mem _ (List.mem_append_right _ h)) (by decide +kernel))
set_option maxRecDepth 20000 in
theorem gX2_wouldRing_X2_needNewSighting : GoodIn wsX2_wouldRing (wsV RX2 118 RX2 yX2_needNewSighting wsX2_needNewSighting) := goodIn_app (goodIn_of _ (by decide +kernel)) ggX2_wouldRing_X2_needNewSighting
set_option maxRecDepth 20000 in
theorem ggX2_wouldRing_X2_is : GoodIn wsX2_wouldRing wsX2_is := goodIn_r _ [38] (by decide +kernel) (by decide +kernel)
set_option maxRecDepth 20000 in
theorem gX2_wouldRing_X2_is : GoodIn wsX2_wouldRing (va_wsS RX2 128 yX2_is wsX2_is) := goodIn_app (goodIn_of _ (by decide +kernel)) ggX2_wouldRing_X2_is
set_option maxRecDepth 20000 in
theorem ggX2_wouldRing_X0_trustSum : GoodIn wsX2_wouldRing wsX0_trustSum := goodIn_r _ [42, 43, 44, 29, 30, 23, 31, 32, 33, 34, 35, 26, 5, 27, 49, 50, 51, 52, 53, 54, 55, 56, 57, 58] (by decide +kernel) (by decide +kernel)
set_option maxRecDepth 20000 in
theorem gX2_wouldRing_X0_trustSum : GoodIn wsX2_wouldRing (wsV RX2 161 RX0 yX0_trustSum wsX0_trustSum) := goodIn_app (goodIn_of _ (by decide +kernel)) ggX2_wouldRing_X0_trustSum
set_option maxRecDepth 20000 in
theorem ggX2_wouldRing_X2_at : GoodIn wsX2_wouldRing wsX2_at := goodIn_r _ [27] (by decide +kernel) (by decide +kernel)
set_option maxRecDepth 20000 in
theorem gX2_wouldRing_X2_at : GoodIn wsX2_wouldRing (va_wsS RX2 56 yX2_at wsX2_at) := goodIn_app (goodIn_of _ (by decide +kernel)) ggX2_wouldRing_X2_at
set_option maxRecDepth 20000 in
theorem ggX2_nightsUntilDark_X0_copyFrom : GoodIn wsX2_nightsUntilDark wsX0_copyFrom := goodIn_r _ [7, 8, 9, 10, 11, 12, 13, 14, 15, 16, 17, 18, 19, 20, 21, 125, 126, 127, 128, 129, 130, 131, 132, 133, 134] (by decide +kernel) (by decide +kernel)
set_option maxRecDepth 20000 in
theorem gX2_nightsUntilDark_X0_copyFrom : GoodIn wsX2_nightsUntilDark (wsV RX2 200 RX0 yX0_copyFrom wsX0_copyFrom) := goodIn_app (goodIn_of _ (by decide +kernel)) ggX2_nightsUntilDark_X0_copyFrom
set_option maxRecDepth 20000 in
theorem ggX2_nightsUntilDark_X0_darkCount : GoodIn wsX2_nightsUntilDark wsX0_darkCount := goodIn_r _ [25, 26, 27, 28, 6, 29, 30, 11, 31, 32, 33, 34, 35, 36, 37, 38, 39, 40, 8, 41, 18, 42, 125, 126, 127, 128, 129, 130, 131, 132, 133, 134, 135, 136, 137, 138, 139, 140, 141, 142] (by decide +kernel) (by decide +kernel)
set_option maxRecDepth 20000 in
theorem gX2_nightsUntilDark_X0_darkCount : GoodIn wsX2_nightsUntilDark (wsV RX2 189 RX0 yX0_darkCount wsX0_darkCount) := goodIn_app (goodIn_of _ (by decide +kernel)) ggX2_nightsUntilDark_X0_darkCount
set_option maxRecDepth 20000 in
theorem ggX2_nightsUntilDark_X0_passNight : GoodIn wsX2_nightsUntilDark wsX0_passNight := goodIn_r _ [46, 14, 47, 48, 49, 6, 50, 13, 51, 52, 53, 54, 55, 56, 57, 12, 58, 59, 60, 61, 41, 18, 42, 62, 63, 64, 65, 66, 67, 10, 16, 68, 69, 70, 71, 72, 73, 74, 75, 76, 77, 78, 79, 80, 81, 82, 83, 84, 85, 86, 30, 11, 31, 32, 33, 34, 35, 36, 37, 38, 39, 40, 8, 87, 88, 89, 90, 91, 92, 93, 94, 15, 95, 96, 97, 98, 9, 99, 100, 101, 102, 103, 104, 105, 106, 107, 108, 109, 110, 111, 112, 113, 114, 115, 116, 117, 118, 119, 120, 121, 125, 126, 127, 128, 129, 130, 131, 132, 133, 134, 135, 136, 137, 138, 139, 140, 141, 142] (by decide +kernel) (by decide +kernel)
set_option maxRecDepth 20000 in
theorem gX2_nightsUntilDark_X0_passNight : GoodIn wsX2_nightsUntilDark (wsV RX2 204 RX0 yX0_passNight wsX0_passNight) := goodIn_app (goodIn_of _ (by decide +kernel)) ggX2_nightsUntilDark_X0_passNight
set_option maxRecDepth 20000 in
theorem ggX2_waxWanted_X2_needNights : GoodIn wsX2_waxWanted wsX2_needNights := goodIn_ca (goodIn_r _ [4, 5, 6] (by decide +kernel) (by decide +kernel)) (goodIn_sub (fun _ h => List.mem_cons_of_mem _ (List.mem_append_right _ h)) (by decide +kernel))
set_option maxRecDepth 20000 in
theorem gX2_waxWanted_X2_needNights : GoodIn wsX2_waxWanted (va_wsS RX2 155 yX2_needNights wsX2_needNights) := goodIn_app (goodIn_of _ (by decide +kernel)) ggX2_waxWanted_X2_needNights
set_option maxRecDepth 20000 in
theorem ggX2_waxWanted_X2_wouldStayLit : GoodIn wsX2_waxWanted wsX2_wouldStayLit := goodIn_r _ [10, 11, 12, 13, 14, 15, 16, 17, 18, 19, 20, 21, 22, 23, 24, 25, 26, 27, 3, 28, 29, 30, 31, 32, 33, 34, 35, 36, 37, 38, 39, 40, 41, 42, 43, 44, 45, 46, 47, 48, 49, 50, 51, 52, 53, 54, 55, 56, 57, 58, 59, 60, 61, 62, 63, 64, 65, 66, 67, 68, 69, 70, 71, 72, 73, 74, 75, 76, 77, 78, 79, 80, 81, 82, 83, 84, 85, 86, 87, 88, 89, 90, 91, 92, 93, 94, 95, 96, 97, 98, 99, 100, 101, 102, 103, 104, 105, 106, 107, 108, 109, 110, 111, 112, 113, 114, 115, 116, 117, 118, 119, 120, 121, 122, 123, 124, 125, 126, 127, 128, 129, 130, 131, 132, 133, 134, 135, 136, 137, 138, 139, 140, 141, 142, 143, 144, 145, 146, 147, 148, 149, 150, 151] (by decide +kernel) (by decide +kernel)
set_option maxRecDepth 20000 in
theorem gX2_waxWanted_X2_wouldStayLit : GoodIn wsX2_waxWanted (wsV RX2 207 RX2 yX2_wouldStayLit wsX2_wouldStayLit) := goodIn_app (goodIn_of _ (by decide +kernel)) ggX2_waxWanted_X2_wouldStayLit
set_option maxRecDepth 20000 in
theorem ggX2_meanTrust_X2_at : GoodIn wsX2_meanTrust wsX2_at := goodIn_r _ [6] (by decide +kernel) (by decide +kernel)
set_option maxRecDepth 20000 in
theorem gX2_meanTrust_X2_at : GoodIn wsX2_meanTrust (va_wsS RX2 56 yX2_at wsX2_at) := goodIn_app (goodIn_of _ (by decide +kernel)) ggX2_meanTrust_X2_at
set_option maxRecDepth 20000 in
theorem ggX2_digest_X2_mix : GoodIn wsX2_digest wsX2_mix := goodIn_r _ [7, 8] (by decide +kernel) (by decide +kernel)
set_option maxRecDepth 20000 in
theorem gX2_digest_X2_mix : GoodIn wsX2_digest (va_wsS RX2 213 yX2_mix wsX2_mix) := goodIn_app (goodIn_of _ (by decide +kernel)) ggX2_digest_X2_mix
set_option maxRecDepth 20000 in
theorem ggX2_digest_X0_sightingCount : GoodIn wsX2_digest wsX0_sightingCount := goodIn_r _ [13, 14, 96, 97, 98, 99, 100, 101, 102, 103, 104, 105] (by decide +kernel) (by decide +kernel)
set_option maxRecDepth 20000 in
theorem gX2_digest_X0_sightingCount : GoodIn wsX2_digest (wsV RX2 183 RX0 yX0_sightingCount wsX0_sightingCount) := goodIn_app (goodIn_of _ (by decide +kernel)) ggX2_digest_X0_sightingCount
set_option maxRecDepth 20000 in
theorem ggX2_digest_X0_darkCount : GoodIn wsX2_digest wsX0_darkCount := goodIn_r _ [18, 19, 20, 21, 12, 22, 23, 24, 25, 26, 27, 28, 29, 30, 31, 32, 33, 34, 35, 36, 6, 37, 96, 97, 98, 99, 100, 101, 102, 103, 104, 105, 88, 89, 90, 91, 92, 93, 94, 95] (by decide +kernel) (by decide +kernel)
set_option maxRecDepth 20000 in
theorem gX2_digest_X0_darkCount : GoodIn wsX2_digest (wsV RX2 189 RX0 yX0_darkCount wsX0_darkCount) := goodIn_app (goodIn_of _ (by decide +kernel)) ggX2_digest_X0_darkCount
set_option maxRecDepth 20000 in
theorem ggX2_digest_X0_lostSailors : GoodIn wsX2_digest wsX0_lostSailors := goodIn_r _ [41, 23, 25, 26, 27, 28, 29, 30, 31, 32, 33, 12, 34, 35, 36, 6, 37, 96, 97, 98, 99, 100, 101, 102, 103, 104, 105, 88, 89, 90, 91, 92, 93, 94, 95] (by decide +kernel) (by decide +kernel)
set_option maxRecDepth 20000 in
theorem gX2_digest_X0_lostSailors : GoodIn wsX2_digest (wsV RX2 195 RX0 yX0_lostSailors wsX0_lostSailors) := goodIn_app (goodIn_of _ (by decide +kernel)) ggX2_digest_X0_lostSailors
set_option maxRecDepth 20000 in
theorem ggX2_digest_X2_mixShip : GoodIn wsX2_digest wsX2_mixShip := goodIn_r _ [45, 2, 3, 46, 36, 6, 37, 4, 5, 7, 8, 47, 32, 33, 12, 34, 35, 48, 49, 50, 51, 52, 53, 54, 55, 56, 57, 58, 59, 60, 61, 62, 14, 63, 64, 65, 66, 67, 68, 28, 69, 70, 71, 72, 73, 74, 30, 75, 76, 77, 78, 79, 85, 86, 87, 88, 89, 90, 91, 92, 93, 94, 95, 96, 97, 98, 99, 100, 101, 102, 103, 104, 105] (by decide +kernel) (by decide +kernel)
set_option maxRecDepth 20000 in
theorem gX2_digest_X2_mixShip : GoodIn wsX2_digest (wsV RX2 217 RX2 yX2_mixShip wsX2_mixShip) := goodIn_app (goodIn_of _ (by decide +kernel)) ggX2_digest_X2_mixShip
set_option maxRecDepth 20000 in
theorem ggX2_digest_X2_mixSailor : GoodIn wsX2_digest wsX2_mixSailor := goodIn_r _ [83, 2, 3, 84, 26, 27, 28, 29, 30, 4, 5, 6, 7, 8, 46, 36, 37, 51, 52, 53, 48, 49, 50, 85, 86, 87, 88, 89, 90, 91, 92, 93, 94, 95, 96, 97, 98, 99, 100, 101, 102, 103, 104, 105] (by decide +kernel) (by decide +kernel)
set_option maxRecDepth 20000 in
theorem gX2_digest_X2_mixSailor : GoodIn wsX2_digest (wsV RX2 220 RX2 yX2_mixSailor wsX2_mixSailor) := goodIn_app (goodIn_of _ (by decide +kernel)) ggX2_digest_X2_mixSailor
set_option maxRecDepth 20000 in
theorem ggX2_digest_X2_at : GoodIn wsX2_digest wsX2_at := goodIn_r _ [37] (by decide +kernel) (by decide +kernel)
set_option maxRecDepth 20000 in
theorem gX2_digest_X2_at : GoodIn wsX2_digest (va_wsS RX2 56 yX2_at wsX2_at) := goodIn_app (goodIn_of _ (by decide +kernel)) ggX2_digest_X2_at
set_option maxRecDepth 20000 in
theorem ggX2_mixShip_X2_at : GoodIn wsX2_mixShip wsX2_at := goodIn_r _ [6] (by decide +kernel) (by decide +kernel)
set_option maxRecDepth 20000 in
theorem gX2_mixShip_X2_at : GoodIn wsX2_mixShip (va_wsS RX2 56 yX2_at wsX2_at) := goodIn_app (goodIn_of _ (by decide +kernel)) ggX2_mixShip_X2_at
set_option maxRecDepth 20000 in
theorem ggX2_mixShip_X2_mix : GoodIn wsX2_mixShip wsX2_mix := goodIn_r _ [9, 10] (by decide +kernel) (by decide +kernel)
set_option maxRecDepth 20000 in
theorem gX2_mixShip_X2_mix : GoodIn wsX2_mixShip (va_wsS RX2 213 yX2_mix wsX2_mix) := goodIn_app (goodIn_of _ (by decide +kernel)) ggX2_mixShip_X2_mix
set_option maxRecDepth 20000 in
theorem ggX2_mixShip_X0_stayOf : GoodIn wsX2_mixShip wsX0_stayOf := goodIn_r _ [15, 16, 4, 5, 6, 63, 64, 65, 66, 67, 68, 69, 70, 71, 72] (by decide +kernel) (by decide +kernel)
set_option maxRecDepth 20000 in
theorem gX2_mixShip_X0_stayOf : GoodIn wsX2_mixShip (wsV RX2 65 RX0 yX0_stayOf wsX0_stayOf) := goodIn_app (goodIn_of _ (by decide +kernel)) ggX2_mixShip_X0_stayOf
set_option maxRecDepth 20000 in
theorem ggX2_mixShip_X2_one : GoodIn wsX2_mixShip wsX2_one := goodIn_r _ [19] (by decide +kernel) (by decide +kernel)
set_option maxRecDepth 20000 in
theorem gX2_mixShip_X2_one : GoodIn wsX2_mixShip (va_wsS RX2 223 yX2_one wsX2_one) := goodIn_app (goodIn_of _ (by decide +kernel)) ggX2_mixShip_X2_one
set_option maxRecDepth 20000 in
theorem ggX2_mixShip_X2_is : GoodIn wsX2_mixShip wsX2_is := goodIn_r _ [22] (by decide +kernel) (by decide +kernel)
set_option maxRecDepth 20000 in
theorem gX2_mixShip_X2_is : GoodIn wsX2_mixShip (va_wsS RX2 128 yX2_is wsX2_is) := goodIn_app (goodIn_of _ (by decide +kernel)) ggX2_mixShip_X2_is
set_option maxRecDepth 20000 in
theorem ggX2_mixShip_X0_trustSum : GoodIn wsX2_mixShip wsX0_trustSum := goodIn_r _ [26, 27, 28, 29, 30, 14, 31, 32, 33, 34, 35, 4, 5, 6, 63, 64, 65, 66, 67, 68, 69, 70, 71, 72] (by decide +kernel) (by decide +kernel)
set_option maxRecDepth 20000 in
theorem gX2_mixShip_X0_trustSum : GoodIn wsX2_mixShip (wsV RX2 161 RX0 yX0_trustSum wsX0_trustSum) := goodIn_app (goodIn_of _ (by decide +kernel)) ggX2_mixShip_X0_trustSum
set_option maxRecDepth 20000 in
theorem ggX2_mixShip_X1_votersFor : GoodIn wsX2_mixShip wsX1_votersFor := goodIn_r _ [40, 41, 42, 43, 44, 39, 45, 46, 55, 56, 57, 58, 59, 60, 61, 62] (by decide +kernel) (by decide +kernel)
set_option maxRecDepth 20000 in
theorem gX2_mixShip_X1_votersFor : GoodIn wsX2_mixShip (wsV RX2 164 RX1 yX1_votersFor wsX1_votersFor) := goodIn_app (goodIn_of _ (by decide +kernel)) ggX2_mixShip_X1_votersFor
set_option maxRecDepth 20000 in
theorem ggX2_mixShip_X1_votesAgainst : GoodIn wsX2_mixShip wsX1_votesAgainst := goodIn_r _ [50, 51, 42, 43, 44, 39, 45, 46, 55, 56, 57, 58, 59, 60, 61, 62] (by decide +kernel) (by decide +kernel)
set_option maxRecDepth 20000 in
theorem gX2_mixShip_X1_votesAgainst : GoodIn wsX2_mixShip (wsV RX2 152 RX1 yX1_votesAgainst wsX1_votesAgainst) := goodIn_app (goodIn_of _ (by decide +kernel)) ggX2_mixShip_X1_votesAgainst
set_option maxRecDepth 20000 in
theorem ggX2_mixSailor_X1_shipWith : GoodIn wsX2_mixSailor wsX1_shipWith := goodIn_r _ [7, 8, 26, 27, 28, 29, 30, 31, 32, 33] (by decide +kernel) (by decide +kernel)
set_option maxRecDepth 20000 in
theorem gX2_mixSailor_X1_shipWith : GoodIn wsX2_mixSailor (wsV RX2 140 RX1 yX1_shipWith wsX1_shipWith) := goodIn_app (goodIn_of _ (by decide +kernel)) ggX2_mixSailor_X1_shipWith
set_option maxRecDepth 20000 in
theorem ggX2_mixSailor_X2_mix : GoodIn wsX2_mixSailor wsX2_mix := goodIn_r _ [12, 13] (by decide +kernel) (by decide +kernel)
set_option maxRecDepth 20000 in
theorem gX2_mixSailor_X2_mix : GoodIn wsX2_mixSailor (va_wsS RX2 213 yX2_mix wsX2_mix) := goodIn_app (goodIn_of _ (by decide +kernel)) ggX2_mixSailor_X2_mix
set_option maxRecDepth 20000 in
theorem ggX2_mixSailor_X2_at : GoodIn wsX2_mixSailor wsX2_at := goodIn_r _ [16] (by decide +kernel) (by decide +kernel)
set_option maxRecDepth 20000 in
theorem gX2_mixSailor_X2_at : GoodIn wsX2_mixSailor (va_wsS RX2 56 yX2_at wsX2_at) := goodIn_app (goodIn_of _ (by decide +kernel)) ggX2_mixSailor_X2_at
set_option maxRecDepth 20000 in
theorem ggX2_mixSailor_X2_is : GoodIn wsX2_mixSailor wsX2_is := goodIn_r _ [19] (by decide +kernel) (by decide +kernel)
set_option maxRecDepth 20000 in
theorem gX2_mixSailor_X2_is : GoodIn wsX2_mixSailor (va_wsS RX2 128 yX2_is wsX2_is) := goodIn_app (goodIn_of _ (by decide +kernel)) ggX2_mixSailor_X2_is
set_option maxRecDepth 20000 in
theorem ggX2_mixSailor_X2_one : GoodIn wsX2_mixSailor wsX2_one := goodIn_r _ [22] (by decide +kernel) (by decide +kernel)
set_option maxRecDepth 20000 in
theorem gX2_mixSailor_X2_one : GoodIn wsX2_mixSailor (va_wsS RX2 223 yX2_one wsX2_one) := goodIn_app (goodIn_of _ (by decide +kernel)) ggX2_mixSailor_X2_one
set_option maxRecDepth 20000 in
theorem ggX2_wouldStayLit_X0_copyFrom : GoodIn wsX2_wouldStayLit wsX0_copyFrom := goodIn_r _ [7, 8, 9, 10, 11, 12, 13, 14, 15, 16, 17, 18, 19, 20, 21, 125, 126, 127, 128, 129, 130, 131, 132, 133, 134] (by decide +kernel) (by decide +kernel)
set_option maxRecDepth 20000 in
theorem gX2_wouldStayLit_X0_copyFrom : GoodIn wsX2_wouldStayLit (wsV RX2 200 RX0 yX0_copyFrom wsX0_copyFrom) := goodIn_app (goodIn_of _ (by decide +kernel)) ggX2_wouldStayLit_X0_copyFrom
set_option maxRecDepth 20000 in
theorem ggX2_wouldStayLit_X0_passNight : GoodIn wsX2_wouldStayLit wsX0_passNight := goodIn_r _ [25, 14, 26, 27, 28, 6, 29, 13, 30, 31, 32, 33, 34, 35, 36, 12, 37, 38, 39, 40, 41, 18, 42, 43, 44, 45, 46, 47, 48, 10, 16, 49, 50, 51, 52, 53, 54, 55, 56, 57, 58, 59, 60, 61, 62, 63, 64, 65, 66, 67, 68, 11, 69, 70, 71, 72, 73, 74, 75, 76, 77, 78, 8, 79, 80, 81, 82, 83, 84, 85, 86, 15, 87, 88, 89, 90, 9, 91, 92, 93, 94, 95, 96, 97, 98, 99, 100, 101, 102, 103, 104, 105, 106, 107, 108, 109, 110, 111, 112, 113, 125, 126, 127, 128, 129, 130, 131, 132, 133, 134, 135, 136, 137, 138, 139, 140, 141, 142] (by decide +kernel) (by decide +kernel)
set_option maxRecDepth 20000 in
theorem gX2_wouldStayLit_X0_passNight : GoodIn wsX2_wouldStayLit (wsV RX2 204 RX0 yX0_passNight wsX0_passNight) := goodIn_app (goodIn_of _ (by decide +kernel)) ggX2_wouldStayLit_X0_passNight
set_option maxRecDepth 20000 in
theorem ggX2_wouldStayLit_X0_darkCount : GoodIn wsX2_wouldStayLit wsX0_darkCount := goodIn_r _ [117, 118, 119, 120, 6, 121, 68, 11, 69, 70, 71, 72, 73, 74, 75, 76, 77, 78, 8, 41, 18, 42, 125, 126, 127, 128, 129, 130, 131, 132, 133, 134, 135, 136, 137, 138, 139, 140, 141, 142] (by decide +kernel) (by decide +kernel)
set_option maxRecDepth 20000 in
theorem gX2_wouldStayLit_X0_darkCount : GoodIn wsX2_wouldStayLit (wsV RX2 189 RX0 yX0_darkCount wsX0_darkCount) := goodIn_app (goodIn_of _ (by decide +kernel)) ggX2_wouldStayLit_X0_darkCount
set_option maxRecDepth 20000 in
theorem ggX2_needNewSighting_X2_needWatcher : GoodIn wsX2_needNewSighting wsX2_needWatcher := goodIn_ca (goodIn_r _ [8, 9, 10, 11, 32, 33, 34, 35, 36, 37, 38, 39, 40, 41, 42] (by decide +kernel) (by decide +kernel)) (goodIn_sub (fun _ h => List.mem_cons_of_mem _ (List.mem_append_right _ h)) (by decide +kernel))
set_option maxRecDepth 20000 in
theorem gX2_needNewSighting_X2_needWatcher : GoodIn wsX2_needNewSighting (wsV RX2 180 RX2 yX2_needWatcher wsX2_needWatcher) := goodIn_app (goodIn_of _ (by decide +kernel)) ggX2_needNewSighting_X2_needWatcher
set_option maxRecDepth 20000 in
theorem ggX2_needNewSighting_X2_needShip : GoodIn wsX2_needNewSighting wsX2_needShip := goodIn_ca (goodIn_r _ [15, 9, 10, 11, 32, 33, 34, 35, 36, 37, 38, 39, 40, 41, 42] (by decide +kernel) (by decide +kernel)) (goodIn_sub (fun _ h => List.mem_cons_of_mem _ (List.mem_append_right _ h)) (by decide +kernel))
set_option maxRecDepth 20000 in
theorem gX2_needNewSighting_X2_needShip : GoodIn wsX2_needNewSighting (wsV RX2 48 RX2 yX2_needShip wsX2_needShip) := goodIn_app (goodIn_of _ (by decide +kernel)) ggX2_needNewSighting_X2_needShip
set_option maxRecDepth 20000 in
theorem ggX2_needNewSighting_X0_stayOf : GoodIn wsX2_needNewSighting wsX0_stayOf := goodIn_r _ [20, 21, 22, 7, 23, 43, 44, 45, 46, 47, 48, 49, 50, 51, 52] (by decide +kernel) (by decide +kernel)
set_option maxRecDepth 20000 in
theorem gX2_needNewSighting_X0_stayOf : GoodIn wsX2_needNewSighting (wsV RX2 65 RX0 yX0_stayOf wsX0_stayOf) := goodIn_app (goodIn_of _ (by decide +kernel)) ggX2_needNewSighting_X0_stayOf
set_option maxRecDepth 20000 in
theorem ggX2_needNewSighting_X0_hasSighting : GoodIn wsX2_needNewSighting wsX0_hasSighting := goodIn_r _ [27, 28, 29, 30, 19, 31, 43, 44, 45, 46, 47, 48, 49, 50, 51, 52] (by decide +kernel) (by decide +kernel)
set_option maxRecDepth 20000 in
theorem gX2_needNewSighting_X0_hasSighting : GoodIn wsX2_needNewSighting (wsV RX2 235 RX0 yX0_hasSighting wsX0_hasSighting) := goodIn_app (goodIn_of _ (by decide +kernel)) ggX2_needNewSighting_X0_hasSighting
