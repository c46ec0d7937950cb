set_option maxRecDepth 20000 in
theorem ggX0_flowThrough_X0_take : GoodIn wsX0_flowThrough wsX0_take := goodIn_r _ [8, 1, 9, 10, 11, 12, 13, 14, 15, 16, 17, 18, 19] (by decide +kernel) (by decide +kernel)
set_option maxRecDepth 20000 in
theorem gX0_flowThrough_X0_take : GoodIn wsX0_flowThrough (wsV RX0 33 RX0 yX0_take wsX0_take) := goodIn_app (goodIn_of _ (by decide +kernel)) ggX0_flowThrough_X0_take
set_option maxRecDepth 20000 in
theorem ggX0_pumpOut_X0_take : GoodIn wsX0_pumpOut wsX0_take := goodIn_r _ [6, 7, 8, 9, 10, 11, 12, 13, 14, 15, 16, 17, 18] (by decide +kernel) (by decide +kernel)
set_option maxRecDepth 20000 in
theorem gX0_pumpOut_X0_take : GoodIn wsX0_pumpOut (wsV RX0 33 RX0 yX0_take wsX0_take) := goodIn_app (goodIn_of _ (by decide +kernel)) ggX0_pumpOut_X0_take
set_option maxRecDepth 20000 in
theorem ggX1_allowClosing_X1_weightForClosing : GoodIn wsX1_allowClosing wsX1_weightForClosing := goodIn_r _ [5, 6, 7, 8, 13, 14, 15] (by decide +kernel) (by decide +kernel)
set_option maxRecDepth 20000 in
theorem gX1_allowClosing_X1_weightForClosing : GoodIn wsX1_allowClosing (wsV RX1 27 RX1 yX1_weightForClosing wsX1_weightForClosing) := goodIn_app (goodIn_of _ (by decide +kernel)) ggX1_allowClosing_X1_weightForClosing
set_option maxRecDepth 20000 in
theorem ggX1_allowClosing_X1_weightOfAll : GoodIn wsX1_allowClosing wsX1_weightOfAll := goodIn_r _ [12, 6, 8, 13, 14, 15] (by decide +kernel) (by decide +kernel)
set_option maxRecDepth 20000 in
theorem gX1_allowClosing_X1_weightOfAll : GoodIn wsX1_allowClosing (wsV RX1 31 RX1 yX1_weightOfAll wsX1_weightOfAll) := goodIn_app (goodIn_of _ (by decide +kernel)) ggX1_allowClosing_X1_weightOfAll
set_option maxRecDepth 20000 in
theorem ggX2_record_J9_floorMod_7cf53 : GoodIn wsX2_record wsJ9_floorMod_7cf53 := goodIn_r _ [10] (by decide +kernel) (by decide +kernel)
set_option maxRecDepth 20000 in
theorem gX2_record_J9_floorMod_7cf53 : GoodIn wsX2_record (va_wsS RX2 22 yJ9_floorMod_7cf53 wsJ9_floorMod_7cf53) := goodIn_app (goodIn_of _ (by decide +kernel)) ggX2_record_J9_floorMod_7cf53
set_option maxRecDepth 20000 in
theorem ggX2_record_X6_init : GoodIn wsX2_record wsX6_init := goodIn_r _ [12, 13, 14, 15, 16, 17, 18, 19, 20, 21, 22, 23, 24, 25, 26, 27, 28, 29, 30, 31, 32, 33, 34, 35, 36, 37, 38, 39, 40, 41, 42, 43, 44, 45, 46, 47, 48, 49, 50, 51, 52, 53, 54, 55, 56, 57, 58, 59, 60, 61, 62, 63, 64, 65, 66, 67, 68, 69, 70, 71, 72, 73, 74, 135, 136, 137, 138, 139, 140, 141, 142, 124, 125, 126, 127, 128, 129, 130, 131, 132, 133, 134, 143, 144, 145, 146, 147, 148, 149, 150, 151, 152, 153, 154, 155, 156, 157, 158, 159, 160, 161] (by decide +kernel) (by decide +kernel)
set_option maxRecDepth 20000 in
theorem gX2_record_X6_init_n28 : GoodIn wsX2_record (wsX6_init) := ggX2_record_X6_init
set_option maxRecDepth 20000 in
theorem ggX2_record_X6_copyFrom : GoodIn wsX2_record wsX6_copyFrom := goodIn_r _ [78, 19, 23, 27, 31, 35, 37, 79, 80, 81, 82, 39, 83, 40, 84, 85, 86, 87, 88, 18, 89, 90, 45, 91, 46, 47, 48, 49, 50, 51, 92, 93, 94, 22, 95, 96, 55, 97, 57, 98, 99, 100, 26, 101, 102, 61, 103, 104, 105, 106, 30, 107, 108, 65, 109, 66, 110, 67, 68, 69, 111, 112, 113, 34, 114, 74, 115, 116, 117, 118, 119, 120, 124, 125, 126, 127, 128, 129, 130, 131, 132, 133, 134, 135, 136, 137, 138, 139, 140, 141, 142, 143, 144, 145, 146, 147, 148, 149, 150, 151, 152, 153, 154, 155, 156, 157, 158, 159, 160, 161] (by decide +kernel) (by decide +kernel)
set_option maxRecDepth 20000 in
theorem gX2_record_X6_copyFrom : GoodIn wsX2_record (wsV RX2 29 RX6 yX6_copyFrom wsX6_copyFrom) := goodIn_app (goodIn_of _ (by decide +kernel)) ggX2_record_X6_copyFrom
set_option maxRecDepth 20000 in
theorem ggX2_takeLatest_J9_floorMod_7cf53 : GoodIn wsX2_takeLatest wsJ9_floorMod_7cf53 := goodIn_r _ [7] (by decide +kernel) (by decide +kernel)
set_option maxRecDepth 20000 in
theorem gX2_takeLatest_J9_floorMod_7cf53 : GoodIn wsX2_takeLatest (va_wsS RX2 22 yJ9_floorMod_7cf53 wsJ9_floorMod_7cf53) := goodIn_app (goodIn_of _ (by decide +kernel)) ggX2_takeLatest_J9_floorMod_7cf53
set_option maxRecDepth 20000 in
theorem ggX2_takeLatest_X6_copyFrom : GoodIn wsX2_takeLatest wsX6_copyFrom := goodIn_r _ [12, 13, 14, 15, 16, 17, 18, 19, 20, 21, 22, 23, 24, 25, 26, 27, 28, 29, 30, 31, 32, 33, 34, 35, 36, 37, 38, 39, 40, 41, 42, 43, 44, 45, 46, 47, 48, 49, 50, 51, 52, 53, 54, 55, 56, 57, 58, 59, 60, 61, 62, 63, 64, 65, 66, 67, 68, 69, 70, 71, 72, 73, 74, 75, 76, 77, 78, 79, 80, 81, 82, 83, 87, 88, 89, 90, 91, 92, 93, 94, 95, 96, 97, 98, 99, 100, 101, 102, 103, 104, 105, 106, 107, 108, 109, 110, 111, 112, 113, 114, 115, 116, 117, 118, 119, 120, 121, 122, 123, 124] (by decide +kernel) (by decide +kernel)
set_option maxRecDepth 20000 in
theorem gX2_takeLatest_X6_copyFrom : GoodIn wsX2_takeLatest (wsV RX2 29 RX6 yX6_copyFrom wsX6_copyFrom) := goodIn_app (goodIn_of _ (by decide +kernel)) ggX2_takeLatest_X6_copyFrom
set_option maxRecDepth 20000 in
theorem ggX4_wouldRun_X4_runsBeside : GoodIn wsX4_wouldRun wsX4_runsBeside := goodIn_r _ [7, 8, 2, 9, 10, 11, 12, 13, 14, 15, 16] (by decide +kernel) (by decide +kernel)
set_option maxRecDepth 20000 in
theorem gX4_wouldRun_X4_runsBeside : GoodIn wsX4_wouldRun (wsV RX4 39 RX4 yX4_runsBeside wsX4_runsBeside) := goodIn_app (goodIn_of _ (by decide +kernel)) ggX4_wouldRun_X4_runsBeside
set_option maxRecDepth 20000 in
theorem ggX4_run_X4_runsBeside : GoodIn wsX4_run wsX4_runsBeside := goodIn_r _ [10, 11, 3, 12, 28, 29, 30, 31, 32, 33, 34] (by decide +kernel) (by decide +kernel)
set_option maxRecDepth 20000 in
theorem gX4_run_X4_runsBeside : GoodIn wsX4_run (wsV RX4 39 RX4 yX4_runsBeside wsX4_runsBeside) := goodIn_app (goodIn_of _ (by decide +kernel)) ggX4_run_X4_runsBeside
set_option maxRecDepth 20000 in
theorem ggX4_run_X0_pumpOut : GoodIn wsX4_run wsX0_pumpOut := goodIn_r _ [17, 18, 19, 20, 21, 16, 22, 23, 24, 25, 26, 27, 35, 36, 37, 38, 39, 40, 41] (by decide +kernel) (by decide +kernel)
set_option maxRecDepth 20000 in
theorem gX4_run_X0_pumpOut : GoodIn wsX4_run (wsV RX4 43 RX0 yX0_pumpOut wsX0_pumpOut) := goodIn_app (goodIn_of _ (by decide +kernel)) ggX4_run_X0_pumpOut
set_option maxRecDepth 20000 in
theorem ggX5_moving_X5_isMoving : GoodIn wsX5_moving wsX5_isMoving := goodIn_r _ [6, 7, 8, 9, 10, 11, 12, 13, 14, 15] (by decide +kernel) (by decide +kernel)
set_option maxRecDepth 20000 in
theorem gX5_moving_X5_isMoving : GoodIn wsX5_moving (wsV RX5 44 RX5 yX5_isMoving wsX5_isMoving) := goodIn_app (goodIn_of _ (by decide +kernel)) ggX5_moving_X5_isMoving
set_option maxRecDepth 20000 in
theorem ggX5_highestClosed_X5_isClosed : GoodIn wsX5_highestClosed wsX5_isClosed := goodIn_r _ [6, 7, 8, 9, 10, 11, 12, 13, 14, 15] (by decide +kernel) (by decide +kernel)
set_option maxRecDepth 20000 in
theorem gX5_highestClosed_X5_isClosed : GoodIn wsX5_highestClosed (wsV RX5 48 RX5 yX5_isClosed wsX5_isClosed) := goodIn_app (goodIn_of _ (by decide +kernel)) ggX5_highestClosed_X5_isClosed
set_option maxRecDepth 20000 in
theorem ggX5_areAllShut_X5_countIn : GoodIn wsX5_areAllShut wsX5_countIn := goodIn_r _ [6, 1, 7, 8, 9, 10, 11, 12, 13, 14, 15] (by decide +kernel) (by decide +kernel)
set_option maxRecDepth 20000 in
theorem gX5_areAllShut_X5_countIn : GoodIn wsX5_areAllShut (wsV RX5 51 RX5 yX5_countIn wsX5_countIn) := goodIn_app (goodIn_of _ (by decide +kernel)) ggX5_areAllShut_X5_countIn
set_option maxRecDepth 20000 in
theorem ggX5_goOn_X5_moving : GoodIn wsX5_goOn wsX5_moving := goodIn_r _ [8, 9, 10, 11, 12, 7, 13, 2, 14, 15, 16, 17, 18, 19, 20, 21] (by decide +kernel) (by decide +kernel)
set_option maxRecDepth 20000 in
theorem gX5_goOn_X5_moving : GoodIn wsX5_goOn (wsV RX5 55 RX5 yX5_moving wsX5_moving) := goodIn_app (goodIn_of _ (by decide +kernel)) ggX5_goOn_X5_moving
set_option maxRecDepth 20000 in
theorem ggX5_letThrough_X0_inner : GoodIn wsX5_letThrough wsX0_inner := goodIn_r _ [10, 11, 12, 57, 58, 59, 60, 61, 62, 63] (by decide +kernel) (by decide +kernel)
set_option maxRecDepth 20000 in
theorem gX5_letThrough_X0_inner : GoodIn wsX5_letThrough (wsV RX5 59 RX0 yX0_inner wsX0_inner) := goodIn_app (goodIn_of _ (by decide +kernel)) ggX5_letThrough_X0_inner
set_option maxRecDepth 20000 in
theorem ggX5_letThrough_X5_isClosed : GoodIn wsX5_letThrough wsX5_isClosed := goodIn_r _ [17, 18, 49, 50, 51, 52, 53, 54, 55, 56] (by decide +kernel) (by decide +kernel)
set_option maxRecDepth 20000 in
theorem gX5_letThrough_X5_isClosed : GoodIn wsX5_letThrough (wsV RX5 48 RX5 yX5_isClosed wsX5_isClosed) := goodIn_app (goodIn_of _ (by decide +kernel)) ggX5_letThrough_X5_isClosed
set_option maxRecDepth 20000 in
theorem ggX5_letThrough_X0_flowThrough : GoodIn wsX5_letThrough wsX0_flowThrough := goodIn_r _ [22, 11, 23, 24, 25, 26, 27, 9, 28, 29, 30, 31, 32, 57, 58, 59, 60, 61, 62, 63] (by decide +kernel) (by decide +kernel)
set_option maxRecDepth 20000 in
theorem gX5_letThrough_X0_flowThrough : GoodIn wsX5_letThrough (wsV RX5 67 RX0 yX0_flowThrough wsX0_flowThrough) := goodIn_app (goodIn_of _ (by decide +kernel)) ggX5_letThrough_X0_flowThrough
set_option maxRecDepth 20000 in
theorem ggX5_letThrough_X3_ofBits : GoodIn wsX5_letThrough wsX3_ofBits := goodIn_r _ [36, 37, 38, 39, 40, 41, 31, 42, 43] (by decide +kernel) (by decide +kernel)
set_option maxRecDepth 20000 in
theorem gX5_letThrough_X3_ofBits : GoodIn wsX5_letThrough (va_wsS RX5 71 yX3_ofBits wsX3_ofBits) := goodIn_app (goodIn_of _ (by decide +kernel)) ggX5_letThrough_X3_ofBits
set_option maxRecDepth 20000 in
theorem ggX5_letThrough_X0_flowOver : GoodIn wsX5_letThrough wsX0_flowOver := goodIn_r _ [47, 11, 48, 57, 58, 59, 60, 61, 62, 63] (by decide +kernel) (by decide +kernel)
set_option maxRecDepth 20000 in
theorem gX5_letThrough_X0_flowOver : GoodIn wsX5_letThrough (wsV RX5 79 RX0 yX0_flowOver wsX0_flowOver) := goodIn_app (goodIn_of _ (by decide +kernel)) ggX5_letThrough_X0_flowOver
set_option maxRecDepth 20000 in
theorem ggX6_init_X5_init : GoodIn wsX6_init wsX5_init := goodIn_r _ [30, 31, 2, 3, 32, 33, 24, 34, 35, 36, 37, 38, 39, 63, 64, 65, 66, 67, 68, 69, 70] (by decide +kernel) (by decide +kernel)
set_option maxRecDepth 20000 in
theorem gX6_init_X5_init_n11 : GoodIn wsX6_init (wsX5_init) := ggX6_init_X5_init
set_option maxRecDepth 20000 in
theorem ggX6_init_X1_init : GoodIn wsX6_init wsX1_init := goodIn_r _ [41, 42, 2, 3, 32, 43, 44, 45, 82, 83, 84] (by decide +kernel) (by decide +kernel)
set_option maxRecDepth 20000 in
theorem gX6_init_X1_init_n20 : GoodIn wsX6_init (wsX1_init) := ggX6_init_X1_init
set_option maxRecDepth 20000 in
theorem ggX6_init_X7_init : GoodIn wsX6_init wsX7_init := goodIn_r _ [47, 48, 2, 3, 32, 49, 85, 86] (by decide +kernel) (by decide +kernel)
set_option maxRecDepth 20000 in
theorem gX6_init_X7_init_n27 : GoodIn wsX6_init (wsX7_init) := ggX6_init_X7_init
set_option maxRecDepth 20000 in
theorem ggX6_init_X4_init : GoodIn wsX6_init wsX4_init := goodIn_r _ [51, 52, 2, 3, 53, 32, 54, 55, 44, 56, 57, 87, 88, 89, 90, 91, 92, 93] (by decide +kernel) (by decide +kernel)
set_option maxRecDepth 20000 in
theorem gX6_init_X4_init_n34 : GoodIn wsX6_init (wsX4_init) := ggX6_init_X4_init
set_option maxRecDepth 20000 in
theorem ggX6_init_X0_init : GoodIn wsX6_init wsX0_init := goodIn_r _ [59, 60, 2, 3, 61, 62, 94, 95, 96, 97, 98, 99, 100] (by decide +kernel) (by decide +kernel)
set_option maxRecDepth 20000 in
theorem gX6_init_X0_init_n41 : GoodIn wsX6_init (wsX0_init) := ggX6_init_X0_init
set_option maxRecDepth 20000 in
theorem ggX6_copyFrom_X5_copyFrom : GoodIn wsX6_copyFrom wsX5_copyFrom := goodIn_r _ [20, 21, 22, 23, 8, 9, 10, 24, 25, 26, 27, 28, 29, 83, 84, 85, 86, 87, 88, 89, 90] (by decide +kernel) (by decide +kernel)
set_option maxRecDepth 20000 in
theorem gX6_copyFrom_X5_copyFrom : GoodIn wsX6_copyFrom (wsV RX6 60 RX5 yX5_copyFrom wsX5_copyFrom) := goodIn_app (goodIn_of _ (by decide +kernel)) ggX6_copyFrom_X5_copyFrom
set_option maxRecDepth 20000 in
theorem ggX6_copyFrom_X1_copyFrom : GoodIn wsX6_copyFrom wsX1_copyFrom := goodIn_r _ [34, 35, 36, 37, 8, 9, 10, 38, 91, 92, 93] (by decide +kernel) (by decide +kernel)
set_option maxRecDepth 20000 in
theorem gX6_copyFrom_X1_copyFrom : GoodIn wsX6_copyFrom (wsV RX6 64 RX1 yX1_copyFrom wsX1_copyFrom) := goodIn_app (goodIn_of _ (by decide +kernel)) ggX6_copyFrom_X1_copyFrom
set_option maxRecDepth 20000 in
theorem ggX6_copyFrom_X7_copyFrom : GoodIn wsX6_copyFrom wsX7_copyFrom := goodIn_r _ [43, 44, 45, 46, 8, 9, 10, 94, 95] (by decide +kernel) (by decide +kernel)
set_option maxRecDepth 20000 in
theorem gX6_copyFrom_X7_copyFrom : GoodIn wsX6_copyFrom (wsV RX6 67 RX7 yX7_copyFrom wsX7_copyFrom) := goodIn_app (goodIn_of _ (by decide +kernel)) ggX6_copyFrom_X7_copyFrom
set_option maxRecDepth 20000 in
theorem ggX6_copyFrom_X4_copyFrom : GoodIn wsX6_copyFrom wsX4_copyFrom := goodIn_r _ [51, 52, 53, 54, 55, 56, 8, 9, 10, 57, 58, 59, 96, 97, 98, 99, 100, 101, 102] (by decide +kernel) (by decide +kernel)
set_option maxRecDepth 20000 in
theorem gX6_copyFrom_X4_copyFrom : GoodIn wsX6_copyFrom (wsV RX6 70 RX4 yX4_copyFrom wsX4_copyFrom) := goodIn_app (goodIn_of _ (by decide +kernel)) ggX6_copyFrom_X4_copyFrom
set_option maxRecDepth 20000 in
theorem ggX6_copyFrom_X0_copyFrom : GoodIn wsX6_copyFrom wsX0_copyFrom := goodIn_r _ [64, 65, 66, 67, 68, 69, 70, 71, 103, 104, 105, 106, 107, 108, 109] (by decide +kernel) (by decide +kernel)
set_option maxRecDepth 20000 in
theorem gX6_copyFrom_X0_copyFrom : GoodIn wsX6_copyFrom (wsV RX6 73 RX0 yX0_copyFrom wsX0_copyFrom) := goodIn_app (goodIn_of _ (by decide +kernel)) ggX6_copyFrom_X0_copyFrom
set_option maxRecDepth 20000 in
theorem ggX6_outer_J9_floorMod_7cf53 : GoodIn wsX6_outer wsJ9_floorMod_7cf53 := goodIn_r _ [6] (by decide +kernel) (by decide +kernel)
set_option maxRecDepth 20000 in
theorem gX6_outer_J9_floorMod_7cf53 : GoodIn wsX6_outer (va_wsS RX6 91 yJ9_floorMod_7cf53 wsJ9_floorMod_7cf53) := goodIn_app (goodIn_of _ (by decide +kernel)) ggX6_outer_J9_floorMod_7cf53
set_option maxRecDepth 20000 in
theorem ggX6_outer_X3_ofBits : GoodIn wsX6_outer wsX3_ofBits := goodIn_r _ [10, 11, 12, 13, 14, 15, 16, 17, 18] (by decide +kernel) (by decide +kernel)
set_option maxRecDepth 20000 in
theorem gX6_outer_X3_ofBits : GoodIn wsX6_outer (va_wsS RX6 97 yX3_ofBits wsX3_ofBits) := goodIn_app (goodIn_of _ (by decide +kernel)) ggX6_outer_X3_ofBits
set_option maxRecDepth 20000 in
theorem ggX6_beginClosing_X6_outer : GoodIn wsX6_beginClosing wsX6_outer := goodIn_r _ [9, 10, 11, 12, 13, 14, 15, 16, 17, 18, 19, 20, 21, 22, 23, 24, 25, 26, 27, 28, 29, 30, 31, 32, 33, 34, 35, 36, 37, 38] (by decide +kernel) (by decide +kernel)
set_option maxRecDepth 20000 in
theorem gX6_beginClosing_X6_outer : GoodIn wsX6_beginClosing (wsV RX6 103 RX6 yX6_outer wsX6_outer) := goodIn_app (goodIn_of _ (by decide +kernel)) ggX6_beginClosing_X6_outer
set_option maxRecDepth 20000 in
theorem ggX6_beginClosing_X3_ofBits : GoodIn wsX6_beginClosing wsX3_ofBits := goodIn_r _ [19, 20, 21, 22, 23, 24, 25, 26, 27] (by decide +kernel) (by decide +kernel)
set_option maxRecDepth 20000 in
theorem gX6_beginClosing_X3_ofBits : GoodIn wsX6_beginClosing (va_wsS RX6 97 yX3_ofBits wsX3_ofBits) := goodIn_app (goodIn_of _ (by decide +kernel)) ggX6_beginClosing_X3_ofBits
set_option maxRecDepth 20000 in
theorem ggX6_passHours_X6_startNext : GoodIn wsX6_passHours wsX6_startNext := goodIn_r _ [10, 11, 1, 12, 13, 14, 15, 16, 17, 18, 19, 20, 21, 22, 23, 24, 25, 26, 27, 28, 29, 30, 31, 32, 33, 34, 35, 36, 37, 38, 39, 40, 41, 42, 43, 44, 45, 46, 140, 141, 142, 143, 144, 145, 146, 147, 148, 149, 150, 151, 152, 153, 154, 155, 156, 157, 158] (by decide +kernel) (by decide +kernel)
set_option maxRecDepth 20000 in
theorem gX6_passHours_X6_startNext : GoodIn wsX6_passHours (wsV RX6 107 RX6 yX6_startNext wsX6_startNext) := goodIn_app (goodIn_of _ (by decide +kernel)) ggX6_passHours_X6_startNext
set_option maxRecDepth 20000 in
theorem ggX6_passHours_X6_outer : GoodIn wsX6_passHours wsX6_outer := goodIn_r _ [50, 51, 5, 52, 53, 54, 55, 56, 57, 58, 59, 60, 61, 62, 63, 64, 65, 66, 67, 140, 141, 142, 143, 144, 145, 146, 147, 148, 149, 150] (by decide +kernel) (by decide +kernel)
set_option maxRecDepth 20000 in
theorem gX6_passHours_X6_outer : GoodIn wsX6_passHours (wsV RX6 103 RX6 yX6_outer wsX6_outer) := goodIn_app (goodIn_of _ (by decide +kernel)) ggX6_passHours_X6_outer
set_option maxRecDepth 20000 in
theorem ggX6_passHours_X5_letThrough : GoodIn wsX6_passHours wsX5_letThrough := goodIn_r _ [71, 17, 72, 73, 74, 75, 76, 77, 78, 79, 80, 81, 82, 31, 32, 33, 15, 34, 22, 83, 84, 85, 86, 87, 88, 89, 90, 91, 92, 93, 94, 65, 95, 96, 57, 58, 59, 60, 61, 62, 63, 64, 66, 67, 97, 98, 99, 100, 101, 151, 152, 153, 154, 155, 156, 157, 158, 159, 160, 161, 162, 163, 164, 165] (by decide +kernel) (by decide +kernel)
set_option maxRecDepth 20000 in
theorem gX6_passHours_X5_letThrough : GoodIn wsX6_passHours (wsV RX6 111 RX5 yX5_letThrough wsX5_letThrough) := goodIn_app (goodIn_of _ (by decide +kernel)) ggX6_passHours_X5_letThrough
set_option maxRecDepth 20000 in
theorem ggX6_passHours_X7_bringTo : GoodIn wsX6_passHours wsX7_bringTo := goodIn_r _ [106, 107, 108, 109, 110, 111, 79, 112, 81, 113, 166, 167, 159, 160, 161, 162, 163, 164, 165] (by decide +kernel) (by decide +kernel)
set_option maxRecDepth 20000 in
theorem gX6_passHours_X7_bringTo : GoodIn wsX6_passHours (wsV RX6 115 RX7 yX7_bringTo wsX7_bringTo) := goodIn_app (goodIn_of _ (by decide +kernel)) ggX6_passHours_X7_bringTo
set_option maxRecDepth 20000 in
theorem ggX6_passHours_X4_run : GoodIn wsX6_passHours wsX4_run := goodIn_r _ [118, 119, 120, 121, 122, 123, 124, 125, 126, 117, 127, 128, 129, 130, 131, 132, 79, 133, 134, 89, 90, 91, 92, 81, 93, 94, 65, 95, 168, 169, 170, 171, 172, 173, 174, 159, 160, 161, 162, 163, 164, 165] (by decide +kernel) (by decide +kernel)
set_option maxRecDepth 20000 in
theorem gX6_passHours_X4_run : GoodIn wsX6_passHours (wsV RX6 118 RX4 yX4_run wsX4_run) := goodIn_app (goodIn_of _ (by decide +kernel)) ggX6_passHours_X4_run
set_option maxRecDepth 20000 in
theorem ggX6_passHours_X5_goOn : GoodIn wsX6_passHours wsX5_goOn := goodIn_r _ [138, 41, 22, 39, 139, 13, 14, 15, 16, 17, 18, 19, 20, 21, 151, 152, 153, 154, 155, 156, 157, 158] (by decide +kernel) (by decide +kernel)
set_option maxRecDepth 20000 in
theorem gX6_passHours_X5_goOn : GoodIn wsX6_passHours (wsV RX6 121 RX5 yX5_goOn wsX5_goOn) := goodIn_app (goodIn_of _ (by decide +kernel)) ggX6_passHours_X5_goOn
set_option maxRecDepth 20000 in
theorem ggX6_startNext_X5_moving : GoodIn wsX6_startNext wsX5_moving := goodIn_r _ [7, 8, 9, 10, 11, 6, 12, 13, 49, 50, 51, 52, 53, 54, 55, 56] (by decide +kernel) (by decide +kernel)
set_option maxRecDepth 20000 in
theorem gX6_startNext_X5_moving : GoodIn wsX6_startNext (wsV RX6 124 RX5 yX5_moving wsX5_moving) := goodIn_app (goodIn_of _ (by decide +kernel)) ggX6_startNext_X5_moving
set_option maxRecDepth 20000 in
theorem ggX6_startNext_X5_lowestOpen : GoodIn wsX6_startNext wsX5_lowestOpen := goodIn_r _ [17, 8, 13, 49, 50, 51, 52, 53, 54, 55, 56] (by decide +kernel) (by decide +kernel)
set_option maxRecDepth 20000 in
theorem gX6_startNext_X5_lowestOpen : GoodIn wsX6_startNext (wsV RX6 128 RX5 yX5_lowestOpen wsX5_lowestOpen) := goodIn_app (goodIn_of _ (by decide +kernel)) ggX6_startNext_X5_lowestOpen
set_option maxRecDepth 20000 in
theorem ggX6_startNext_X5_highestClosed : GoodIn wsX6_startNext wsX5_highestClosed := goodIn_r _ [21, 8, 22, 23, 24, 6, 25, 13, 49, 50, 51, 52, 53, 54, 55, 56] (by decide +kernel) (by decide +kernel)
set_option maxRecDepth 20000 in
theorem gX6_startNext_X5_highestClosed : GoodIn wsX6_startNext (wsV RX6 131 RX5 yX5_highestClosed wsX5_highestClosed) := goodIn_app (goodIn_of _ (by decide +kernel)) ggX6_startNext_X5_highestClosed
set_option maxRecDepth 20000 in
theorem ggX6_startNext_X5_startClosing : GoodIn wsX6_startNext wsX5_startClosing := goodIn_r _ [29, 30, 31, 13, 32, 33, 49, 50, 51, 52, 53, 54, 55, 56] (by decide +kernel) (by decide +kernel)
set_option maxRecDepth 20000 in
theorem gX6_startNext_X5_startClosing : GoodIn wsX6_startNext (wsV RX6 134 RX5 yX5_startClosing wsX5_startClosing) := goodIn_app (goodIn_of _ (by decide +kernel)) ggX6_startNext_X5_startClosing
set_option maxRecDepth 20000 in
theorem ggX6_startNext_X5_startOpening : GoodIn wsX6_startNext wsX5_startOpening := goodIn_r _ [37, 13, 32, 33, 49, 50, 51, 52, 53, 54, 55, 56] (by decide +kernel) (by decide +kernel)
set_option maxRecDepth 20000 in
theorem gX6_startNext_X5_startOpening : GoodIn wsX6_startNext (wsV RX6 138 RX5 yX5_startOpening wsX5_startOpening) := goodIn_app (goodIn_of _ (by decide +kernel)) ggX6_startNext_X5_startOpening
set_option maxRecDepth 20000 in
theorem ggX7_bringTo_X0_bring : GoodIn wsX7_bringTo wsX0_bring := goodIn_r _ [7, 8, 9, 12, 13, 14, 15, 16, 17, 18] (by decide +kernel) (by decide +kernel)
set_option maxRecDepth 20000 in
theorem gX7_bringTo_X0_bring : GoodIn wsX7_bringTo (wsV RX7 23 RX0 yX0_bring wsX0_bring) := goodIn_app (goodIn_of _ (by decide +kernel)) ggX7_bringTo_X0_bring
set_option maxRecDepth 20000 in
theorem ggX8_fault_X8_placeBehind : GoodIn wsX8_fault wsX8_placeBehind := goodIn_r _ [6, 7, 8, 5, 9] (by decide +kernel) (by decide +kernel)
set_option maxRecDepth 20000 in
theorem gX8_fault_X8_placeBehind : GoodIn wsX8_fault (va_wsS RX8 23 yX8_placeBehind wsX8_placeBehind) := goodIn_app (goodIn_of _ (by decide +kernel)) ggX8_fault_X8_placeBehind
set_option maxRecDepth 20000 in
theorem ggX8_placeBehind_X8_isDigit : GoodIn wsX8_placeBehind wsX8_isDigit := goodIn_r _ [4] (by decide +kernel) (by decide +kernel)
set_option maxRecDepth 20000 in
theorem gX8_placeBehind_X8_isDigit : GoodIn wsX8_placeBehind (va_wsS RX8 27 yX8_isDigit wsX8_isDigit) := goodIn_app (goodIn_of _ (by decide +kernel)) ggX8_placeBehind_X8_isDigit
set_option maxRecDepth 20000 in
theorem ggX8_readTenths_X8_isDigit : GoodIn wsX8_readTenths wsX8_isDigit := goodIn_r _ [7] (by decide +kernel) (by decide +kernel)
set_option maxRecDepth 20000 in
theorem gX8_readTenths_X8_isDigit : GoodIn wsX8_readTenths (va_wsS RX8 27 yX8_isDigit wsX8_isDigit) := goodIn_app (goodIn_of _ (by decide +kernel)) ggX8_readTenths_X8_isDigit
set_option maxRecDepth 20000 in
theorem ggX8_readTenths_X8_addLevel : GoodIn wsX8_readTenths wsX8_addLevel := goodIn_r _ [11, 1, 12, 13, 14, 15, 16] (by decide +kernel) (by decide +kernel)
set_option maxRecDepth 20000 in
theorem gX8_readTenths_X8_addLevel : GoodIn wsX8_readTenths (wsV RX8 34 RX8 yX8_addLevel wsX8_addLevel) := goodIn_app (goodIn_of _ (by decide +kernel)) ggX8_readTenths_X8_addLevel
set_option maxRecDepth 20000 in
theorem ggX9_init_X6_init : GoodIn wsX9_init wsX6_init := goodIn_r _ [18, 19, 2, 3, 20, 21, 22, 23, 24, 25, 26, 27, 28, 29, 30, 31, 32, 33, 34, 35, 36, 37, 38, 39, 40, 41, 42, 43, 44, 45, 46, 47, 48, 49, 50, 51, 52, 53, 54, 55, 56, 57, 58, 59, 60, 61, 62, 63, 64, 65, 66, 67, 68, 69, 70, 71, 72, 73, 74, 75, 76, 77, 78, 113, 114, 115, 116, 117, 118, 119, 120, 90, 91, 92, 93, 94, 95, 96, 97, 98, 99, 100, 121, 122, 123, 124, 125, 126, 127, 128, 129, 130, 131, 132, 133, 134, 135, 136, 137, 138, 139] (by decide +kernel) (by decide +kernel)
set_option maxRecDepth 20000 in
theorem gX9_init_X6_init_n9 : GoodIn wsX9_init (wsX6_init) := ggX9_init_X6_init
set_option maxRecDepth 20000 in
theorem ggX9_init_X2_init : GoodIn wsX9_init wsX2_init := goodIn_r _ [80, 81, 2, 3, 82, 83, 106, 107, 108] (by decide +kernel) (by decide +kernel)
set_option maxRecDepth 20000 in
theorem gX9_init_X2_init_n21 : GoodIn wsX9_init (wsX2_init) := ggX9_init_X2_init
set_option maxRecDepth 20000 in
theorem ggX9_init_X8_init : GoodIn wsX9_init wsX8_init := goodIn_r _ [85, 86, 2, 3, 87, 88, 48, 89, 109, 110, 111, 112] (by decide +kernel) (by decide +kernel)
set_option maxRecDepth 20000 in
theorem gX9_init_X8_init_n28 : GoodIn wsX9_init (wsX8_init) := ggX9_init_X8_init
set_option maxRecDepth 20000 in
theorem ggX9_addSection_X9_isOutside : GoodIn wsX9_addSection wsX9_isOutside := goodIn_r _ [7] (by decide +kernel) (by decide +kernel)
set_option maxRecDepth 20000 in
theorem gX9_addSection_X9_isOutside : GoodIn wsX9_addSection (va_wsS RX9 33 yX9_isOutside wsX9_isOutside) := goodIn_app (goodIn_of _ (by decide +kernel)) ggX9_addSection_X9_isOutside
set_option maxRecDepth 20000 in
theorem ggX9_addSection_X3_isCrest : GoodIn wsX9_addSection wsX3_isCrest := goodIn_r _ [11, 12] (by decide +kernel) (by decide +kernel)
set_option maxRecDepth 20000 in
theorem gX9_addSection_X3_isCrest : GoodIn wsX9_addSection (va_wsS RX9 37 yX3_isCrest wsX3_isCrest) := goodIn_app (goodIn_of _ (by decide +kernel)) ggX9_addSection_X3_isCrest
set_option maxRecDepth 20000 in
theorem ggX9_addSection_X5_isFull : GoodIn wsX9_addSection wsX5_isFull := goodIn_r _ [17, 18, 162, 163, 164, 165, 166, 167, 168, 169] (by decide +kernel) (by decide +kernel)
set_option maxRecDepth 20000 in
theorem gX9_addSection_X5_isFull : GoodIn wsX9_addSection (wsV RX9 47 RX5 yX5_isFull wsX5_isFull) := goodIn_app (goodIn_of _ (by decide +kernel)) ggX9_addSection_X5_isFull
set_option maxRecDepth 20000 in
theorem ggX9_addSection_X2_record : GoodIn wsX9_addSection wsX2_record := goodIn_r _ [23, 24, 25, 26, 27, 28, 29, 30, 31, 32, 33, 34, 35, 36, 37, 38, 39, 40, 16, 41, 42, 43, 44, 45, 46, 47, 48, 49, 50, 51, 52, 53, 54, 55, 56, 57, 58, 59, 60, 61, 62, 63, 64, 65, 66, 67, 68, 69, 70, 71, 72, 73, 74, 75, 76, 77, 78, 79, 80, 81, 82, 83, 84, 85, 86, 87, 88, 89, 90, 91, 92, 93, 94, 95, 96, 97, 98, 99, 100, 101, 102, 103, 104, 105, 106, 107, 108, 109, 110, 111, 18, 112, 113, 114, 115, 116, 117, 118, 119, 120, 121, 122, 123, 124, 125, 126, 127, 128, 129, 130, 131, 132, 133, 134, 135, 136, 137, 138, 139, 140, 141, 170, 171, 172, 151, 152, 153, 154, 155, 156, 157, 158, 159, 160, 161, 162, 163, 164, 165, 166, 167, 168, 169, 173, 174, 175, 176, 177, 178, 179, 180, 181, 182, 183, 184, 185, 186, 187, 188, 189, 190, 191] (by decide +kernel) (by decide +kernel)
set_option maxRecDepth 20000 in
theorem gX9_addSection_X2_record : GoodIn wsX9_addSection (wsV RX9 53 RX2 yX2_record wsX2_record) := goodIn_app (goodIn_of _ (by decide +kernel)) ggX9_addSection_X2_record
set_option maxRecDepth 20000 in
theorem ggX9_addSection_X5_add : GoodIn wsX9_addSection wsX5_add := goodIn_r _ [145, 18, 67, 68, 69, 70, 71, 72, 73, 162, 163, 164, 165, 166, 167, 168, 169] (by decide +kernel) (by decide +kernel)
set_option maxRecDepth 20000 in
theorem gX9_addSection_X5_add : GoodIn wsX9_addSection (wsV RX9 57 RX5 yX5_add wsX5_add) := goodIn_app (goodIn_of _ (by decide +kernel)) ggX9_addSection_X5_add
set_option maxRecDepth 20000 in
theorem ggX9_addDistrict_X9_isOutside : GoodIn wsX9_addDistrict wsX9_isOutside := goodIn_r _ [7] (by decide +kernel) (by decide +kernel)
set_option maxRecDepth 20000 in
theorem gX9_addDistrict_X9_isOutside : GoodIn wsX9_addDistrict (va_wsS RX9 33 yX9_isOutside wsX9_isOutside) := goodIn_app (goodIn_of _ (by decide +kernel)) ggX9_addDistrict_X9_isOutside
set_option maxRecDepth 20000 in
theorem ggX9_addDistrict_X1_isFull : GoodIn wsX9_addDistrict wsX1_isFull := goodIn_r _ [12, 13, 157, 158, 159] (by decide +kernel) (by decide +kernel)
set_option maxRecDepth 20000 in
theorem gX9_addDistrict_X1_isFull : GoodIn wsX9_addDistrict (wsV RX9 65 RX1 yX1_isFull wsX1_isFull) := goodIn_app (goodIn_of _ (by decide +kernel)) ggX9_addDistrict_X1_isFull
set_option maxRecDepth 20000 in
theorem ggX9_addDistrict_X2_record : GoodIn wsX9_addDistrict wsX2_record := goodIn_r _ [18, 19, 20, 21, 22, 23, 24, 25, 26, 27, 28, 29, 30, 31, 32, 33, 34, 35, 36, 37, 38, 39, 11, 40, 41, 42, 43, 44, 45, 46, 47, 48, 49, 50, 51, 52, 53, 54, 55, 56, 57, 58, 59, 60, 61, 62, 63, 64, 65, 66, 67, 68, 69, 70, 71, 72, 73, 74, 75, 76, 77, 78, 79, 80, 81, 82, 83, 84, 85, 86, 87, 88, 89, 90, 91, 92, 93, 94, 95, 96, 97, 98, 99, 100, 101, 102, 103, 104, 105, 106, 107, 108, 109, 110, 111, 112, 13, 113, 114, 115, 116, 117, 118, 119, 120, 121, 122, 123, 124, 125, 126, 127, 128, 129, 130, 131, 132, 133, 134, 135, 136, 160, 161, 162, 146, 147, 148, 149, 150, 151, 152, 153, 154, 155, 156, 163, 164, 165, 166, 167, 168, 169, 170, 157, 158, 159, 171, 172, 173, 174, 175, 176, 177, 178, 179, 180, 181, 182, 183, 184, 185, 186] (by decide +kernel) (by decide +kernel)
set_option maxRecDepth 20000 in
theorem gX9_addDistrict_X2_record : GoodIn wsX9_addDistrict (wsV RX9 53 RX2 yX2_record wsX2_record) := goodIn_app (goodIn_of _ (by decide +kernel)) ggX9_addDistrict_X2_record
set_option maxRecDepth 20000 in
theorem ggX9_addDistrict_X1_add : GoodIn wsX9_addDistrict wsX1_add := goodIn_r _ [140, 13, 72, 74, 157, 158, 159] (by decide +kernel) (by decide +kernel)
set_option maxRecDepth 20000 in
theorem gX9_addDistrict_X1_add : GoodIn wsX9_addDistrict (wsV RX9 68 RX1 yX1_add wsX1_add) := goodIn_app (goodIn_of _ (by decide +kernel)) ggX9_addDistrict_X1_add
set_option maxRecDepth 20000 in
theorem ggX9_addStream_X9_isOutside : GoodIn wsX9_addStream wsX9_isOutside := goodIn_r _ [8] (by decide +kernel) (by decide +kernel)
set_option maxRecDepth 20000 in
theorem gX9_addStream_X9_isOutside : GoodIn wsX9_addStream (va_wsS RX9 33 yX9_isOutside wsX9_isOutside) := goodIn_app (goodIn_of _ (by decide +kernel)) ggX9_addStream_X9_isOutside
set_option maxRecDepth 20000 in
theorem ggX9_addStream_X7_isFull : GoodIn wsX9_addStream wsX7_isFull := goodIn_r _ [13, 14, 158, 159] (by decide +kernel) (by decide +kernel)
set_option maxRecDepth 20000 in
theorem gX9_addStream_X7_isFull : GoodIn wsX9_addStream (wsV RX9 76 RX7 yX7_isFull wsX7_isFull) := goodIn_app (goodIn_of _ (by decide +kernel)) ggX9_addStream_X7_isFull
set_option maxRecDepth 20000 in
theorem ggX9_addStream_X2_record : GoodIn wsX9_addStream wsX2_record := goodIn_r _ [19, 20, 21, 22, 23, 24, 25, 26, 27, 28, 29, 30, 31, 32, 33, 34, 35, 36, 37, 38, 39, 40, 41, 42, 43, 44, 12, 45, 46, 47, 48, 49, 50, 51, 52, 53, 54, 55, 56, 57, 58, 59, 60, 61, 62, 63, 64, 65, 66, 67, 68, 69, 70, 71, 72, 73, 74, 75, 76, 77, 78, 79, 80, 81, 82, 83, 84, 85, 86, 87, 88, 89, 90, 91, 92, 93, 94, 95, 96, 97, 98, 99, 100, 101, 102, 103, 104, 105, 106, 107, 108, 109, 110, 111, 112, 113, 114, 115, 116, 117, 118, 119, 14, 120, 121, 122, 123, 124, 125, 126, 127, 128, 129, 130, 131, 132, 133, 134, 135, 136, 137, 160, 161, 162, 147, 148, 149, 150, 151, 152, 153, 154, 155, 156, 157, 163, 164, 165, 166, 167, 168, 169, 170, 171, 172, 173, 158, 159, 174, 175, 176, 177, 178, 179, 180, 181, 182, 183, 184, 185, 186, 187] (by decide +kernel) (by decide +kernel)
set_option maxRecDepth 20000 in
theorem gX9_addStream_X2_record : GoodIn wsX9_addStream (wsV RX9 53 RX2 yX2_record wsX2_record) := goodIn_app (goodIn_of _ (by decide +kernel)) ggX9_addStream_X2_record
set_option maxRecDepth 20000 in
theorem ggX9_addStream_X7_add : GoodIn wsX9_addStream wsX7_add := goodIn_r _ [141, 14, 79, 158, 159] (by decide +kernel) (by decide +kernel)
set_option maxRecDepth 20000 in
theorem gX9_addStream_X7_add : GoodIn wsX9_addStream (wsV RX9 79 RX7 yX7_add wsX7_add) := goodIn_app (goodIn_of _ (by decide +kernel)) ggX9_addStream_X7_add
set_option maxRecDepth 20000 in
theorem ggX9_addPump_X9_isOutside : GoodIn wsX9_addPump wsX9_isOutside := goodIn_r _ [8] (by decide +kernel) (by decide +kernel)
set_option maxRecDepth 20000 in
theorem gX9_addPump_X9_isOutside : GoodIn wsX9_addPump (va_wsS RX9 33 yX9_isOutside wsX9_isOutside) := goodIn_app (goodIn_of _ (by decide +kernel)) ggX9_addPump_X9_isOutside
set_option maxRecDepth 20000 in
theorem ggX9_addPump_X4_isFull : GoodIn wsX9_addPump wsX4_isFull := goodIn_r _ [13, 14, 158, 159, 160, 161, 162, 163, 164] (by decide +kernel) (by decide +kernel)
set_option maxRecDepth 20000 in
theorem gX9_addPump_X4_isFull : GoodIn wsX9_addPump (wsV RX9 84 RX4 yX4_isFull wsX4_isFull) := goodIn_app (goodIn_of _ (by decide +kernel)) ggX9_addPump_X4_isFull
set_option maxRecDepth 20000 in
theorem ggX9_addPump_X2_record : GoodIn wsX9_addPump wsX2_record := goodIn_r _ [19, 20, 21, 22, 23, 24, 25, 26, 27, 28, 29, 30, 31, 32, 33, 34, 35, 36, 37, 38, 39, 40, 41, 42, 43, 44, 45, 46, 47, 48, 12, 49, 50, 51, 52, 53, 54, 55, 56, 57, 58, 59, 60, 61, 62, 63, 64, 65, 66, 67, 68, 69, 70, 71, 72, 73, 74, 75, 76, 77, 78, 79, 80, 81, 82, 83, 84, 85, 86, 87, 88, 89, 90, 91, 92, 93, 94, 95, 96, 97, 98, 99, 100, 101, 102, 103, 104, 105, 106, 107, 108, 109, 110, 111, 112, 113, 114, 115, 116, 117, 118, 119, 120, 121, 122, 123, 124, 125, 14, 126, 127, 128, 129, 130, 131, 132, 133, 134, 135, 136, 137, 165, 166, 167, 147, 148, 149, 150, 151, 152, 153, 154, 155, 156, 157, 168, 169, 170, 171, 172, 173, 174, 175, 176, 177, 178, 179, 180, 158, 159, 160, 161, 162, 163, 164, 181, 182, 183, 184, 185, 186, 187] (by decide +kernel) (by decide +kernel)
set_option maxRecDepth 20000 in
theorem gX9_addPump_X2_record : GoodIn wsX9_addPump (wsV RX9 53 RX2 yX2_record wsX2_record) := goodIn_app (goodIn_of _ (by decide +kernel)) ggX9_addPump_X2_record
set_option maxRecDepth 20000 in
theorem ggX9_addPump_X4_add : GoodIn wsX9_addPump wsX4_add := goodIn_r _ [141, 14, 84, 85, 86, 87, 158, 159, 160, 161, 162, 163, 164] (by decide +kernel) (by decide +kernel)
set_option maxRecDepth 20000 in
theorem gX9_addPump_X4_add : GoodIn wsX9_addPump (wsV RX9 87 RX4 yX4_add wsX4_add) := goodIn_app (goodIn_of _ (by decide +kernel)) ggX9_addPump_X4_add
set_option maxRecDepth 20000 in
theorem ggX9_setStream_X7_has : GoodIn wsX9_setStream wsX7_has := goodIn_r _ [10, 11, 155, 156] (by decide +kernel) (by decide +kernel)
set_option maxRecDepth 20000 in
theorem gX9_setStream_X7_has : GoodIn wsX9_setStream (wsV RX9 90 RX7 yX7_has wsX7_has) := goodIn_app (goodIn_of _ (by decide +kernel)) ggX9_setStream_X7_has
set_option maxRecDepth 20000 in
theorem ggX9_setStream_X9_isOutside : GoodIn wsX9_setStream wsX9_isOutside := goodIn_r _ [15] (by decide +kernel) (by decide +kernel)
set_option maxRecDepth 20000 in
theorem gX9_setStream_X9_isOutside : GoodIn wsX9_setStream (va_wsS RX9 33 yX9_isOutside wsX9_isOutside) := goodIn_app (goodIn_of _ (by decide +kernel)) ggX9_setStream_X9_isOutside
set_option maxRecDepth 20000 in
theorem ggX9_setStream_X2_record : GoodIn wsX9_setStream wsX2_record := goodIn_r _ [20, 21, 22, 23, 24, 25, 26, 27, 28, 29, 30, 31, 32, 33, 34, 35, 36, 37, 38, 39, 40, 41, 42, 43, 44, 45, 9, 46, 47, 48, 49, 50, 51, 52, 53, 54, 55, 56, 57, 58, 59, 60, 61, 62, 63, 64, 65, 66, 67, 68, 69, 70, 71, 72, 73, 74, 75, 76, 77, 78, 79, 80, 81, 82, 83, 84, 85, 86, 87, 88, 89, 90, 91, 92, 93, 94, 95, 96, 97, 98, 99, 100, 101, 102, 103, 104, 105, 106, 107, 108, 109, 110, 111, 112, 113, 114, 115, 116, 117, 118, 119, 120, 11, 121, 122, 123, 124, 125, 126, 127, 128, 129, 130, 131, 132, 133, 134, 135, 136, 137, 138, 157, 158, 159, 144, 145, 146, 147, 148, 149, 150, 151, 152, 153, 154, 160, 161, 162, 163, 164, 165, 166, 167, 168, 169, 170, 155, 156, 171, 172, 173, 174, 175, 176, 177, 178, 179, 180, 181, 182, 183, 184] (by decide +kernel) (by decide +kernel)
set_option maxRecDepth 20000 in
theorem gX9_setStream_X2_record : GoodIn wsX9_setStream (wsV RX9 53 RX2 yX2_record wsX2_record) := goodIn_app (goodIn_of _ (by decide +kernel)) ggX9_setStream_X2_record
set_option maxRecDepth 20000 in
theorem ggX9_switchPump_X4_has : GoodIn wsX9_switchPump wsX4_has := goodIn_r _ [9, 10, 154, 155, 156, 157, 158, 159, 160] (by decide +kernel) (by decide +kernel)
set_option maxRecDepth 20000 in
theorem gX9_switchPump_X4_has : GoodIn wsX9_switchPump (wsV RX9 98 RX4 yX4_has wsX4_has) := goodIn_app (goodIn_of _ (by decide +kernel)) ggX9_switchPump_X4_has
set_option maxRecDepth 20000 in
theorem ggX9_switchPump_X2_record : GoodIn wsX9_switchPump wsX2_record := goodIn_r _ [15, 16, 17, 18, 19, 20, 21, 22, 23, 24, 25, 26, 27, 28, 29, 30, 31, 32, 33, 34, 35, 36, 37, 38, 39, 40, 41, 42, 43, 44, 8, 45, 46, 47, 48, 49, 50, 51, 52, 53, 54, 55, 56, 57, 58, 59, 60, 61, 62, 63, 64, 65, 66, 67, 68, 69, 70, 71, 72, 73, 74, 75, 76, 77, 78, 79, 80, 81, 82, 83, 84, 85, 86, 87, 88, 89, 90, 91, 92, 93, 94, 95, 96, 97, 98, 99, 100, 101, 102, 103, 104, 105, 106, 107, 108, 109, 110, 111, 112, 113, 114, 115, 116, 117, 118, 119, 120, 121, 10, 122, 123, 124, 125, 126, 127, 128, 129, 130, 131, 132, 133, 161, 162, 163, 143, 144, 145, 146, 147, 148, 149, 150, 151, 152, 153, 164, 165, 166, 167, 168, 169, 170, 171, 172, 173, 174, 175, 176, 154, 155, 156, 157, 158, 159, 160, 177, 178, 179, 180, 181, 182, 183] (by decide +kernel) (by decide +kernel)
set_option maxRecDepth 20000 in
theorem gX9_switchPump_X2_record : GoodIn wsX9_switchPump (wsV RX9 53 RX2 yX2_record wsX2_record) := goodIn_app (goodIn_of _ (by decide +kernel)) ggX9_switchPump_X2_record
set_option maxRecDepth 20000 in
theorem ggX9_switchPump_X4_countOn : GoodIn wsX9_switchPump wsX4_countOn := goodIn_r _ [137, 10, 82, 154, 155, 156, 157, 158, 159, 160] (by decide +kernel) (by decide +kernel)
set_option maxRecDepth 20000 in
theorem gX9_switchPump_X4_countOn : GoodIn wsX9_switchPump (wsV RX9 103 RX4 yX4_countOn wsX4_countOn) := goodIn_app (goodIn_of _ (by decide +kernel)) ggX9_switchPump_X4_countOn
set_option maxRecDepth 20000 in
theorem ggX9_set_X9_setArea : GoodIn wsX9_set wsX9_setArea := goodIn_r _ [5, 6, 7, 8, 9, 10, 11, 12, 4, 13, 14, 15, 16, 17, 18, 19, 20, 21, 22, 23, 24, 25, 26, 27, 28, 29, 30, 31, 32, 33, 34, 35, 36, 37, 38, 39, 40, 41, 42, 43, 44, 45, 46, 47, 48, 49, 50, 51, 52, 53, 54, 55, 56, 57, 58, 59, 60, 61, 62, 63, 64, 65, 66, 67, 68, 69, 70, 71, 72, 73, 74, 75, 76, 77, 78, 79, 80, 81, 82, 83, 84, 85, 86, 87, 88, 89, 90, 91, 92, 93, 94, 95, 96, 97, 98, 99, 100, 101, 102, 103, 104, 105, 106, 107, 108, 109, 110, 111, 112, 113, 114, 115, 116, 117, 118, 119, 120, 121, 122, 123, 124, 125, 126, 127, 128, 129, 130, 131, 132, 133, 134, 135, 136, 137, 138, 145, 146, 147, 148, 149, 150, 151, 152, 153, 154, 155, 156, 157, 158, 159, 160, 161, 162, 163, 164, 165, 166, 167, 168, 169, 170, 171, 172, 173, 174, 175, 176, 177, 178, 179, 180, 181, 182, 183, 184, 185, 186, 187, 188, 189, 190] (by decide +kernel) (by decide +kernel)
set_option maxRecDepth 20000 in
theorem gX9_set_X9_setArea : GoodIn wsX9_set (wsV RX9 107 RX9 yX9_setArea wsX9_setArea) := goodIn_app (goodIn_of _ (by decide +kernel)) ggX9_set_X9_setArea
set_option maxRecDepth 20000 in
theorem ggX9_set_X9_setLimit : GoodIn wsX9_set wsX9_setLimit := goodIn_r _ [142, 7, 143, 144, 10, 11, 12, 4, 13, 14, 15, 16, 17, 18, 19, 20, 21, 22, 23, 24, 25, 26, 27, 28, 29, 30, 31, 32, 33, 34, 35, 36, 37, 38, 39, 40, 41, 42, 43, 44, 45, 46, 47, 48, 49, 50, 51, 52, 53, 54, 55, 56, 57, 58, 59, 60, 61, 62, 63, 64, 65, 66, 67, 68, 69, 70, 71, 72, 73, 74, 75, 76, 77, 78, 79, 80, 81, 82, 83, 84, 85, 86, 87, 88, 89, 90, 91, 92, 93, 94, 95, 96, 97, 98, 99, 100, 101, 102, 103, 104, 105, 106, 107, 108, 109, 110, 111, 112, 113, 114, 115, 116, 117, 118, 119, 120, 121, 122, 123, 124, 125, 126, 127, 128, 129, 130, 131, 132, 133, 134, 135, 136, 137, 138, 145, 146, 147, 148, 149, 150, 151, 152, 153, 154, 155, 156, 157, 158, 159, 160, 184, 185, 186, 187, 188, 189, 190, 168, 169, 170, 171, 172, 173, 174, 175, 176, 177, 178, 179, 180, 181, 182, 183, 161, 162, 163, 164, 165, 166, 167] (by decide +kernel) (by decide +kernel)
set_option maxRecDepth 20000 in
theorem gX9_set_X9_setLimit : GoodIn wsX9_set (wsV RX9 110 RX9 yX9_setLimit wsX9_setLimit) := goodIn_app (goodIn_of _ (by decide +kernel)) ggX9_set_X9_setLimit
set_option maxRecDepth 20000 in
theorem ggX9_setArea_X9_isOutside : GoodIn wsX9_setArea wsX9_isOutside := goodIn_r _ [9] (by decide +kernel) (by decide +kernel)
set_option maxRecDepth 20000 in
theorem gX9_setArea_X9_isOutside : GoodIn wsX9_setArea (va_wsS RX9 33 yX9_isOutside wsX9_isOutside) := goodIn_app (goodIn_of _ (by decide +kernel)) ggX9_setArea_X9_isOutside
set_option maxRecDepth 20000 in
theorem ggX9_setArea_X2_record : GoodIn wsX9_setArea wsX2_record := goodIn_r _ [14, 15, 16, 17, 18, 19, 20, 21, 22, 23, 24, 25, 26, 27, 28, 29, 30, 31, 32, 33, 34, 35, 36, 37, 38, 39, 40, 41, 42, 43, 44, 45, 46, 47, 48, 49, 50, 51, 52, 53, 54, 55, 56, 57, 58, 59, 60, 61, 62, 63, 64, 65, 66, 67, 68, 69, 70, 71, 72, 73, 74, 75, 76, 77, 78, 79, 80, 81, 82, 83, 84, 85, 86, 87, 88, 89, 90, 91, 92, 93, 94, 95, 96, 97, 98, 99, 100, 101, 102, 103, 104, 105, 106, 107, 108, 109, 110, 111, 112, 113, 114, 115, 116, 117, 118, 119, 120, 121, 122, 123, 124, 125, 126, 127, 128, 129, 130, 131, 132, 133, 134, 158, 159, 160, 140, 141, 142, 143, 144, 145, 146, 147, 148, 149, 150, 161, 162, 163, 164, 165, 166, 167, 168, 169, 170, 171, 172, 173, 174, 175, 176, 177, 178, 179, 180, 151, 152, 153, 154, 155, 156, 157] (by decide +kernel) (by decide +kernel)
set_option maxRecDepth 20000 in
theorem gX9_setArea_X2_record : GoodIn wsX9_setArea (wsV RX9 53 RX2 yX2_record wsX2_record) := goodIn_app (goodIn_of _ (by decide +kernel)) ggX9_setArea_X2_record
set_option maxRecDepth 20000 in
theorem ggX9_setLimit_X9_isOutside : GoodIn wsX9_setLimit wsX9_isOutside := goodIn_r _ [8] (by decide +kernel) (by decide +kernel)
set_option maxRecDepth 20000 in
theorem gX9_setLimit_X9_isOutside : GoodIn wsX9_setLimit (va_wsS RX9 33 yX9_isOutside wsX9_isOutside) := goodIn_app (goodIn_of _ (by decide +kernel)) ggX9_setLimit_X9_isOutside
set_option maxRecDepth 20000 in
theorem ggX9_setLimit_X2_record : GoodIn wsX9_setLimit wsX2_record := goodIn_r _ [13, 14, 15, 16, 17, 18, 19, 20, 21, 22, 23, 24, 25, 26, 27, 28, 29, 30, 31, 32, 33, 34, 35, 36, 37, 38, 39, 40, 41, 42, 43, 44, 45, 46, 47, 48, 49, 50, 51, 52, 53, 54, 55, 56, 57, 58, 59, 60, 61, 62, 63, 64, 65, 66, 67, 68, 69, 70, 71, 72, 73, 74, 75, 76, 77, 78, 79, 80, 81, 82, 83, 84, 85, 86, 87, 88, 89, 90, 91, 92, 93, 94, 95, 96, 97, 98, 99, 100, 101, 102, 103, 104, 105, 106, 107, 108, 109, 110, 111, 112, 113, 114, 115, 116, 117, 118, 119, 120, 121, 122, 123, 124, 125, 126, 127, 128, 129, 130, 131, 132, 133, 157, 158, 159, 139, 140, 141, 142, 143, 144, 145, 146, 147, 148, 149, 160, 161, 162, 163, 164, 165, 166, 167, 168, 169, 170, 171, 172, 150, 151, 152, 153, 154, 155, 156, 173, 174, 175, 176, 177, 178, 179] (by decide +kernel) (by decide +kernel)
set_option maxRecDepth 20000 in
theorem gX9_setLimit_X2_record : GoodIn wsX9_setLimit (wsV RX9 53 RX2 yX2_record wsX2_record) := goodIn_app (goodIn_of _ (by decide +kernel)) ggX9_setLimit_X2_record
set_option maxRecDepth 20000 in
theorem ggX9_setAlarm_X3_isLevel : GoodIn wsX9_setAlarm wsX3_isLevel := goodIn_r _ [7, 8, 9, 10] (by decide +kernel) (by decide +kernel)
set_option maxRecDepth 20000 in
theorem gX9_setAlarm_X3_isLevel : GoodIn wsX9_setAlarm (va_wsS RX9 127 yX3_isLevel wsX3_isLevel) := goodIn_app (goodIn_of _ (by decide +kernel)) ggX9_setAlarm_X3_isLevel
set_option maxRecDepth 20000 in
theorem ggX9_setAlarm_X3_isSame : GoodIn wsX9_setAlarm wsX3_isSame := goodIn_r _ [13, 8] (by decide +kernel) (by decide +kernel)
set_option maxRecDepth 20000 in
theorem gX9_setAlarm_X3_isSame : GoodIn wsX9_setAlarm (va_wsS RX9 134 yX3_isSame wsX3_isSame) := goodIn_app (goodIn_of _ (by decide +kernel)) ggX9_setAlarm_X3_isSame
set_option maxRecDepth 20000 in
theorem ggX9_setAlarm_X2_record : GoodIn wsX9_setAlarm wsX2_record := goodIn_r _ [18, 19, 20, 21, 22, 23, 24, 25, 26, 27, 28, 29, 30, 31, 32, 33, 34, 35, 36, 37, 38, 39, 40, 41, 42, 43, 44, 45, 46, 47, 48, 49, 50, 51, 52, 53, 54, 55, 56, 57, 58, 59, 60, 61, 62, 63, 64, 65, 66, 67, 68, 69, 70, 71, 72, 73, 74, 75, 76, 77, 78, 79, 80, 81, 82, 83, 84, 85, 86, 87, 88, 89, 90, 91, 92, 93, 94, 95, 96, 97, 98, 99, 100, 101, 102, 103, 104, 105, 106, 107, 108, 109, 110, 111, 112, 113, 114, 115, 116, 117, 118, 119, 120, 121, 122, 123, 124, 125, 126, 127, 128, 129, 130, 131, 132, 133, 134, 135, 136, 137, 138, 155, 156, 157, 144, 145, 146, 147, 148, 149, 150, 151, 152, 153, 154, 158, 159, 160, 161, 162, 163, 164, 165, 166, 167, 168, 169, 170, 171, 172, 173, 174, 175, 176, 177, 178, 179, 180, 181, 182, 183, 184] (by decide +kernel) (by decide +kernel)
set_option maxRecDepth 20000 in
theorem gX9_setAlarm_X2_record : GoodIn wsX9_setAlarm (wsV RX9 53 RX2 yX2_record wsX2_record) := goodIn_app (goodIn_of _ (by decide +kernel)) ggX9_setAlarm_X2_record
set_option maxRecDepth 20000 in
theorem ggX9_setTide_X9_isHourOfDay : GoodIn wsX9_setTide wsX9_isHourOfDay := goodIn_r _ [7] (by decide +kernel) (by decide +kernel)
set_option maxRecDepth 20000 in
theorem gX9_setTide_X9_isHourOfDay : GoodIn wsX9_setTide (va_wsS RX9 138 yX9_isHourOfDay wsX9_isHourOfDay) := goodIn_app (goodIn_of _ (by decide +kernel)) ggX9_setTide_X9_isHourOfDay
set_option maxRecDepth 20000 in
theorem ggX9_setTide_X3_isLevel : GoodIn wsX9_setTide wsX3_isLevel := goodIn_r _ [11, 12, 13, 14] (by decide +kernel) (by decide +kernel)
set_option maxRecDepth 20000 in
theorem gX9_setTide_X3_isLevel : GoodIn wsX9_setTide (va_wsS RX9 127 yX3_isLevel wsX3_isLevel) := goodIn_app (goodIn_of _ (by decide +kernel)) ggX9_setTide_X3_isLevel
set_option maxRecDepth 20000 in
theorem ggX9_setTide_X3_isSame : GoodIn wsX9_setTide wsX3_isSame := goodIn_r _ [17, 12] (by decide +kernel) (by decide +kernel)
set_option maxRecDepth 20000 in
theorem gX9_setTide_X3_isSame : GoodIn wsX9_setTide (va_wsS RX9 134 yX3_isSame wsX3_isSame) := goodIn_app (goodIn_of _ (by decide +kernel)) ggX9_setTide_X3_isSame
set_option maxRecDepth 20000 in
theorem ggX9_setTide_X2_record : GoodIn wsX9_setTide wsX2_record := goodIn_r _ [22, 23, 24, 25, 26, 27, 28, 29, 30, 31, 32, 33, 34, 35, 36, 37, 38, 39, 40, 41, 42, 43, 44, 45, 46, 47, 48, 49, 50, 51, 52, 53, 54, 55, 56, 57, 58, 59, 60, 61, 62, 63, 64, 65, 66, 67, 68, 69, 70, 71, 72, 73, 74, 75, 76, 77, 78, 79, 80, 81, 82, 83, 84, 85, 86, 87, 88, 89, 90, 91, 92, 93, 94, 95, 96, 97, 98, 99, 100, 101, 102, 103, 104, 105, 106, 107, 108, 109, 110, 111, 112, 113, 114, 115, 116, 117, 118, 119, 120, 121, 122, 123, 124, 125, 126, 127, 128, 129, 130, 131, 132, 133, 134, 135, 136, 137, 138, 139, 140, 141, 142, 159, 160, 161, 148, 149, 150, 151, 152, 153, 154, 155, 156, 157, 158, 162, 163, 164, 165, 166, 167, 168, 169, 170, 171, 172, 173, 174, 175, 176, 177, 178, 179, 180, 181, 182, 183, 184, 185, 186, 187, 188] (by decide +kernel) (by decide +kernel)
set_option maxRecDepth 20000 in
theorem gX9_setTide_X2_record : GoodIn wsX9_setTide (wsV RX9 53 RX2 yX2_record wsX2_record) := goodIn_app (goodIn_of _ (by decide +kernel)) ggX9_setTide_X2_record
set_option maxRecDepth 20000 in
theorem ggX9_vote_X1_has : GoodIn wsX9_vote wsX1_has := goodIn_r _ [9, 10, 154, 155, 156] (by decide +kernel) (by decide +kernel)
set_option maxRecDepth 20000 in
theorem gX9_vote_X1_has : GoodIn wsX9_vote (wsV RX9 145 RX1 yX1_has wsX1_has) := goodIn_app (goodIn_of _ (by decide +kernel)) ggX9_vote_X1_has
set_option maxRecDepth 20000 in
theorem ggX9_vote_X2_record : GoodIn wsX9_vote wsX2_record := goodIn_r _ [15, 16, 17, 18, 19, 20, 21, 22, 23, 24, 25, 26, 27, 28, 29, 30, 31, 32, 33, 34, 35, 36, 8, 37, 38, 39, 40, 41, 42, 43, 44, 45, 46, 47, 48, 49, 50, 51, 52, 53, 54, 55, 56, 57, 58, 59, 60, 61, 62, 63, 64, 65, 66, 67, 68, 69, 70, 71, 72, 73, 74, 75, 76, 77, 78, 79, 80, 81, 82, 83, 84, 85, 86, 87, 88, 89, 90, 91, 92, 93, 94, 95, 96, 97, 98, 99, 100, 101, 102, 103, 104, 105, 106, 107, 108, 109, 10, 110, 111, 112, 113, 114, 115, 116, 117, 118, 119, 120, 121, 122, 123, 124, 125, 126, 127, 128, 129, 130, 131, 132, 133, 157, 158, 159, 143, 144, 145, 146, 147, 148, 149, 150, 151, 152, 153, 160, 161, 162, 163, 164, 165, 166, 167, 154, 155, 156, 168, 169, 170, 171, 172, 173, 174, 175, 176, 177, 178, 179, 180, 181, 182, 183] (by decide +kernel) (by decide +kernel)
set_option maxRecDepth 20000 in
theorem gX9_vote_X2_record : GoodIn wsX9_vote (wsV RX9 53 RX2 yX2_record wsX2_record) := goodIn_app (goodIn_of _ (by decide +kernel)) ggX9_vote_X2_record
set_option maxRecDepth 20000 in
theorem ggX9_vote_X1_weightForClosing : GoodIn wsX9_vote wsX1_weightForClosing := goodIn_r _ [137, 10, 71, 69, 154, 155, 156] (by decide +kernel) (by decide +kernel)
set_option maxRecDepth 20000 in
theorem gX9_vote_X1_weightForClosing : GoodIn wsX9_vote (wsV RX9 149 RX1 yX1_weightForClosing wsX1_weightForClosing) := goodIn_app (goodIn_of _ (by decide +kernel)) ggX9_vote_X1_weightForClosing
set_option maxRecDepth 20000 in
theorem ggX9_close_X1_allowClosing : GoodIn wsX9_close wsX1_allowClosing := goodIn_r _ [10, 11, 12, 13, 9, 14, 15, 16, 17, 18, 19, 20, 21, 188, 189, 190] (by decide +kernel) (by decide +kernel)
set_option maxRecDepth 20000 in
theorem gX9_close_X1_allowClosing : GoodIn wsX9_close (wsV RX9 152 RX1 yX1_allowClosing wsX1_allowClosing) := goodIn_app (goodIn_of _ (by decide +kernel)) ggX9_close_X1_allowClosing
set_option maxRecDepth 20000 in
theorem ggX9_close_X5_areAllShut : GoodIn wsX9_close wsX5_areAllShut := goodIn_r _ [26, 27, 28, 29, 30, 25, 31, 32, 191, 192, 193, 194, 195, 196, 197, 198] (by decide +kernel) (by decide +kernel)
set_option maxRecDepth 20000 in
theorem gX9_close_X5_areAllShut : GoodIn wsX9_close (wsV RX9 155 RX5 yX5_areAllShut wsX5_areAllShut) := goodIn_app (goodIn_of _ (by decide +kernel)) ggX9_close_X5_areAllShut
set_option maxRecDepth 20000 in
theorem ggX9_close_X2_record : GoodIn wsX9_close wsX2_record := goodIn_r _ [37, 38, 39, 40, 41, 42, 43, 44, 45, 46, 47, 48, 49, 50, 51, 52, 53, 54, 25, 55, 56, 57, 9, 58, 59, 60, 61, 62, 63, 64, 65, 66, 67, 68, 69, 70, 71, 72, 73, 74, 75, 76, 77, 78, 79, 80, 81, 82, 83, 32, 84, 85, 86, 87, 88, 17, 89, 16, 90, 91, 92, 93, 94, 95, 96, 97, 98, 99, 100, 101, 102, 103, 104, 105, 106, 107, 108, 109, 110, 111, 112, 113, 114, 115, 116, 117, 118, 119, 120, 121, 27, 122, 123, 124, 125, 126, 15, 127, 128, 129, 130, 131, 132, 133, 134, 135, 136, 137, 138, 139, 140, 141, 142, 143, 144, 145, 146, 147, 148, 149, 150, 199, 200, 201, 177, 178, 179, 180, 181, 182, 183, 184, 185, 186, 187, 191, 192, 193, 194, 195, 196, 197, 198, 188, 189, 190, 202, 203, 204, 205, 206, 207, 208, 209, 210, 211, 212, 213, 214, 215, 216, 217] (by decide +kernel) (by decide +kernel)
set_option maxRecDepth 20000 in
theorem gX9_close_X2_record : GoodIn wsX9_close (wsV RX9 53 RX2 yX2_record wsX2_record) := goodIn_app (goodIn_of _ (by decide +kernel)) ggX9_close_X2_record
set_option maxRecDepth 20000 in
theorem ggX9_close_X6_beginClosing : GoodIn wsX9_close wsX6_beginClosing := goodIn_r _ [154, 74, 75, 116, 117, 155, 156, 157, 43, 158, 72, 115, 159, 45, 46, 47, 160, 161, 162, 163, 164, 165, 166, 167, 168, 169, 170, 171, 177, 178, 179, 180, 181, 182, 183, 184, 185, 186, 187] (by decide +kernel) (by decide +kernel)
set_option maxRecDepth 20000 in
theorem gX9_close_X6_beginClosing : GoodIn wsX9_close (wsV RX9 161 RX6 yX6_beginClosing wsX6_beginClosing) := goodIn_app (goodIn_of _ (by decide +kernel)) ggX9_close_X6_beginClosing
set_option maxRecDepth 20000 in
theorem ggX9_open_X5_countIn : GoodIn wsX9_open wsX5_countIn := goodIn_r _ [9, 10, 11, 158, 159, 160, 161, 162, 163, 164, 165] (by decide +kernel) (by decide +kernel)
set_option maxRecDepth 20000 in
theorem gX9_open_X5_countIn : GoodIn wsX9_open (wsV RX9 164 RX5 yX5_countIn wsX5_countIn) := goodIn_app (goodIn_of _ (by decide +kernel)) ggX9_open_X5_countIn
set_option maxRecDepth 20000 in
theorem ggX9_open_X5_moving : GoodIn wsX9_open wsX5_moving := goodIn_r _ [15, 10, 16, 17, 18, 8, 19, 11, 158, 159, 160, 161, 162, 163, 164, 165] (by decide +kernel) (by decide +kernel)
set_option maxRecDepth 20000 in
theorem gX9_open_X5_moving : GoodIn wsX9_open (wsV RX9 167 RX5 yX5_moving wsX5_moving) := goodIn_app (goodIn_of _ (by decide +kernel)) ggX9_open_X5_moving
set_option maxRecDepth 20000 in
theorem ggX9_open_X2_record : GoodIn wsX9_open wsX2_record := goodIn_r _ [24, 25, 26, 27, 28, 29, 30, 31, 32, 33, 34, 35, 36, 37, 38, 39, 40, 41, 8, 42, 43, 44, 45, 46, 47, 48, 49, 50, 51, 52, 53, 54, 55, 56, 57, 58, 59, 60, 61, 62, 63, 64, 65, 66, 67, 68, 69, 70, 71, 11, 72, 73, 74, 75, 76, 77, 78, 79, 80, 81, 82, 83, 84, 85, 86, 87, 88, 89, 90, 91, 92, 93, 94, 95, 96, 97, 98, 99, 100, 101, 102, 103, 104, 105, 106, 107, 108, 109, 110, 111, 10, 112, 113, 114, 115, 116, 117, 118, 119, 120, 121, 122, 123, 124, 125, 126, 127, 128, 129, 130, 131, 132, 133, 134, 135, 136, 137, 138, 139, 140, 141, 166, 167, 168, 147, 148, 149, 150, 151, 152, 153, 154, 155, 156, 157, 158, 159, 160, 161, 162, 163, 164, 165, 169, 170, 171, 172, 173, 174, 175, 176, 177, 178, 179, 180, 181, 182, 183, 184, 185, 186, 187] (by decide +kernel) (by decide +kernel)
set_option maxRecDepth 20000 in
theorem gX9_open_X2_record : GoodIn wsX9_open (wsV RX9 53 RX2 yX2_record wsX2_record) := goodIn_app (goodIn_of _ (by decide +kernel)) ggX9_open_X2_record
set_option maxRecDepth 20000 in
theorem ggX9_service_X5_has : GoodIn wsX9_service wsX5_has := goodIn_r _ [10, 11, 163, 164, 165, 166, 167, 168, 169, 170] (by decide +kernel) (by decide +kernel)
set_option maxRecDepth 20000 in
theorem gX9_service_X5_has : GoodIn wsX9_service (wsV RX9 170 RX5 yX5_has wsX5_has) := goodIn_app (goodIn_of _ (by decide +kernel)) ggX9_service_X5_has
set_option maxRecDepth 20000 in
theorem ggX9_service_X5_isMoving : GoodIn wsX9_service wsX5_isMoving := goodIn_r _ [15, 16, 163, 164, 165, 166, 167, 168, 169, 170] (by decide +kernel) (by decide +kernel)
set_option maxRecDepth 20000 in
theorem gX9_service_X5_isMoving : GoodIn wsX9_service (wsV RX9 171 RX5 yX5_isMoving wsX5_isMoving) := goodIn_app (goodIn_of _ (by decide +kernel)) ggX9_service_X5_isMoving
set_option maxRecDepth 20000 in
theorem ggX9_service_X5_isClosed : GoodIn wsX9_service wsX5_isClosed := goodIn_r _ [20, 16, 163, 164, 165, 166, 167, 168, 169, 170] (by decide +kernel) (by decide +kernel)
set_option maxRecDepth 20000 in
theorem gX9_service_X5_isClosed : GoodIn wsX9_service (wsV RX9 174 RX5 yX5_isClosed wsX5_isClosed) := goodIn_app (goodIn_of _ (by decide +kernel)) ggX9_service_X5_isClosed
set_option maxRecDepth 20000 in
theorem ggX9_service_X2_record : GoodIn wsX9_service wsX2_record := goodIn_r _ [25, 26, 27, 28, 29, 30, 31, 32, 33, 34, 35, 36, 37, 38, 39, 40, 41, 42, 9, 43, 44, 45, 46, 47, 48, 49, 50, 51, 52, 53, 54, 55, 56, 57, 58, 59, 60, 61, 62, 63, 64, 65, 66, 67, 68, 69, 70, 71, 72, 16, 73, 74, 75, 76, 77, 78, 79, 80, 81, 82, 83, 84, 85, 86, 87, 88, 89, 90, 91, 92, 93, 94, 95, 96, 97, 98, 99, 100, 101, 102, 103, 104, 105, 106, 107, 108, 109, 110, 111, 112, 11, 113, 114, 115, 116, 117, 118, 119, 120, 121, 122, 123, 124, 125, 126, 127, 128, 129, 130, 131, 132, 133, 134, 135, 136, 137, 138, 139, 140, 141, 142, 171, 172, 173, 152, 153, 154, 155, 156, 157, 158, 159, 160, 161, 162, 163, 164, 165, 166, 167, 168, 169, 170, 174, 175, 176, 177, 178, 179, 180, 181, 182, 183, 184, 185, 186, 187, 188, 189, 190, 191, 192] (by decide +kernel) (by decide +kernel)
set_option maxRecDepth 20000 in
theorem gX9_service_X2_record : GoodIn wsX9_service (wsV RX9 53 RX2 yX2_record wsX2_record) := goodIn_app (goodIn_of _ (by decide +kernel)) ggX9_service_X2_record
set_option maxRecDepth 20000 in
theorem ggX9_service_X5_renew : GoodIn wsX9_service wsX5_renew := goodIn_r _ [146, 16, 74, 163, 164, 165, 166, 167, 168, 169, 170] (by decide +kernel) (by decide +kernel)
set_option maxRecDepth 20000 in
theorem gX9_service_X5_renew : GoodIn wsX9_service (wsV RX9 183 RX5 yX5_renew wsX5_renew) := goodIn_app (goodIn_of _ (by decide +kernel)) ggX9_service_X5_renew
set_option maxRecDepth 20000 in
theorem ggX9_pass_X9_isOutside : GoodIn wsX9_pass wsX9_isOutside := goodIn_r _ [6] (by decide +kernel) (by decide +kernel)
set_option maxRecDepth 20000 in
theorem gX9_pass_X9_isOutside : GoodIn wsX9_pass (va_wsS RX9 33 yX9_isOutside wsX9_isOutside) := goodIn_app (goodIn_of _ (by decide +kernel)) ggX9_pass_X9_isOutside
set_option maxRecDepth 20000 in
theorem ggX9_pass_X2_record : GoodIn wsX9_pass wsX2_record := goodIn_r _ [11, 12, 13, 14, 15, 16, 17, 18, 19, 20, 21, 22, 23, 24, 25, 26, 27, 28, 29, 30, 31, 32, 33, 34, 35, 36, 37, 38, 39, 40, 41, 42, 43, 44, 45, 46, 47, 48, 49, 50, 51, 52, 53, 54, 55, 56, 57, 58, 59, 60, 61, 62, 63, 64, 65, 66, 67, 68, 69, 70, 71, 72, 73, 74, 75, 76, 77, 78, 79, 80, 81, 82, 83, 84, 85, 86, 87, 88, 89, 90, 91, 92, 93, 94, 95, 96, 97, 98, 99, 100, 101, 102, 103, 104, 105, 106, 107, 108, 109, 110, 111, 112, 113, 114, 115, 116, 117, 118, 119, 120, 121, 122, 123, 124, 125, 126, 127, 128, 129, 130, 131, 241, 242, 243, 244, 245, 246, 247, 248, 249, 250, 251, 252, 253, 254, 255, 256, 257, 258, 259, 260, 261, 262, 263, 264, 265, 266, 267, 268, 269, 270, 271, 272, 273, 274, 275, 276, 277, 278, 279, 280, 281] (by decide +kernel) (by decide +kernel)
set_option maxRecDepth 20000 in
theorem gX9_pass_X2_record : GoodIn wsX9_pass (wsV RX9 53 RX2 yX2_record wsX2_record) := goodIn_app (goodIn_of _ (by decide +kernel)) ggX9_pass_X2_record
set_option maxRecDepth 20000 in
theorem ggX9_pass_X6_passHours : GoodIn wsX9_pass wsX6_passHours := goodIn_r _ [135, 30, 46, 38, 42, 94, 136, 137, 138, 17, 139, 51, 140, 141, 142, 29, 143, 101, 144, 145, 146, 147, 60, 148, 149, 150, 151, 152, 153, 154, 155, 156, 157, 158, 159, 160, 161, 162, 163, 62, 59, 61, 58, 164, 165, 166, 167, 168, 169, 170, 171, 48, 172, 19, 20, 21, 173, 174, 175, 176, 177, 178, 179, 180, 181, 182, 183, 184, 185, 186, 187, 188, 56, 189, 57, 190, 191, 192, 193, 45, 194, 126, 85, 195, 196, 197, 198, 127, 128, 199, 200, 201, 202, 203, 204, 205, 206, 207, 208, 209, 210, 129, 211, 212, 213, 37, 214, 113, 72, 215, 216, 217, 218, 130, 219, 220, 221, 41, 222, 120, 119, 77, 80, 78, 223, 224, 225, 226, 79, 76, 227, 228, 229, 230, 131, 231, 232, 233, 234, 235, 244, 245, 246, 247, 248, 249, 250, 251, 252, 253, 254, 255, 256, 257, 258, 259, 260, 261, 262, 275, 276, 277, 278, 279, 280, 281, 266, 267, 268, 269, 270, 271, 272, 273, 274] (by decide +kernel) (by decide +kernel)
set_option maxRecDepth 20000 in
theorem gX9_pass_X6_passHours : GoodIn wsX9_pass (wsV RX9 187 RX6 yX6_passHours wsX6_passHours) := goodIn_app (goodIn_of _ (by decide +kernel)) ggX9_pass_X6_passHours
set_option maxRecDepth 20000 in
theorem ggX9_type_X8_isFull : GoodIn wsX9_type wsX8_isFull := goodIn_r _ [6, 7, 18, 19, 20, 21] (by decide +kernel) (by decide +kernel)
set_option maxRecDepth 20000 in
theorem gX9_type_X8_isFull : GoodIn wsX9_type (wsV RX9 190 RX8 yX8_isFull wsX8_isFull) := goodIn_app (goodIn_of _ (by decide +kernel)) ggX9_type_X8_isFull
set_option maxRecDepth 20000 in
theorem ggX9_type_X8_append : GoodIn wsX9_type wsX8_append := goodIn_r _ [11, 12, 7, 18, 19, 20, 21] (by decide +kernel) (by decide +kernel)
set_option maxRecDepth 20000 in
theorem gX9_type_X8_append : GoodIn wsX9_type (wsV RX9 191 RX8 yX8_append wsX8_append) := goodIn_app (goodIn_of _ (by decide +kernel)) ggX9_type_X8_append
set_option maxRecDepth 20000 in
theorem ggX9_clearText_X8_empty : GoodIn wsX9_clearText wsX8_empty := goodIn_r _ [6, 7, 13, 14, 15, 16] (by decide +kernel) (by decide +kernel)
set_option maxRecDepth 20000 in
theorem gX9_clearText_X8_empty : GoodIn wsX9_clearText (wsV RX9 195 RX8 yX8_empty wsX8_empty) := goodIn_app (goodIn_of _ (by decide +kernel)) ggX9_clearText_X8_empty
set_option maxRecDepth 20000 in
theorem ggX9_readTides_X9_isHourOfDay : GoodIn wsX9_readTides wsX9_isHourOfDay := goodIn_r _ [9] (by decide +kernel) (by decide +kernel)
set_option maxRecDepth 20000 in
theorem gX9_readTides_X9_isHourOfDay : GoodIn wsX9_readTides (va_wsS RX9 138 yX9_isHourOfDay wsX9_isHourOfDay) := goodIn_app (goodIn_of _ (by decide +kernel)) ggX9_readTides_X9_isHourOfDay
set_option maxRecDepth 20000 in
theorem ggX9_readTides_X8_fault : GoodIn wsX9_readTides wsX8_fault := goodIn_r _ [14, 15, 16, 17, 18, 13, 19, 20, 21, 22, 194, 195, 196, 197] (by decide +kernel) (by decide +kernel)
set_option maxRecDepth 20000 in
theorem gX9_readTides_X8_fault : GoodIn wsX9_readTides (wsV RX9 198 RX8 yX8_fault wsX8_fault) := goodIn_app (goodIn_of _ (by decide +kernel)) ggX9_readTides_X8_fault
set_option maxRecDepth 20000 in
theorem ggX9_readTides_X8_readTenths : GoodIn wsX9_readTides wsX8_readTenths := goodIn_r _ [26, 27, 15, 16, 20, 21, 13, 22, 28, 29, 30, 31, 32, 194, 195, 196, 197] (by decide +kernel) (by decide +kernel)
set_option maxRecDepth 20000 in
theorem gX9_readTides_X8_readTenths : GoodIn wsX9_readTides (wsV RX9 201 RX8 yX8_readTenths wsX8_readTenths) := goodIn_app (goodIn_of _ (by decide +kernel)) ggX9_readTides_X8_readTenths
set_option maxRecDepth 20000 in
theorem ggX9_readTides_X8_lowestTenths : GoodIn wsX9_readTides wsX8_lowestTenths := goodIn_r _ [36, 27, 32, 37, 38, 39, 40, 194, 195, 196, 197] (by decide +kernel) (by decide +kernel)
set_option maxRecDepth 20000 in
theorem gX9_readTides_X8_lowestTenths : GoodIn wsX9_readTides (wsV RX9 204 RX8 yX8_lowestTenths wsX8_lowestTenths) := goodIn_app (goodIn_of _ (by decide +kernel)) ggX9_readTides_X8_lowestTenths
set_option maxRecDepth 20000 in
theorem ggX9_readTides_X2_record : GoodIn wsX9_readTides wsX2_record := goodIn_r _ [45, 46, 47, 48, 49, 50, 51, 52, 53, 54, 55, 56, 57, 58, 59, 60, 61, 62, 63, 64, 65, 66, 67, 68, 69, 70, 71, 72, 73, 74, 75, 76, 77, 78, 79, 80, 81, 82, 83, 84, 85, 86, 87, 88, 89, 90, 91, 92, 93, 94, 95, 96, 97, 98, 99, 100, 101, 102, 103, 104, 105, 106, 107, 108, 109, 110, 111, 112, 113, 114, 115, 116, 117, 118, 119, 120, 121, 122, 123, 124, 125, 126, 127, 128, 129, 130, 131, 132, 133, 134, 135, 136, 137, 138, 139, 140, 141, 142, 143, 144, 145, 146, 147, 148, 149, 150, 151, 152, 153, 154, 155, 156, 157, 158, 159, 160, 161, 162, 163, 164, 165, 198, 199, 200, 183, 184, 185, 186, 187, 188, 189, 190, 191, 192, 193, 201, 202, 203, 204, 205, 206, 207, 208, 209, 210, 211, 212, 213, 214, 215, 216, 217, 218, 219, 220, 221, 222, 223, 224, 225, 226, 227] (by decide +kernel) (by decide +kernel)
set_option maxRecDepth 20000 in
theorem gX9_readTides_X2_record : GoodIn wsX9_readTides (wsV RX9 53 RX2 yX2_record wsX2_record) := goodIn_app (goodIn_of _ (by decide +kernel)) ggX9_readTides_X2_record
set_option maxRecDepth 20000 in
theorem ggX9_readTides_X3_bitsOfTenths : GoodIn wsX9_readTides wsX3_bitsOfTenths := goodIn_r _ [169, 170, 171, 39, 172, 173, 174, 175, 176, 177] (by decide +kernel) (by decide +kernel)
set_option maxRecDepth 20000 in
theorem gX9_readTides_X3_bitsOfTenths : GoodIn wsX9_readTides (va_wsS RX9 210 yX3_bitsOfTenths wsX3_bitsOfTenths) := goodIn_app (goodIn_of _ (by decide +kernel)) ggX9_readTides_X3_bitsOfTenths
set_option maxRecDepth 20000 in
theorem ggX9_undo_X2_takeLatest : GoodIn wsX9_undo wsX2_takeLatest := goodIn_r _ [8, 9, 10, 11, 12, 13, 14, 15, 16, 17, 18, 19, 20, 21, 22, 23, 24, 25, 26, 27, 28, 29, 30, 31, 32, 33, 34, 35, 36, 37, 38, 39, 40, 41, 42, 43, 44, 45, 46, 47, 48, 49, 50, 51, 52, 53, 54, 55, 56, 57, 58, 59, 60, 61, 62, 63, 64, 65, 66, 67, 68, 69, 70, 71, 72, 73, 74, 75, 76, 77, 78, 79, 80, 81, 82, 83, 84, 85, 86, 87, 88, 89, 90, 91, 97, 98, 99, 100, 101, 102, 103, 104, 105, 106, 107, 108, 109, 110, 111, 112, 113, 114, 115, 116, 117, 118, 119, 120, 121, 122, 123, 124, 125, 126, 127, 128, 129, 130, 131, 132, 133, 134, 135, 136, 137] (by decide +kernel) (by decide +kernel)
set_option maxRecDepth 20000 in
theorem gX9_undo_X2_takeLatest : GoodIn wsX9_undo (wsV RX9 214 RX2 yX2_takeLatest wsX2_takeLatest) := goodIn_app (goodIn_of _ (by decide +kernel)) ggX9_undo_X2_takeLatest
set_option maxRecDepth 20000 in
theorem ggX9_keep_X6_init : GoodIn wsX9_keep wsX6_init := goodIn_r _ [8, 9, 10, 11, 12, 13, 14, 15, 16, 17, 18, 19, 20, 21, 22, 23, 24, 25, 26, 27, 28, 29, 30, 31, 32, 33, 34, 35, 36, 37, 38, 39, 40, 41, 42, 43, 44, 45, 46, 47, 48, 49, 50, 51, 52, 53, 54, 55, 56, 57, 58, 59, 60, 61, 62, 63, 64, 65, 66, 67, 68, 69, 70, 133, 134, 135, 136, 137, 138, 139, 140, 122, 123, 124, 125, 126, 127, 128, 129, 130, 131, 132, 141, 142, 143, 144, 145, 146, 147, 148, 149, 150, 151, 152, 153, 154, 155, 156, 157, 158, 159] (by decide +kernel) (by decide +kernel)
set_option maxRecDepth 20000 in
theorem gX9_keep_X6_init_n9 : GoodIn wsX9_keep (wsX6_init) := ggX9_keep_X6_init
set_option maxRecDepth 20000 in
theorem ggX9_keep_X6_copyFrom : GoodIn wsX9_keep wsX6_copyFrom := goodIn_r _ [74, 15, 19, 23, 27, 31, 33, 75, 76, 77, 78, 35, 79, 36, 80, 81, 82, 83, 84, 14, 85, 86, 41, 87, 42, 43, 44, 45, 46, 47, 88, 89, 90, 18, 91, 92, 51, 93, 53, 94, 95, 96, 22, 97, 98, 57, 99, 100, 101, 102, 26, 103, 104, 61, 105, 62, 106, 63, 64, 65, 107, 108, 109, 30, 110, 70, 111, 112, 113, 114, 115, 116, 122, 123, 124, 125, 126, 127, 128, 129, 130, 131, 132, 133, 134, 135, 136, 137, 138, 139, 140, 141, 142, 143, 144, 145, 146, 147, 148, 149, 150, 151, 152, 153, 154, 155, 156, 157, 158, 159] (by decide +kernel) (by decide +kernel)
set_option maxRecDepth 20000 in
theorem gX9_keep_X6_copyFrom : GoodIn wsX9_keep (wsV RX9 224 RX6 yX6_copyFrom wsX6_copyFrom) := goodIn_app (goodIn_of _ (by decide +kernel)) ggX9_keep_X6_copyFrom
set_option maxRecDepth 20000 in
theorem ggX9_restore_X2_record : GoodIn wsX9_restore wsX2_record := goodIn_r _ [9, 10, 11, 12, 13, 14, 15, 16, 17, 18, 19, 20, 21, 22, 23, 24, 25, 26, 27, 28, 29, 30, 31, 32, 33, 34, 35, 36, 37, 38, 39, 40, 41, 42, 43, 44, 45, 46, 47, 48, 49, 50, 51, 52, 53, 54, 55, 56, 57, 58, 59, 60, 61, 62, 63, 64, 65, 66, 67, 68, 69, 70, 71, 72, 73, 74, 75, 76, 77, 78, 79, 80, 81, 82, 83, 84, 85, 86, 87, 88, 89, 90, 91, 92, 93, 94, 95, 96, 97, 98, 99, 100, 101, 102, 103, 104, 105, 106, 107, 108, 109, 110, 111, 112, 113, 114, 115, 116, 117, 118, 119, 120, 121, 122, 123, 124, 125, 126, 127, 128, 129, 147, 148, 149, 136, 137, 138, 139, 140, 141, 142, 143, 144, 145, 146, 150, 151, 152, 153, 154, 155, 156, 157, 158, 159, 160, 161, 162, 163, 164, 165, 166, 167, 168, 169, 170, 171, 172, 173, 174, 175, 176] (by decide +kernel) (by decide +kernel)
set_option maxRecDepth 20000 in
theorem gX9_restore_X2_record : GoodIn wsX9_restore (wsV RX9 53 RX2 yX2_record wsX2_record) := goodIn_app (goodIn_of _ (by decide +kernel)) ggX9_restore_X2_record
set_option maxRecDepth 20000 in
theorem ggX9_restore_X6_copyFrom : GoodIn wsX9_restore wsX6_copyFrom := goodIn_r _ [87, 28, 32, 36, 40, 44, 46, 88, 89, 90, 91, 48, 92, 49, 93, 94, 95, 96, 97, 27, 98, 99, 54, 100, 55, 56, 57, 58, 59, 60, 101, 102, 103, 31, 104, 105, 64, 106, 66, 107, 108, 109, 35, 110, 111, 70, 112, 113, 114, 115, 39, 116, 117, 74, 118, 75, 119, 76, 77, 78, 120, 121, 122, 43, 123, 83, 124, 125, 126, 127, 128, 129, 136, 137, 138, 139, 140, 141, 142, 143, 144, 145, 146, 150, 151, 152, 153, 154, 155, 156, 157, 158, 159, 160, 161, 162, 163, 164, 165, 166, 167, 168, 169, 170, 171, 172, 173, 174, 175, 176] (by decide +kernel) (by decide +kernel)
set_option maxRecDepth 20000 in
theorem gX9_restore_X6_copyFrom : GoodIn wsX9_restore (wsV RX9 224 RX6 yX6_copyFrom wsX6_copyFrom) := goodIn_app (goodIn_of _ (by decide +kernel)) ggX9_restore_X6_copyFrom
set_option maxRecDepth 20000 in
theorem ggX9_section_X5_has : GoodIn wsX9_section wsX5_has := goodIn_r _ [13, 14, 36, 37, 38, 39, 40, 41, 42, 43] (by decide +kernel) (by decide +kernel)
set_option maxRecDepth 20000 in
theorem gX9_section_X5_has : GoodIn wsX9_section (wsV RX9 170 RX5 yX5_has wsX5_has) := goodIn_app (goodIn_of _ (by decide +kernel)) ggX9_section_X5_has
set_option maxRecDepth 20000 in
theorem ggX9_section_X5_isMoving : GoodIn wsX9_section wsX5_isMoving := goodIn_r _ [18, 19, 36, 37, 38, 39, 40, 41, 42, 43] (by decide +kernel) (by decide +kernel)
set_option maxRecDepth 20000 in
theorem gX9_section_X5_isMoving : GoodIn wsX9_section (wsV RX9 171 RX5 yX5_isMoving wsX5_isMoving) := goodIn_app (goodIn_of _ (by decide +kernel)) ggX9_section_X5_isMoving
set_option maxRecDepth 20000 in
theorem ggX9_pump_X4_has : GoodIn wsX9_pump wsX4_has := goodIn_r _ [11, 12, 40, 41, 42, 43, 44, 45, 46] (by decide +kernel) (by decide +kernel)
set_option maxRecDepth 20000 in
theorem gX9_pump_X4_has : GoodIn wsX9_pump (wsV RX9 98 RX4 yX4_has wsX4_has) := goodIn_app (goodIn_of _ (by decide +kernel)) ggX9_pump_X4_has
set_option maxRecDepth 20000 in
theorem ggX9_pump_X4_wouldRun : GoodIn wsX9_pump wsX4_wouldRun := goodIn_r _ [16, 12, 17, 18, 19, 20, 10, 21, 22, 23, 40, 41, 42, 43, 44, 45, 46] (by decide +kernel) (by decide +kernel)
set_option maxRecDepth 20000 in
theorem gX9_pump_X4_wouldRun : GoodIn wsX9_pump (wsV RX9 246 RX4 yX4_wouldRun wsX4_wouldRun) := goodIn_app (goodIn_of _ (by decide +kernel)) ggX9_pump_X4_wouldRun
set_option maxRecDepth 20000 in
theorem ggX9_level_X6_outer : GoodIn wsX9_level wsX6_outer := goodIn_r _ [9, 10, 11, 12, 13, 14, 15, 16, 17, 18, 19, 20, 21, 22, 23, 24, 25, 26, 27, 41, 42, 43, 44, 45, 46, 47, 48, 49, 50, 51] (by decide +kernel) (by decide +kernel)
set_option maxRecDepth 20000 in
theorem gX9_level_X6_outer : GoodIn wsX9_level (wsV RX9 252 RX6 yX6_outer wsX6_outer) := goodIn_app (goodIn_of _ (by decide +kernel)) ggX9_level_X6_outer
set_option maxRecDepth 20000 in
theorem ggX9_level_X0_inner : GoodIn wsX9_level wsX0_inner := goodIn_r _ [32, 33, 34, 52, 53, 54, 55, 56, 57, 58] (by decide +kernel) (by decide +kernel)
set_option maxRecDepth 20000 in
theorem gX9_level_X0_inner : GoodIn wsX9_level (wsV RX9 256 RX0 yX0_inner wsX0_inner) := goodIn_app (goodIn_of _ (by decide +kernel)) ggX9_level_X0_inner
set_option maxRecDepth 20000 in
theorem ggX9_level_X3_ofBits : GoodIn wsX9_level wsX3_ofBits := goodIn_r _ [19, 20, 21, 22, 23, 24, 25, 26, 27] (by decide +kernel) (by decide +kernel)
set_option maxRecDepth 20000 in
theorem gX9_level_X3_ofBits : GoodIn wsX9_level (va_wsS RX9 259 yX3_ofBits wsX3_ofBits) := goodIn_app (goodIn_of _ (by decide +kernel)) ggX9_level_X3_ofBits
set_option maxRecDepth 20000 in
theorem ggX9_forecast_X9_isOutside : GoodIn wsX9_forecast wsX9_isOutside := goodIn_r _ [8] (by decide +kernel) (by decide +kernel)
set_option maxRecDepth 20000 in
theorem gX9_forecast_X9_isOutside : GoodIn wsX9_forecast (va_wsS RX9 33 yX9_isOutside wsX9_isOutside) := goodIn_app (goodIn_of _ (by decide +kernel)) ggX9_forecast_X9_isOutside
set_option maxRecDepth 20000 in
theorem ggX9_forecast_X6_copyFrom : GoodIn wsX9_forecast wsX6_copyFrom := goodIn_r _ [13, 14, 15, 16, 17, 18, 19, 20, 21, 22, 23, 24, 25, 26, 27, 28, 29, 30, 31, 32, 33, 34, 35, 36, 37, 38, 39, 40, 41, 42, 43, 44, 45, 46, 47, 48, 49, 50, 51, 52, 53, 54, 55, 56, 57, 58, 59, 60, 61, 62, 63, 64, 65, 66, 67, 68, 69, 70, 71, 72, 73, 74, 75, 76, 77, 78, 79, 80, 81, 82, 83, 84, 198, 199, 200, 201, 202, 203, 204, 205, 206, 207, 208, 209, 210, 211, 212, 213, 214, 215, 216, 217, 218, 219, 220, 221, 222, 223, 224, 225, 226, 227, 228, 229, 230, 231, 232, 233, 234, 235] (by decide +kernel) (by decide +kernel)
set_option maxRecDepth 20000 in
theorem gX9_forecast_X6_copyFrom : GoodIn wsX9_forecast (wsV RX9 224 RX6 yX6_copyFrom wsX6_copyFrom) := goodIn_app (goodIn_of _ (by decide +kernel)) ggX9_forecast_X6_copyFrom
set_option maxRecDepth 20000 in
theorem ggX9_forecast_X6_passHours : GoodIn wsX9_forecast wsX6_passHours := goodIn_r _ [88, 14, 18, 16, 17, 25, 89, 90, 91, 12, 92, 26, 93, 94, 95, 32, 96, 34, 97, 98, 99, 100, 40, 101, 102, 103, 104, 105, 106, 107, 108, 109, 110, 111, 112, 113, 114, 115, 116, 42, 39, 41, 38, 117, 118, 119, 120, 121, 122, 123, 124, 19, 125, 126, 127, 128, 129, 130, 131, 132, 133, 134, 135, 136, 137, 138, 139, 140, 141, 142, 143, 144, 35, 145, 37, 146, 147, 148, 149, 76, 150, 79, 78, 151, 152, 153, 154, 80, 81, 155, 156, 157, 158, 159, 160, 161, 162, 163, 164, 165, 166, 82, 167, 168, 169, 55, 170, 57, 58, 171, 172, 173, 174, 83, 175, 176, 177, 63, 178, 67, 65, 68, 72, 70, 179, 180, 181, 182, 71, 66, 183, 184, 185, 186, 84, 187, 188, 189, 190, 191, 198, 199, 200, 201, 202, 203, 204, 205, 206, 207, 208, 209, 210, 211, 212, 213, 214, 215, 216, 229, 230, 231, 232, 233, 234, 235, 220, 221, 222, 223, 224, 225, 226, 227, 228] (by decide +kernel) (by decide +kernel)
set_option maxRecDepth 20000 in
theorem gX9_forecast_X6_passHours : GoodIn wsX9_forecast (wsV RX9 187 RX6 yX6_passHours wsX6_passHours) := goodIn_app (goodIn_of _ (by decide +kernel)) ggX9_forecast_X6_passHours
set_option maxRecDepth 20000 in
theorem ggX9_forecast_X0_inner : GoodIn wsX9_forecast wsX0_inner := goodIn_r _ [150, 79, 78, 229, 230, 231, 232, 233, 234, 235] (by decide +kernel) (by decide +kernel)
set_option maxRecDepth 20000 in
theorem gX9_forecast_X0_inner : GoodIn wsX9_forecast (wsV RX9 256 RX0 yX0_inner wsX0_inner) := goodIn_app (goodIn_of _ (by decide +kernel)) ggX9_forecast_X0_inner
set_option maxRecDepth 20000 in
theorem ggX9_shutIn_X6_copyFrom : GoodIn wsX9_shutIn wsX6_copyFrom := goodIn_r _ [8, 9, 10, 11, 12, 13, 14, 15, 16, 17, 18, 19, 20, 21, 22, 23, 24, 25, 26, 27, 28, 29, 30, 31, 32, 33, 34, 35, 36, 37, 38, 39, 40, 41, 42, 43, 44, 45, 46, 47, 48, 49, 50, 51, 52, 53, 54, 55, 56, 57, 58, 59, 60, 61, 62, 63, 64, 65, 66, 67, 68, 69, 70, 71, 72, 73, 74, 75, 76, 77, 78, 79, 200, 201, 202, 203, 204, 205, 206, 207, 208, 209, 210, 211, 212, 213, 214, 215, 216, 217, 218, 219, 220, 221, 222, 223, 224, 225, 226, 227, 228, 229, 230, 231, 232, 233, 234, 235, 236, 237] (by decide +kernel) (by decide +kernel)
set_option maxRecDepth 20000 in
theorem gX9_shutIn_X6_copyFrom : GoodIn wsX9_shutIn (wsV RX9 224 RX6 yX6_copyFrom wsX6_copyFrom) := goodIn_app (goodIn_of _ (by decide +kernel)) ggX9_shutIn_X6_copyFrom
set_option maxRecDepth 20000 in
theorem ggX9_shutIn_X5_areAllShut : GoodIn wsX9_shutIn wsX5_areAllShut := goodIn_r _ [83, 29, 84, 85, 86, 27, 87, 35, 211, 212, 213, 214, 215, 216, 217, 218] (by decide +kernel) (by decide +kernel)
set_option maxRecDepth 20000 in
theorem gX9_shutIn_X5_areAllShut : GoodIn wsX9_shutIn (wsV RX9 155 RX5 yX5_areAllShut wsX5_areAllShut) := goodIn_app (goodIn_of _ (by decide +kernel)) ggX9_shutIn_X5_areAllShut
set_option maxRecDepth 20000 in
theorem ggX9_shutIn_X6_passHours : GoodIn wsX9_shutIn wsX6_passHours := goodIn_r _ [91, 9, 13, 11, 12, 20, 92, 93, 94, 7, 95, 21, 96, 97, 98, 27, 99, 29, 100, 101, 102, 103, 35, 104, 105, 106, 107, 108, 109, 110, 111, 112, 113, 114, 115, 116, 117, 118, 119, 37, 34, 36, 33, 120, 121, 122, 123, 124, 125, 126, 127, 14, 128, 129, 130, 131, 132, 133, 134, 135, 136, 137, 138, 139, 140, 141, 142, 143, 144, 145, 146, 147, 30, 148, 32, 149, 150, 151, 152, 71, 153, 74, 73, 154, 155, 156, 157, 75, 76, 158, 159, 160, 161, 162, 163, 164, 165, 166, 167, 168, 169, 77, 170, 171, 172, 50, 173, 52, 53, 174, 175, 176, 177, 78, 178, 179, 180, 58, 181, 62, 60, 63, 67, 65, 182, 183, 184, 185, 66, 61, 186, 187, 188, 189, 79, 190, 191, 192, 193, 194, 200, 201, 202, 203, 204, 205, 206, 207, 208, 209, 210, 211, 212, 213, 214, 215, 216, 217, 218, 231, 232, 233, 234, 235, 236, 237, 222, 223, 224, 225, 226, 227, 228, 229, 230] (by decide +kernel) (by decide +kernel)
set_option maxRecDepth 20000 in
theorem gX9_shutIn_X6_passHours : GoodIn wsX9_shutIn (wsV RX9 187 RX6 yX6_passHours wsX6_passHours) := goodIn_app (goodIn_of _ (by decide +kernel)) ggX9_shutIn_X6_passHours
set_option maxRecDepth 20000 in
theorem ggX9_tide_X9_isHourOfDay : GoodIn wsX9_tide wsX9_isHourOfDay := goodIn_r _ [7] (by decide +kernel) (by decide +kernel)
set_option maxRecDepth 20000 in
theorem gX9_tide_X9_isHourOfDay : GoodIn wsX9_tide (va_wsS RX9 138 yX9_isHourOfDay wsX9_isHourOfDay) := goodIn_app (goodIn_of _ (by decide +kernel)) ggX9_tide_X9_isHourOfDay
set_option maxRecDepth 20000 in
theorem ggX9_count_X5_moving : GoodIn wsX9_count wsX5_moving := goodIn_r _ [16, 17, 18, 19, 20, 15, 21, 22, 84, 85, 86, 87, 88, 89, 90, 91] (by decide +kernel) (by decide +kernel)
set_option maxRecDepth 20000 in
theorem gX9_count_X5_moving : GoodIn wsX9_count (wsV RX9 167 RX5 yX5_moving wsX5_moving) := goodIn_app (goodIn_of _ (by decide +kernel)) ggX9_count_X5_moving
set_option maxRecDepth 20000 in
theorem ggX9_count_X5_countIn : GoodIn wsX9_count wsX5_countIn := goodIn_r _ [26, 17, 22, 84, 85, 86, 87, 88, 89, 90, 91] (by decide +kernel) (by decide +kernel)
set_option maxRecDepth 20000 in
theorem gX9_count_X5_countIn : GoodIn wsX9_count (wsV RX9 164 RX5 yX5_countIn wsX5_countIn) := goodIn_app (goodIn_of _ (by decide +kernel)) ggX9_count_X5_countIn
set_option maxRecDepth 20000 in
theorem ggX9_count_X1_weightForClosing : GoodIn wsX9_count wsX1_weightForClosing := goodIn_r _ [31, 32, 33, 34, 92, 93, 94] (by decide +kernel) (by decide +kernel)
set_option maxRecDepth 20000 in
theorem gX9_count_X1_weightForClosing : GoodIn wsX9_count (wsV RX9 149 RX1 yX1_weightForClosing wsX1_weightForClosing) := goodIn_app (goodIn_of _ (by decide +kernel)) ggX9_count_X1_weightForClosing
set_option maxRecDepth 20000 in
theorem ggX9_count_X1_weightOfAll : GoodIn wsX9_count wsX1_weightOfAll := goodIn_r _ [38, 32, 34, 92, 93, 94] (by decide +kernel) (by decide +kernel)
set_option maxRecDepth 20000 in
theorem gX9_count_X1_weightOfAll : GoodIn wsX9_count (wsV RX9 285 RX1 yX1_weightOfAll wsX1_weightOfAll) := goodIn_app (goodIn_of _ (by decide +kernel)) ggX9_count_X1_weightOfAll
set_option maxRecDepth 20000 in
theorem ggX9_count_X9_size : GoodIn wsX9_count wsX9_size := goodIn_r _ [43, 1, 4, 44, 5, 45, 46, 47, 10, 48, 49, 50, 51, 52, 53, 54, 55, 56, 57, 58, 59, 60, 61, 62, 63, 64, 65, 66, 67, 68, 69, 84, 85, 86, 87, 88, 89, 90, 91, 92, 93, 94, 95, 96, 77, 78, 79, 80, 81, 82, 83, 97, 98, 99, 100, 101, 102, 103] (by decide +kernel) (by decide +kernel)
set_option maxRecDepth 20000 in
theorem gX9_count_X9_size : GoodIn wsX9_count (wsV RX9 294 RX9 yX9_size wsX9_size) := goodIn_app (goodIn_of _ (by decide +kernel)) ggX9_count_X9_size
