set_option maxRecDepth 20000 in
theorem ggX0_flowThrough_X0_take : GoodIn wsX0_flowThrough wsX0_take := goodIn_r _ [8, 1, 9, 10, 11, 12, 13, 14, 15, 16, 17, 18, 19] (by decide +kernel) (by decide +kernel)
set_option maxRecDepth 20000 in
theorem gX0_flowThrough_X0_take : GoodIn wsX0_flowThrough (wsV RX0 33 RX0 yX0_take wsX0_take) := goodIn_app (goodIn_of _ (by decide +kernel)) ggX0_flowThrough_X0_take
set_option maxRecDepth 20000 in
theorem ggX0_pumpOut_X0_take : GoodIn wsX0_pumpOut wsX0_take := goodIn_r _ [6, 7, 8, 9, 10, 11, 12, 13, 14, 15, 16, 17, 18] (by decide +kernel) (by decide +kernel)
set_option maxRecDepth 20000 in
theorem gX0_pumpOut_X0_take : GoodIn wsX0_pumpOut (wsV RX0 33 RX0 yX0_take wsX0_take) := goodIn_app (goodIn_of _ (by decide +kernel)) ggX0_pumpOut_X0_take
set_option maxRecDepth 20000 in
theorem ggX1_allowClosing_X1_weightForClosing : GoodIn wsX1_allowClosing wsX1_weightForClosing := goodIn_r _ [5, 6, 7, 8, 13, 14, 15] (by decide +kernel) (by decide +kernel)
set_option maxRecDepth 20000 in
theorem gX1_allowClosing_X1_weightForClosing : GoodIn wsX1_allowClosing (wsV RX1 27 RX1 yX1_weightForClosing wsX1_weightForClosing) := goodIn_app (goodIn_of _ (by decide +kernel)) ggX1_allowClosing_X1_weightForClosing
set_option maxRecDepth 20000 in
theorem ggX1_allowClosing_X1_weightOfAll : GoodIn wsX1_allowClosing wsX1_weightOfAll := goodIn_r _ [12, 6, 8, 13, 14, 15] (by decide +kernel) (by decide +kernel)
set_option maxRecDepth 20000 in
theorem gX1_allowClosing_X1_weightOfAll : GoodIn wsX1_allowClosing (wsV RX1 31 RX1 yX1_weightOfAll wsX1_weightOfAll) := goodIn_app (goodIn_of _ (by decide +kernel)) ggX1_allowClosing_X1_weightOfAll
set_option maxRecDepth 20000 in
theorem ggX2_record_J9_floorMod_7cf53 : GoodIn wsX2_record wsJ9_floorMod_7cf53 := goodIn_r _ [10] (by decide +kernel) (by decide +kernel)
set_option maxRecDepth 20000 in
theorem gX2_record_J9_floorMod_7cf53 : GoodIn wsX2_record (va_wsS RX2 22 yJ9_floorMod_7cf53 wsJ9_floorMod_7cf53) := goodIn_app (goodIn_of _ (by decide +kernel)) ggX2_record_J9_floorMod_7cf53
set_option maxRecDepth 20000 in
theorem ggX2_record_X6_init : GoodIn wsX2_record wsX6_init := goodIn_r _ [12, 13, 14, 15, 16, 17, 18, 19, 20, 21, 22, 23, 24, 25, 26, 27, 28, 29, 30, 31, 32, 33, 34, 35, 36, 37, 38, 39, 40, 41, 42, 43, 44, 45, 46, 47, 48, 49, 50, 51, 52, 53, 54, 55, 56, 57, 58, 59, 60, 61, 62, 63, 64, 65, 66, 67, 68, 69, 70, 71, 72, 73, 74, 75, 136, 137, 138, 139, 140, 141, 142, 143, 125, 126, 127, 128, 129, 130, 131, 132, 133, 134, 135, 144, 145, 146, 147, 148, 149, 150, 151, 152, 153, 154, 155, 156, 157, 158, 159, 160, 161, 162] (by decide +kernel) (by decide +kernel)
set_option maxRecDepth 20000 in
theorem gX2_record_X6_init_n28 : GoodIn wsX2_record (wsX6_init) := ggX2_record_X6_init
set_option maxRecDepth 20000 in
theorem ggX2_record_X6_copyFrom : GoodIn wsX2_record wsX6_copyFrom := goodIn_r _ [79, 19, 23, 27, 31, 35, 37, 80, 81, 82, 83, 39, 84, 40, 85, 86, 87, 88, 89, 18, 90, 91, 45, 92, 47, 48, 49, 50, 51, 52, 93, 94, 95, 22, 96, 97, 56, 98, 58, 99, 100, 101, 26, 102, 103, 62, 104, 105, 106, 107, 30, 108, 109, 66, 110, 67, 111, 68, 69, 70, 112, 113, 114, 34, 115, 75, 116, 117, 118, 119, 120, 121, 125, 126, 127, 128, 129, 130, 131, 132, 133, 134, 135, 136, 137, 138, 139, 140, 141, 142, 143, 144, 145, 146, 147, 148, 149, 150, 151, 152, 153, 154, 155, 156, 157, 158, 159, 160, 161, 162] (by decide +kernel) (by decide +kernel)
set_option maxRecDepth 20000 in
theorem gX2_record_X6_copyFrom : GoodIn wsX2_record (wsV RX2 29 RX6 yX6_copyFrom wsX6_copyFrom) := goodIn_app (goodIn_of _ (by decide +kernel)) ggX2_record_X6_copyFrom
set_option maxRecDepth 20000 in
theorem ggX2_takeLatest_J9_floorMod_7cf53 : GoodIn wsX2_takeLatest wsJ9_floorMod_7cf53 := goodIn_r _ [7] (by decide +kernel) (by decide +kernel)
set_option maxRecDepth 20000 in
theorem gX2_takeLatest_J9_floorMod_7cf53 : GoodIn wsX2_takeLatest (va_wsS RX2 22 yJ9_floorMod_7cf53 wsJ9_floorMod_7cf53) := goodIn_app (goodIn_of _ (by decide +kernel)) ggX2_takeLatest_J9_floorMod_7cf53
set_option maxRecDepth 20000 in
theorem ggX2_takeLatest_X6_copyFrom : GoodIn wsX2_takeLatest wsX6_copyFrom := goodIn_r _ [12, 13, 14, 15, 16, 17, 18, 19, 20, 21, 22, 23, 24, 25, 26, 27, 28, 29, 30, 31, 32, 33, 34, 35, 36, 37, 38, 39, 40, 41, 42, 43, 44, 45, 46, 47, 48, 49, 50, 51, 52, 53, 54, 55, 56, 57, 58, 59, 60, 61, 62, 63, 64, 65, 66, 67, 68, 69, 70, 71, 72, 73, 74, 75, 76, 77, 78, 79, 80, 81, 82, 83, 87, 88, 89, 90, 91, 92, 93, 94, 95, 96, 97, 98, 99, 100, 101, 102, 103, 104, 105, 106, 107, 108, 109, 110, 111, 112, 113, 114, 115, 116, 117, 118, 119, 120, 121, 122, 123, 124] (by decide +kernel) (by decide +kernel)
set_option maxRecDepth 20000 in
theorem gX2_takeLatest_X6_copyFrom : GoodIn wsX2_takeLatest (wsV RX2 29 RX6 yX6_copyFrom wsX6_copyFrom) := goodIn_app (goodIn_of _ (by decide +kernel)) ggX2_takeLatest_X6_copyFrom
set_option maxRecDepth 20000 in
theorem ggX3_ofBits_X3_sizeOf : GoodIn wsX3_ofBits wsX3_sizeOf := goodIn_r _ [5, 6, 7, 8, 9, 10, 11, 12] (by decide +kernel) (by decide +kernel)
set_option maxRecDepth 20000 in
theorem gX3_ofBits_X3_sizeOf : GoodIn wsX3_ofBits (va_wsS RX3 15 yX3_sizeOf wsX3_sizeOf) := goodIn_app (goodIn_of _ (by decide +kernel)) ggX3_ofBits_X3_sizeOf
set_option maxRecDepth 20000 in
theorem ggX4_wouldRun_X4_runsBeside : GoodIn wsX4_wouldRun wsX4_runsBeside := goodIn_r _ [7, 8, 2, 9, 10, 11, 12, 13, 14, 15, 16] (by decide +kernel) (by decide +kernel)
set_option maxRecDepth 20000 in
theorem gX4_wouldRun_X4_runsBeside : GoodIn wsX4_wouldRun (wsV RX4 39 RX4 yX4_runsBeside wsX4_runsBeside) := goodIn_app (goodIn_of _ (by decide +kernel)) ggX4_wouldRun_X4_runsBeside
set_option maxRecDepth 20000 in
theorem ggX4_run_X4_runsBeside : GoodIn wsX4_run wsX4_runsBeside := goodIn_r _ [10, 11, 3, 12, 28, 29, 30, 31, 32, 33, 34] (by decide +kernel) (by decide +kernel)
set_option maxRecDepth 20000 in
theorem gX4_run_X4_runsBeside : GoodIn wsX4_run (wsV RX4 39 RX4 yX4_runsBeside wsX4_runsBeside) := goodIn_app (goodIn_of _ (by decide +kernel)) ggX4_run_X4_runsBeside
set_option maxRecDepth 20000 in
theorem ggX4_run_X0_pumpOut : GoodIn wsX4_run wsX0_pumpOut := goodIn_r _ [17, 18, 19, 20, 21, 16, 22, 23, 24, 25, 26, 27, 35, 36, 37, 38, 39, 40, 41] (by decide +kernel) (by decide +kernel)
set_option maxRecDepth 20000 in
theorem gX4_run_X0_pumpOut : GoodIn wsX4_run (wsV RX4 43 RX0 yX0_pumpOut wsX0_pumpOut) := goodIn_app (goodIn_of _ (by decide +kernel)) ggX4_run_X0_pumpOut
set_option maxRecDepth 20000 in
theorem ggX5_moving_X5_isMoving : GoodIn wsX5_moving wsX5_isMoving := goodIn_r _ [6, 7, 8, 9, 10, 11, 12, 13, 14, 15] (by decide +kernel) (by decide +kernel)
set_option maxRecDepth 20000 in
theorem gX5_moving_X5_isMoving : GoodIn wsX5_moving (wsV RX5 44 RX5 yX5_isMoving wsX5_isMoving) := goodIn_app (goodIn_of _ (by decide +kernel)) ggX5_moving_X5_isMoving
set_option maxRecDepth 20000 in
theorem ggX5_highestClosed_X5_isClosed : GoodIn wsX5_highestClosed wsX5_isClosed := goodIn_r _ [6, 7, 8, 9, 10, 11, 12, 13, 14, 15] (by decide +kernel) (by decide +kernel)
set_option maxRecDepth 20000 in
theorem gX5_highestClosed_X5_isClosed : GoodIn wsX5_highestClosed (wsV RX5 48 RX5 yX5_isClosed wsX5_isClosed) := goodIn_app (goodIn_of _ (by decide +kernel)) ggX5_highestClosed_X5_isClosed
set_option maxRecDepth 20000 in
theorem ggX5_areAllShut_X5_countIn : GoodIn wsX5_areAllShut wsX5_countIn := goodIn_r _ [6, 1, 7, 8, 9, 10, 11, 12, 13, 14, 15] (by decide +kernel) (by decide +kernel)
set_option maxRecDepth 20000 in
theorem gX5_areAllShut_X5_countIn : GoodIn wsX5_areAllShut (wsV RX5 51 RX5 yX5_countIn wsX5_countIn) := goodIn_app (goodIn_of _ (by decide +kernel)) ggX5_areAllShut_X5_countIn
set_option maxRecDepth 20000 in
theorem ggX5_goOn_X5_moving : GoodIn wsX5_goOn wsX5_moving := goodIn_r _ [8, 9, 10, 11, 12, 7, 13, 2, 14, 15, 16, 17, 18, 19, 20, 21] (by decide +kernel) (by decide +kernel)
set_option maxRecDepth 20000 in
theorem gX5_goOn_X5_moving : GoodIn wsX5_goOn (wsV RX5 55 RX5 yX5_moving wsX5_moving) := goodIn_app (goodIn_of _ (by decide +kernel)) ggX5_goOn_X5_moving
set_option maxRecDepth 20000 in
theorem ggX5_letThrough_X0_inner : GoodIn wsX5_letThrough wsX0_inner := goodIn_r _ [10, 11, 12, 46, 47, 48, 49, 50, 51, 52] (by decide +kernel) (by decide +kernel)
set_option maxRecDepth 20000 in
theorem gX5_letThrough_X0_inner : GoodIn wsX5_letThrough (wsV RX5 59 RX0 yX0_inner wsX0_inner) := goodIn_app (goodIn_of _ (by decide +kernel)) ggX5_letThrough_X0_inner
set_option maxRecDepth 20000 in
theorem ggX5_letThrough_X5_isClosed : GoodIn wsX5_letThrough wsX5_isClosed := goodIn_r _ [17, 18, 38, 39, 40, 41, 42, 43, 44, 45] (by decide +kernel) (by decide +kernel)
set_option maxRecDepth 20000 in
theorem gX5_letThrough_X5_isClosed : GoodIn wsX5_letThrough (wsV RX5 48 RX5 yX5_isClosed wsX5_isClosed) := goodIn_app (goodIn_of _ (by decide +kernel)) ggX5_letThrough_X5_isClosed
set_option maxRecDepth 20000 in
theorem ggX5_letThrough_X0_flowThrough : GoodIn wsX5_letThrough wsX0_flowThrough := goodIn_r _ [22, 11, 23, 24, 25, 26, 27, 9, 28, 29, 30, 31, 32, 46, 47, 48, 49, 50, 51, 52] (by decide +kernel) (by decide +kernel)
set_option maxRecDepth 20000 in
theorem gX5_letThrough_X0_flowThrough : GoodIn wsX5_letThrough (wsV RX5 67 RX0 yX0_flowThrough wsX0_flowThrough) := goodIn_app (goodIn_of _ (by decide +kernel)) ggX5_letThrough_X0_flowThrough
set_option maxRecDepth 20000 in
theorem ggX5_letThrough_X0_flowOver : GoodIn wsX5_letThrough wsX0_flowOver := goodIn_r _ [36, 11, 37, 46, 47, 48, 49, 50, 51, 52] (by decide +kernel) (by decide +kernel)
set_option maxRecDepth 20000 in
theorem gX5_letThrough_X0_flowOver : GoodIn wsX5_letThrough (wsV RX5 73 RX0 yX0_flowOver wsX0_flowOver) := goodIn_app (goodIn_of _ (by decide +kernel)) ggX5_letThrough_X0_flowOver
set_option maxRecDepth 20000 in
theorem ggX6_init_X5_init : GoodIn wsX6_init wsX5_init := goodIn_r _ [30, 31, 2, 3, 32, 33, 34, 35, 36, 37, 38, 39, 40, 64, 65, 66, 67, 68, 69, 70, 71] (by decide +kernel) (by decide +kernel)
set_option maxRecDepth 20000 in
theorem gX6_init_X5_init_n11 : GoodIn wsX6_init (wsX5_init) := ggX6_init_X5_init
set_option maxRecDepth 20000 in
theorem ggX6_init_X1_init : GoodIn wsX6_init wsX1_init := goodIn_r _ [42, 43, 2, 3, 32, 44, 45, 46, 83, 84, 85] (by decide +kernel) (by decide +kernel)
set_option maxRecDepth 20000 in
theorem gX6_init_X1_init_n20 : GoodIn wsX6_init (wsX1_init) := ggX6_init_X1_init
set_option maxRecDepth 20000 in
theorem ggX6_init_X7_init : GoodIn wsX6_init wsX7_init := goodIn_r _ [48, 49, 2, 3, 32, 50, 86, 87] (by decide +kernel) (by decide +kernel)
set_option maxRecDepth 20000 in
theorem gX6_init_X7_init_n27 : GoodIn wsX6_init (wsX7_init) := ggX6_init_X7_init
set_option maxRecDepth 20000 in
theorem ggX6_init_X4_init : GoodIn wsX6_init wsX4_init := goodIn_r _ [52, 53, 2, 3, 54, 32, 55, 56, 45, 57, 58, 88, 89, 90, 91, 92, 93, 94] (by decide +kernel) (by decide +kernel)
set_option maxRecDepth 20000 in
theorem gX6_init_X4_init_n34 : GoodIn wsX6_init (wsX4_init) := ggX6_init_X4_init
set_option maxRecDepth 20000 in
theorem ggX6_init_X0_init : GoodIn wsX6_init wsX0_init := goodIn_r _ [60, 61, 2, 3, 62, 63, 95, 96, 97, 98, 99, 100, 101] (by decide +kernel) (by decide +kernel)
set_option maxRecDepth 20000 in
theorem gX6_init_X0_init_n41 : GoodIn wsX6_init (wsX0_init) := ggX6_init_X0_init
set_option maxRecDepth 20000 in
theorem ggX6_copyFrom_X5_copyFrom : GoodIn wsX6_copyFrom wsX5_copyFrom := goodIn_r _ [20, 21, 22, 23, 8, 9, 10, 24, 25, 26, 27, 28, 29, 83, 84, 85, 86, 87, 88, 89, 90] (by decide +kernel) (by decide +kernel)
set_option maxRecDepth 20000 in
theorem gX6_copyFrom_X5_copyFrom : GoodIn wsX6_copyFrom (wsV RX6 60 RX5 yX5_copyFrom wsX5_copyFrom) := goodIn_app (goodIn_of _ (by decide +kernel)) ggX6_copyFrom_X5_copyFrom
set_option maxRecDepth 20000 in
theorem ggX6_copyFrom_X1_copyFrom : GoodIn wsX6_copyFrom wsX1_copyFrom := goodIn_r _ [34, 35, 36, 37, 8, 9, 10, 38, 91, 92, 93] (by decide +kernel) (by decide +kernel)
set_option maxRecDepth 20000 in
theorem gX6_copyFrom_X1_copyFrom : GoodIn wsX6_copyFrom (wsV RX6 64 RX1 yX1_copyFrom wsX1_copyFrom) := goodIn_app (goodIn_of _ (by decide +kernel)) ggX6_copyFrom_X1_copyFrom
set_option maxRecDepth 20000 in
theorem ggX6_copyFrom_X7_copyFrom : GoodIn wsX6_copyFrom wsX7_copyFrom := goodIn_r _ [43, 44, 45, 46, 8, 9, 10, 94, 95] (by decide +kernel) (by decide +kernel)
set_option maxRecDepth 20000 in
theorem gX6_copyFrom_X7_copyFrom : GoodIn wsX6_copyFrom (wsV RX6 67 RX7 yX7_copyFrom wsX7_copyFrom) := goodIn_app (goodIn_of _ (by decide +kernel)) ggX6_copyFrom_X7_copyFrom
set_option maxRecDepth 20000 in
theorem ggX6_copyFrom_X4_copyFrom : GoodIn wsX6_copyFrom wsX4_copyFrom := goodIn_r _ [51, 52, 53, 54, 55, 56, 8, 9, 10, 57, 58, 59, 96, 97, 98, 99, 100, 101, 102] (by decide +kernel) (by decide +kernel)
set_option maxRecDepth 20000 in
theorem gX6_copyFrom_X4_copyFrom : GoodIn wsX6_copyFrom (wsV RX6 70 RX4 yX4_copyFrom wsX4_copyFrom) := goodIn_app (goodIn_of _ (by decide +kernel)) ggX6_copyFrom_X4_copyFrom
set_option maxRecDepth 20000 in
theorem ggX6_copyFrom_X0_copyFrom : GoodIn wsX6_copyFrom wsX0_copyFrom := goodIn_r _ [64, 65, 66, 67, 68, 69, 70, 71, 103, 104, 105, 106, 107, 108, 109] (by decide +kernel) (by decide +kernel)
set_option maxRecDepth 20000 in
theorem gX6_copyFrom_X0_copyFrom : GoodIn wsX6_copyFrom (wsV RX6 73 RX0 yX0_copyFrom wsX0_copyFrom) := goodIn_app (goodIn_of _ (by decide +kernel)) ggX6_copyFrom_X0_copyFrom
set_option maxRecDepth 20000 in
theorem ggX6_outer_J9_floorMod_7cf53 : GoodIn wsX6_outer wsJ9_floorMod_7cf53 := goodIn_r _ [6] (by decide +kernel) (by decide +kernel)
set_option maxRecDepth 20000 in
theorem gX6_outer_J9_floorMod_7cf53 : GoodIn wsX6_outer (va_wsS RX6 91 yJ9_floorMod_7cf53 wsJ9_floorMod_7cf53) := goodIn_app (goodIn_of _ (by decide +kernel)) ggX6_outer_J9_floorMod_7cf53
set_option maxRecDepth 20000 in
theorem ggX6_outer_X3_ofBits : GoodIn wsX6_outer wsX3_ofBits := goodIn_r _ [10, 11, 12, 13, 9, 14, 15, 16, 17, 18, 19, 20, 21] (by decide +kernel) (by decide +kernel)
set_option maxRecDepth 20000 in
theorem gX6_outer_X3_ofBits : GoodIn wsX6_outer (va_wsS RX6 97 yX3_ofBits wsX3_ofBits) := goodIn_app (goodIn_of _ (by decide +kernel)) ggX6_outer_X3_ofBits
set_option maxRecDepth 20000 in
theorem ggX6_beginClosing_X6_outer : GoodIn wsX6_beginClosing wsX6_outer := goodIn_r _ [9, 10, 11, 12, 13, 14, 15, 16, 17, 18, 19, 20, 21, 22, 23, 24, 25, 26, 27, 28, 29, 30, 31, 32, 33, 34, 35, 36, 37, 38, 39, 40, 41] (by decide +kernel) (by decide +kernel)
set_option maxRecDepth 20000 in
theorem gX6_beginClosing_X6_outer : GoodIn wsX6_beginClosing (wsV RX6 103 RX6 yX6_outer wsX6_outer) := goodIn_app (goodIn_of _ (by decide +kernel)) ggX6_beginClosing_X6_outer
set_option maxRecDepth 20000 in
theorem ggX6_beginClosing_X3_ofBits : GoodIn wsX6_beginClosing wsX3_ofBits := goodIn_r _ [19, 20, 21, 22, 18, 23, 24, 25, 26, 27, 28, 29, 30] (by decide +kernel) (by decide +kernel)
set_option maxRecDepth 20000 in
theorem gX6_beginClosing_X3_ofBits : GoodIn wsX6_beginClosing (va_wsS RX6 97 yX3_ofBits wsX3_ofBits) := goodIn_app (goodIn_of _ (by decide +kernel)) ggX6_beginClosing_X3_ofBits
set_option maxRecDepth 20000 in
theorem ggX6_passHours_X6_startNext : GoodIn wsX6_passHours wsX6_startNext := goodIn_r _ [10, 11, 1, 12, 13, 14, 15, 16, 17, 18, 19, 20, 21, 22, 23, 24, 25, 26, 27, 28, 29, 30, 31, 32, 33, 34, 35, 36, 37, 38, 39, 40, 41, 42, 43, 44, 45, 46, 142, 143, 144, 145, 146, 147, 148, 149, 150, 151, 152, 153, 154, 155, 156, 157, 158, 159, 160] (by decide +kernel) (by decide +kernel)
set_option maxRecDepth 20000 in
theorem gX6_passHours_X6_startNext : GoodIn wsX6_passHours (wsV RX6 107 RX6 yX6_startNext wsX6_startNext) := goodIn_app (goodIn_of _ (by decide +kernel)) ggX6_passHours_X6_startNext
set_option maxRecDepth 20000 in
theorem ggX6_passHours_X6_outer : GoodIn wsX6_passHours wsX6_outer := goodIn_r _ [50, 51, 5, 52, 53, 54, 55, 56, 57, 58, 59, 60, 61, 62, 63, 64, 65, 66, 67, 68, 69, 70, 142, 143, 144, 145, 146, 147, 148, 149, 150, 151, 152] (by decide +kernel) (by decide +kernel)
set_option maxRecDepth 20000 in
theorem gX6_passHours_X6_outer : GoodIn wsX6_passHours (wsV RX6 103 RX6 yX6_outer wsX6_outer) := goodIn_app (goodIn_of _ (by decide +kernel)) ggX6_passHours_X6_outer
set_option maxRecDepth 20000 in
theorem ggX6_passHours_X5_letThrough : GoodIn wsX6_passHours wsX5_letThrough := goodIn_r _ [74, 17, 75, 76, 77, 78, 79, 80, 81, 82, 83, 84, 85, 31, 32, 33, 15, 34, 22, 86, 87, 88, 89, 90, 91, 92, 93, 94, 95, 96, 97, 68, 98, 99, 100, 101, 102, 103, 153, 154, 155, 156, 157, 158, 159, 160, 161, 162, 163, 164, 165, 166, 167] (by decide +kernel) (by decide +kernel)
set_option maxRecDepth 20000 in
theorem gX6_passHours_X5_letThrough : GoodIn wsX6_passHours (wsV RX6 111 RX5 yX5_letThrough wsX5_letThrough) := goodIn_app (goodIn_of _ (by decide +kernel)) ggX6_passHours_X5_letThrough
set_option maxRecDepth 20000 in
theorem ggX6_passHours_X7_bringTo : GoodIn wsX6_passHours wsX7_bringTo := goodIn_r _ [108, 109, 110, 111, 112, 113, 82, 114, 84, 115, 168, 169, 161, 162, 163, 164, 165, 166, 167] (by decide +kernel) (by decide +kernel)
set_option maxRecDepth 20000 in
theorem gX6_passHours_X7_bringTo : GoodIn wsX6_passHours (wsV RX6 115 RX7 yX7_bringTo wsX7_bringTo) := goodIn_app (goodIn_of _ (by decide +kernel)) ggX6_passHours_X7_bringTo
set_option maxRecDepth 20000 in
theorem ggX6_passHours_X4_run : GoodIn wsX6_passHours wsX4_run := goodIn_r _ [120, 121, 122, 123, 124, 125, 126, 127, 128, 119, 129, 130, 131, 132, 133, 134, 82, 135, 136, 92, 93, 94, 95, 84, 96, 97, 68, 98, 170, 171, 172, 173, 174, 175, 176, 161, 162, 163, 164, 165, 166, 167] (by decide +kernel) (by decide +kernel)
set_option maxRecDepth 20000 in
theorem gX6_passHours_X4_run : GoodIn wsX6_passHours (wsV RX6 118 RX4 yX4_run wsX4_run) := goodIn_app (goodIn_of _ (by decide +kernel)) ggX6_passHours_X4_run
set_option maxRecDepth 20000 in
theorem ggX6_passHours_X5_goOn : GoodIn wsX6_passHours wsX5_goOn := goodIn_r _ [140, 41, 22, 39, 141, 13, 14, 15, 16, 17, 18, 19, 20, 21, 153, 154, 155, 156, 157, 158, 159, 160] (by decide +kernel) (by decide +kernel)
set_option maxRecDepth 20000 in
theorem gX6_passHours_X5_goOn : GoodIn wsX6_passHours (wsV RX6 121 RX5 yX5_goOn wsX5_goOn) := goodIn_app (goodIn_of _ (by decide +kernel)) ggX6_passHours_X5_goOn
set_option maxRecDepth 20000 in
theorem ggX6_startNext_X5_moving : GoodIn wsX6_startNext wsX5_moving := goodIn_r _ [7, 8, 9, 10, 11, 6, 12, 13, 49, 50, 51, 52, 53, 54, 55, 56] (by decide +kernel) (by decide +kernel)
set_option maxRecDepth 20000 in
theorem gX6_startNext_X5_moving : GoodIn wsX6_startNext (wsV RX6 124 RX5 yX5_moving wsX5_moving) := goodIn_app (goodIn_of _ (by decide +kernel)) ggX6_startNext_X5_moving
set_option maxRecDepth 20000 in
theorem ggX6_startNext_X5_lowestOpen : GoodIn wsX6_startNext wsX5_lowestOpen := goodIn_r _ [17, 8, 13, 49, 50, 51, 52, 53, 54, 55, 56] (by decide +kernel) (by decide +kernel)
set_option maxRecDepth 20000 in
theorem gX6_startNext_X5_lowestOpen : GoodIn wsX6_startNext (wsV RX6 128 RX5 yX5_lowestOpen wsX5_lowestOpen) := goodIn_app (goodIn_of _ (by decide +kernel)) ggX6_startNext_X5_lowestOpen
set_option maxRecDepth 20000 in
theorem ggX6_startNext_X5_highestClosed : GoodIn wsX6_startNext wsX5_highestClosed := goodIn_r _ [21, 8, 22, 23, 24, 6, 25, 13, 49, 50, 51, 52, 53, 54, 55, 56] (by decide +kernel) (by decide +kernel)
set_option maxRecDepth 20000 in
theorem gX6_startNext_X5_highestClosed : GoodIn wsX6_startNext (wsV RX6 131 RX5 yX5_highestClosed wsX5_highestClosed) := goodIn_app (goodIn_of _ (by decide +kernel)) ggX6_startNext_X5_highestClosed
set_option maxRecDepth 20000 in
theorem ggX6_startNext_X5_startClosing : GoodIn wsX6_startNext wsX5_startClosing := goodIn_r _ [29, 30, 31, 13, 32, 33, 49, 50, 51, 52, 53, 54, 55, 56] (by decide +kernel) (by decide +kernel)
set_option maxRecDepth 20000 in
theorem gX6_startNext_X5_startClosing : GoodIn wsX6_startNext (wsV RX6 134 RX5 yX5_startClosing wsX5_startClosing) := goodIn_app (goodIn_of _ (by decide +kernel)) ggX6_startNext_X5_startClosing
set_option maxRecDepth 20000 in
theorem ggX6_startNext_X5_startOpening : GoodIn wsX6_startNext wsX5_startOpening := goodIn_r _ [37, 13, 32, 33, 49, 50, 51, 52, 53, 54, 55, 56] (by decide +kernel) (by decide +kernel)
set_option maxRecDepth 20000 in
theorem gX6_startNext_X5_startOpening : GoodIn wsX6_startNext (wsV RX6 138 RX5 yX5_startOpening wsX5_startOpening) := goodIn_app (goodIn_of _ (by decide +kernel)) ggX6_startNext_X5_startOpening
set_option maxRecDepth 20000 in
theorem ggX7_bringTo_X0_bring : GoodIn wsX7_bringTo wsX0_bring := goodIn_r _ [7, 8, 9, 12, 13, 14, 15, 16, 17, 18] (by decide +kernel) (by decide +kernel)
set_option maxRecDepth 20000 in
theorem gX7_bringTo_X0_bring : GoodIn wsX7_bringTo (wsV RX7 23 RX0 yX0_bring wsX0_bring) := goodIn_app (goodIn_of _ (by decide +kernel)) ggX7_bringTo_X0_bring
set_option maxRecDepth 20000 in
theorem ggX8_fault_X8_placeBehind : GoodIn wsX8_fault wsX8_placeBehind := goodIn_r _ [6, 7, 8, 5, 9] (by decide +kernel) (by decide +kernel)
set_option maxRecDepth 20000 in
theorem gX8_fault_X8_placeBehind : GoodIn wsX8_fault (va_wsS RX8 23 yX8_placeBehind wsX8_placeBehind) := goodIn_app (goodIn_of _ (by decide +kernel)) ggX8_fault_X8_placeBehind
set_option maxRecDepth 20000 in
theorem ggX8_placeBehind_X8_isDigit : GoodIn wsX8_placeBehind wsX8_isDigit := goodIn_r _ [4] (by decide +kernel) (by decide +kernel)
set_option maxRecDepth 20000 in
theorem gX8_placeBehind_X8_isDigit : GoodIn wsX8_placeBehind (va_wsS RX8 27 yX8_isDigit wsX8_isDigit) := goodIn_app (goodIn_of _ (by decide +kernel)) ggX8_placeBehind_X8_isDigit
set_option maxRecDepth 20000 in
theorem ggX8_readTenths_X8_isDigit : GoodIn wsX8_readTenths wsX8_isDigit := goodIn_r _ [7] (by decide +kernel) (by decide +kernel)
set_option maxRecDepth 20000 in
theorem gX8_readTenths_X8_isDigit : GoodIn wsX8_readTenths (va_wsS RX8 27 yX8_isDigit wsX8_isDigit) := goodIn_app (goodIn_of _ (by decide +kernel)) ggX8_readTenths_X8_isDigit
set_option maxRecDepth 20000 in
theorem ggX8_readTenths_X8_addLevel : GoodIn wsX8_readTenths wsX8_addLevel := goodIn_r _ [11, 1, 12, 13, 14, 15, 16] (by decide +kernel) (by decide +kernel)
set_option maxRecDepth 20000 in
theorem gX8_readTenths_X8_addLevel : GoodIn wsX8_readTenths (wsV RX8 34 RX8 yX8_addLevel wsX8_addLevel) := goodIn_app (goodIn_of _ (by decide +kernel)) ggX8_readTenths_X8_addLevel
set_option maxRecDepth 20000 in
theorem ggX9_init_X6_init : GoodIn wsX9_init wsX6_init := goodIn_r _ [18, 19, 2, 3, 20, 21, 22, 23, 24, 25, 26, 27, 28, 29, 30, 31, 32, 33, 34, 35, 36, 37, 38, 39, 40, 41, 42, 43, 44, 45, 46, 47, 48, 49, 50, 51, 52, 53, 54, 55, 56, 57, 58, 59, 60, 61, 62, 63, 64, 65, 66, 67, 68, 69, 70, 71, 72, 73, 74, 75, 76, 77, 78, 79, 114, 115, 116, 117, 118, 119, 120, 121, 91, 92, 93, 94, 95, 96, 97, 98, 99, 100, 101, 122, 123, 124, 125, 126, 127, 128, 129, 130, 131, 132, 133, 134, 135, 136, 137, 138, 139, 140] (by decide +kernel) (by decide +kernel)
set_option maxRecDepth 20000 in
theorem gX9_init_X6_init_n9 : GoodIn wsX9_init (wsX6_init) := ggX9_init_X6_init
set_option maxRecDepth 20000 in
theorem ggX9_init_X2_init : GoodIn wsX9_init wsX2_init := goodIn_r _ [81, 82, 2, 3, 83, 84, 107, 108, 109] (by decide +kernel) (by decide +kernel)
set_option maxRecDepth 20000 in
theorem gX9_init_X2_init_n21 : GoodIn wsX9_init (wsX2_init) := ggX9_init_X2_init
set_option maxRecDepth 20000 in
theorem ggX9_init_X8_init : GoodIn wsX9_init wsX8_init := goodIn_r _ [86, 87, 2, 3, 88, 89, 48, 90, 110, 111, 112, 113] (by decide +kernel) (by decide +kernel)
set_option maxRecDepth 20000 in
theorem gX9_init_X8_init_n28 : GoodIn wsX9_init (wsX8_init) := ggX9_init_X8_init
set_option maxRecDepth 20000 in
theorem ggX9_addSection_X9_isOutside : GoodIn wsX9_addSection wsX9_isOutside := goodIn_r _ [7] (by decide +kernel) (by decide +kernel)
set_option maxRecDepth 20000 in
theorem gX9_addSection_X9_isOutside : GoodIn wsX9_addSection (va_wsS RX9 33 yX9_isOutside wsX9_isOutside) := goodIn_app (goodIn_of _ (by decide +kernel)) ggX9_addSection_X9_isOutside
set_option maxRecDepth 20000 in
theorem ggX9_addSection_X3_isCrest : GoodIn wsX9_addSection wsX3_isCrest := goodIn_r _ [11, 12] (by decide +kernel) (by decide +kernel)
set_option maxRecDepth 20000 in
theorem gX9_addSection_X3_isCrest : GoodIn wsX9_addSection (va_wsS RX9 37 yX3_isCrest wsX3_isCrest) := goodIn_app (goodIn_of _ (by decide +kernel)) ggX9_addSection_X3_isCrest
set_option maxRecDepth 20000 in
theorem ggX9_addSection_X5_isFull : GoodIn wsX9_addSection wsX5_isFull := goodIn_r _ [17, 18, 177, 178, 179, 180, 181, 182, 183, 184] (by decide +kernel) (by decide +kernel)
set_option maxRecDepth 20000 in
theorem gX9_addSection_X5_isFull : GoodIn wsX9_addSection (wsV RX9 47 RX5 yX5_isFull wsX5_isFull) := goodIn_app (goodIn_of _ (by decide +kernel)) ggX9_addSection_X5_isFull
set_option maxRecDepth 20000 in
theorem ggX9_addSection_X2_record : GoodIn wsX9_addSection wsX2_record := goodIn_r _ [23, 24, 25, 26, 27, 28, 29, 30, 31, 32, 33, 34, 35, 36, 37, 38, 39, 40, 16, 41, 42, 43, 44, 45, 46, 47, 48, 49, 50, 51, 52, 53, 54, 55, 56, 57, 58, 59, 60, 61, 62, 63, 64, 65, 66, 67, 68, 69, 70, 71, 72, 73, 74, 75, 76, 77, 78, 79, 80, 81, 82, 83, 84, 85, 86, 87, 88, 89, 90, 91, 92, 93, 94, 95, 96, 97, 98, 99, 100, 101, 102, 103, 104, 105, 106, 107, 108, 109, 110, 111, 112, 18, 113, 114, 115, 116, 117, 118, 119, 120, 121, 122, 123, 124, 125, 126, 127, 128, 129, 130, 131, 132, 133, 134, 135, 136, 137, 138, 139, 140, 141, 142, 185, 186, 187, 166, 167, 168, 169, 170, 171, 172, 173, 174, 175, 176, 177, 178, 179, 180, 181, 182, 183, 184, 188, 189, 190, 191, 192, 193, 194, 195, 196, 197, 198, 199, 200, 201, 202, 203, 204, 205, 206] (by decide +kernel) (by decide +kernel)
set_option maxRecDepth 20000 in
theorem gX9_addSection_X2_record : GoodIn wsX9_addSection (wsV RX9 53 RX2 yX2_record wsX2_record) := goodIn_app (goodIn_of _ (by decide +kernel)) ggX9_addSection_X2_record
set_option maxRecDepth 20000 in
theorem ggX9_addSection_X3_ofBits : GoodIn wsX9_addSection wsX3_ofBits := goodIn_r _ [145, 146, 147, 148, 10, 149, 150, 151, 152, 153, 154, 155, 156] (by decide +kernel) (by decide +kernel)
set_option maxRecDepth 20000 in
theorem gX9_addSection_X3_ofBits : GoodIn wsX9_addSection (va_wsS RX9 57 yX3_ofBits wsX3_ofBits) := goodIn_app (goodIn_of _ (by decide +kernel)) ggX9_addSection_X3_ofBits
set_option maxRecDepth 20000 in
theorem ggX9_addSection_X5_add : GoodIn wsX9_addSection wsX5_add := goodIn_r _ [160, 18, 67, 69, 70, 71, 72, 73, 74, 177, 178, 179, 180, 181, 182, 183, 184] (by decide +kernel) (by decide +kernel)
set_option maxRecDepth 20000 in
theorem gX9_addSection_X5_add : GoodIn wsX9_addSection (wsV RX9 61 RX5 yX5_add wsX5_add) := goodIn_app (goodIn_of _ (by decide +kernel)) ggX9_addSection_X5_add
set_option maxRecDepth 20000 in
theorem ggX9_addDistrict_X9_isOutside : GoodIn wsX9_addDistrict wsX9_isOutside := goodIn_r _ [7] (by decide +kernel) (by decide +kernel)
set_option maxRecDepth 20000 in
theorem gX9_addDistrict_X9_isOutside : GoodIn wsX9_addDistrict (va_wsS RX9 33 yX9_isOutside wsX9_isOutside) := goodIn_app (goodIn_of _ (by decide +kernel)) ggX9_addDistrict_X9_isOutside
set_option maxRecDepth 20000 in
theorem ggX9_addDistrict_X1_isFull : GoodIn wsX9_addDistrict wsX1_isFull := goodIn_r _ [12, 13, 158, 159, 160] (by decide +kernel) (by decide +kernel)
set_option maxRecDepth 20000 in
theorem gX9_addDistrict_X1_isFull : GoodIn wsX9_addDistrict (wsV RX9 69 RX1 yX1_isFull wsX1_isFull) := goodIn_app (goodIn_of _ (by decide +kernel)) ggX9_addDistrict_X1_isFull
set_option maxRecDepth 20000 in
theorem ggX9_addDistrict_X2_record : GoodIn wsX9_addDistrict wsX2_record := goodIn_r _ [18, 19, 20, 21, 22, 23, 24, 25, 26, 27, 28, 29, 30, 31, 32, 33, 34, 35, 36, 37, 38, 39, 11, 40, 41, 42, 43, 44, 45, 46, 47, 48, 49, 50, 51, 52, 53, 54, 55, 56, 57, 58, 59, 60, 61, 62, 63, 64, 65, 66, 67, 68, 69, 70, 71, 72, 73, 74, 75, 76, 77, 78, 79, 80, 81, 82, 83, 84, 85, 86, 87, 88, 89, 90, 91, 92, 93, 94, 95, 96, 97, 98, 99, 100, 101, 102, 103, 104, 105, 106, 107, 108, 109, 110, 111, 112, 113, 13, 114, 115, 116, 117, 118, 119, 120, 121, 122, 123, 124, 125, 126, 127, 128, 129, 130, 131, 132, 133, 134, 135, 136, 137, 161, 162, 163, 147, 148, 149, 150, 151, 152, 153, 154, 155, 156, 157, 164, 165, 166, 167, 168, 169, 170, 171, 158, 159, 160, 172, 173, 174, 175, 176, 177, 178, 179, 180, 181, 182, 183, 184, 185, 186, 187] (by decide +kernel) (by decide +kernel)
set_option maxRecDepth 20000 in
theorem gX9_addDistrict_X2_record : GoodIn wsX9_addDistrict (wsV RX9 53 RX2 yX2_record wsX2_record) := goodIn_app (goodIn_of _ (by decide +kernel)) ggX9_addDistrict_X2_record
set_option maxRecDepth 20000 in
theorem ggX9_addDistrict_X1_add : GoodIn wsX9_addDistrict wsX1_add := goodIn_r _ [141, 13, 73, 75, 158, 159, 160] (by decide +kernel) (by decide +kernel)
set_option maxRecDepth 20000 in
theorem gX9_addDistrict_X1_add : GoodIn wsX9_addDistrict (wsV RX9 72 RX1 yX1_add wsX1_add) := goodIn_app (goodIn_of _ (by decide +kernel)) ggX9_addDistrict_X1_add
set_option maxRecDepth 20000 in
theorem ggX9_addStream_X9_isOutside : GoodIn wsX9_addStream wsX9_isOutside := goodIn_r _ [8] (by decide +kernel) (by decide +kernel)
set_option maxRecDepth 20000 in
theorem gX9_addStream_X9_isOutside : GoodIn wsX9_addStream (va_wsS RX9 33 yX9_isOutside wsX9_isOutside) := goodIn_app (goodIn_of _ (by decide +kernel)) ggX9_addStream_X9_isOutside
set_option maxRecDepth 20000 in
theorem ggX9_addStream_X7_isFull : GoodIn wsX9_addStream wsX7_isFull := goodIn_r _ [13, 14, 159, 160] (by decide +kernel) (by decide +kernel)
set_option maxRecDepth 20000 in
theorem gX9_addStream_X7_isFull : GoodIn wsX9_addStream (wsV RX9 80 RX7 yX7_isFull wsX7_isFull) := goodIn_app (goodIn_of _ (by decide +kernel)) ggX9_addStream_X7_isFull
set_option maxRecDepth 20000 in
theorem ggX9_addStream_X2_record : GoodIn wsX9_addStream wsX2_record := goodIn_r _ [19, 20, 21, 22, 23, 24, 25, 26, 27, 28, 29, 30, 31, 32, 33, 34, 35, 36, 37, 38, 39, 40, 41, 42, 43, 44, 12, 45, 46, 47, 48, 49, 50, 51, 52, 53, 54, 55, 56, 57, 58, 59, 60, 61, 62, 63, 64, 65, 66, 67, 68, 69, 70, 71, 72, 73, 74, 75, 76, 77, 78, 79, 80, 81, 82, 83, 84, 85, 86, 87, 88, 89, 90, 91, 92, 93, 94, 95, 96, 97, 98, 99, 100, 101, 102, 103, 104, 105, 106, 107, 108, 109, 110, 111, 112, 113, 114, 115, 116, 117, 118, 119, 120, 14, 121, 122, 123, 124, 125, 126, 127, 128, 129, 130, 131, 132, 133, 134, 135, 136, 137, 138, 161, 162, 163, 148, 149, 150, 151, 152, 153, 154, 155, 156, 157, 158, 164, 165, 166, 167, 168, 169, 170, 171, 172, 173, 174, 159, 160, 175, 176, 177, 178, 179, 180, 181, 182, 183, 184, 185, 186, 187, 188] (by decide +kernel) (by decide +kernel)
set_option maxRecDepth 20000 in
theorem gX9_addStream_X2_record : GoodIn wsX9_addStream (wsV RX9 53 RX2 yX2_record wsX2_record) := goodIn_app (goodIn_of _ (by decide +kernel)) ggX9_addStream_X2_record
set_option maxRecDepth 20000 in
theorem ggX9_addStream_X7_add : GoodIn wsX9_addStream wsX7_add := goodIn_r _ [142, 14, 80, 159, 160] (by decide +kernel) (by decide +kernel)
set_option maxRecDepth 20000 in
theorem gX9_addStream_X7_add : GoodIn wsX9_addStream (wsV RX9 83 RX7 yX7_add wsX7_add) := goodIn_app (goodIn_of _ (by decide +kernel)) ggX9_addStream_X7_add
set_option maxRecDepth 20000 in
theorem ggX9_addPump_X9_isOutside : GoodIn wsX9_addPump wsX9_isOutside := goodIn_r _ [8] (by decide +kernel) (by decide +kernel)
set_option maxRecDepth 20000 in
theorem gX9_addPump_X9_isOutside : GoodIn wsX9_addPump (va_wsS RX9 33 yX9_isOutside wsX9_isOutside) := goodIn_app (goodIn_of _ (by decide +kernel)) ggX9_addPump_X9_isOutside
set_option maxRecDepth 20000 in
theorem ggX9_addPump_X4_isFull : GoodIn wsX9_addPump wsX4_isFull := goodIn_r _ [13, 14, 159, 160, 161, 162, 163, 164, 165] (by decide +kernel) (by decide +kernel)
set_option maxRecDepth 20000 in
theorem gX9_addPump_X4_isFull : GoodIn wsX9_addPump (wsV RX9 88 RX4 yX4_isFull wsX4_isFull) := goodIn_app (goodIn_of _ (by decide +kernel)) ggX9_addPump_X4_isFull
set_option maxRecDepth 20000 in
theorem ggX9_addPump_X2_record : GoodIn wsX9_addPump wsX2_record := goodIn_r _ [19, 20, 21, 22, 23, 24, 25, 26, 27, 28, 29, 30, 31, 32, 33, 34, 35, 36, 37, 38, 39, 40, 41, 42, 43, 44, 45, 46, 47, 48, 12, 49, 50, 51, 52, 53, 54, 55, 56, 57, 58, 59, 60, 61, 62, 63, 64, 65, 66, 67, 68, 69, 70, 71, 72, 73, 74, 75, 76, 77, 78, 79, 80, 81, 82, 83, 84, 85, 86, 87, 88, 89, 90, 91, 92, 93, 94, 95, 96, 97, 98, 99, 100, 101, 102, 103, 104, 105, 106, 107, 108, 109, 110, 111, 112, 113, 114, 115, 116, 117, 118, 119, 120, 121, 122, 123, 124, 125, 126, 14, 127, 128, 129, 130, 131, 132, 133, 134, 135, 136, 137, 138, 166, 167, 168, 148, 149, 150, 151, 152, 153, 154, 155, 156, 157, 158, 169, 170, 171, 172, 173, 174, 175, 176, 177, 178, 179, 180, 181, 159, 160, 161, 162, 163, 164, 165, 182, 183, 184, 185, 186, 187, 188] (by decide +kernel) (by decide +kernel)
set_option maxRecDepth 20000 in
theorem gX9_addPump_X2_record : GoodIn wsX9_addPump (wsV RX9 53 RX2 yX2_record wsX2_record) := goodIn_app (goodIn_of _ (by decide +kernel)) ggX9_addPump_X2_record
set_option maxRecDepth 20000 in
theorem ggX9_addPump_X4_add : GoodIn wsX9_addPump wsX4_add := goodIn_r _ [142, 14, 85, 86, 87, 88, 159, 160, 161, 162, 163, 164, 165] (by decide +kernel) (by decide +kernel)
set_option maxRecDepth 20000 in
theorem gX9_addPump_X4_add : GoodIn wsX9_addPump (wsV RX9 91 RX4 yX4_add wsX4_add) := goodIn_app (goodIn_of _ (by decide +kernel)) ggX9_addPump_X4_add
set_option maxRecDepth 20000 in
theorem ggX9_setStream_X7_has : GoodIn wsX9_setStream wsX7_has := goodIn_r _ [10, 11, 156, 157] (by decide +kernel) (by decide +kernel)
set_option maxRecDepth 20000 in
theorem gX9_setStream_X7_has : GoodIn wsX9_setStream (wsV RX9 94 RX7 yX7_has wsX7_has) := goodIn_app (goodIn_of _ (by decide +kernel)) ggX9_setStream_X7_has
set_option maxRecDepth 20000 in
theorem ggX9_setStream_X9_isOutside : GoodIn wsX9_setStream wsX9_isOutside := goodIn_r _ [15] (by decide +kernel) (by decide +kernel)
set_option maxRecDepth 20000 in
theorem gX9_setStream_X9_isOutside : GoodIn wsX9_setStream (va_wsS RX9 33 yX9_isOutside wsX9_isOutside) := goodIn_app (goodIn_of _ (by decide +kernel)) ggX9_setStream_X9_isOutside
set_option maxRecDepth 20000 in
theorem ggX9_setStream_X2_record : GoodIn wsX9_setStream wsX2_record := goodIn_r _ [20, 21, 22, 23, 24, 25, 26, 27, 28, 29, 30, 31, 32, 33, 34, 35, 36, 37, 38, 39, 40, 41, 42, 43, 44, 45, 9, 46, 47, 48, 49, 50, 51, 52, 53, 54, 55, 56, 57, 58, 59, 60, 61, 62, 63, 64, 65, 66, 67, 68, 69, 70, 71, 72, 73, 74, 75, 76, 77, 78, 79, 80, 81, 82, 83, 84, 85, 86, 87, 88, 89, 90, 91, 92, 93, 94, 95, 96, 97, 98, 99, 100, 101, 102, 103, 104, 105, 106, 107, 108, 109, 110, 111, 112, 113, 114, 115, 116, 117, 118, 119, 120, 121, 11, 122, 123, 124, 125, 126, 127, 128, 129, 130, 131, 132, 133, 134, 135, 136, 137, 138, 139, 158, 159, 160, 145, 146, 147, 148, 149, 150, 151, 152, 153, 154, 155, 161, 162, 163, 164, 165, 166, 167, 168, 169, 170, 171, 156, 157, 172, 173, 174, 175, 176, 177, 178, 179, 180, 181, 182, 183, 184, 185] (by decide +kernel) (by decide +kernel)
set_option maxRecDepth 20000 in
theorem gX9_setStream_X2_record : GoodIn wsX9_setStream (wsV RX9 53 RX2 yX2_record wsX2_record) := goodIn_app (goodIn_of _ (by decide +kernel)) ggX9_setStream_X2_record
set_option maxRecDepth 20000 in
theorem ggX9_switchPump_X4_has : GoodIn wsX9_switchPump wsX4_has := goodIn_r _ [9, 10, 155, 156, 157, 158, 159, 160, 161] (by decide +kernel) (by decide +kernel)
set_option maxRecDepth 20000 in
theorem gX9_switchPump_X4_has : GoodIn wsX9_switchPump (wsV RX9 102 RX4 yX4_has wsX4_has) := goodIn_app (goodIn_of _ (by decide +kernel)) ggX9_switchPump_X4_has
set_option maxRecDepth 20000 in
theorem ggX9_switchPump_X2_record : GoodIn wsX9_switchPump wsX2_record := goodIn_r _ [15, 16, 17, 18, 19, 20, 21, 22, 23, 24, 25, 26, 27, 28, 29, 30, 31, 32, 33, 34, 35, 36, 37, 38, 39, 40, 41, 42, 43, 44, 8, 45, 46, 47, 48, 49, 50, 51, 52, 53, 54, 55, 56, 57, 58, 59, 60, 61, 62, 63, 64, 65, 66, 67, 68, 69, 70, 71, 72, 73, 74, 75, 76, 77, 78, 79, 80, 81, 82, 83, 84, 85, 86, 87, 88, 89, 90, 91, 92, 93, 94, 95, 96, 97, 98, 99, 100, 101, 102, 103, 104, 105, 106, 107, 108, 109, 110, 111, 112, 113, 114, 115, 116, 117, 118, 119, 120, 121, 122, 10, 123, 124, 125, 126, 127, 128, 129, 130, 131, 132, 133, 134, 162, 163, 164, 144, 145, 146, 147, 148, 149, 150, 151, 152, 153, 154, 165, 166, 167, 168, 169, 170, 171, 172, 173, 174, 175, 176, 177, 155, 156, 157, 158, 159, 160, 161, 178, 179, 180, 181, 182, 183, 184] (by decide +kernel) (by decide +kernel)
set_option maxRecDepth 20000 in
theorem gX9_switchPump_X2_record : GoodIn wsX9_switchPump (wsV RX9 53 RX2 yX2_record wsX2_record) := goodIn_app (goodIn_of _ (by decide +kernel)) ggX9_switchPump_X2_record
set_option maxRecDepth 20000 in
theorem ggX9_switchPump_X4_countOn : GoodIn wsX9_switchPump wsX4_countOn := goodIn_r _ [138, 10, 83, 155, 156, 157, 158, 159, 160, 161] (by decide +kernel) (by decide +kernel)
set_option maxRecDepth 20000 in
theorem gX9_switchPump_X4_countOn : GoodIn wsX9_switchPump (wsV RX9 107 RX4 yX4_countOn wsX4_countOn) := goodIn_app (goodIn_of _ (by decide +kernel)) ggX9_switchPump_X4_countOn
set_option maxRecDepth 20000 in
theorem ggX9_set_X9_setArea : GoodIn wsX9_set wsX9_setArea := goodIn_r _ [5, 6, 7, 8, 9, 10, 11, 12, 4, 13, 14, 15, 16, 17, 18, 19, 20, 21, 22, 23, 24, 25, 26, 27, 28, 29, 30, 31, 32, 33, 34, 35, 36, 37, 38, 39, 40, 41, 42, 43, 44, 45, 46, 47, 48, 49, 50, 51, 52, 53, 54, 55, 56, 57, 58, 59, 60, 61, 62, 63, 64, 65, 66, 67, 68, 69, 70, 71, 72, 73, 74, 75, 76, 77, 78, 79, 80, 81, 82, 83, 84, 85, 86, 87, 88, 89, 90, 91, 92, 93, 94, 95, 96, 97, 98, 99, 100, 101, 102, 103, 104, 105, 106, 107, 108, 109, 110, 111, 112, 113, 114, 115, 116, 117, 118, 119, 120, 121, 122, 123, 124, 125, 126, 127, 128, 129, 130, 131, 132, 133, 134, 135, 136, 137, 138, 139, 146, 147, 148, 149, 150, 151, 152, 153, 154, 155, 156, 157, 158, 159, 160, 161, 162, 163, 164, 165, 166, 167, 168, 169, 170, 171, 172, 173, 174, 175, 176, 177, 178, 179, 180, 181, 182, 183, 184, 185, 186, 187, 188, 189, 190, 191] (by decide +kernel) (by decide +kernel)
set_option maxRecDepth 20000 in
theorem gX9_set_X9_setArea : GoodIn wsX9_set (wsV RX9 111 RX9 yX9_setArea wsX9_setArea) := goodIn_app (goodIn_of _ (by decide +kernel)) ggX9_set_X9_setArea
set_option maxRecDepth 20000 in
theorem ggX9_set_X9_setLimit : GoodIn wsX9_set wsX9_setLimit := goodIn_r _ [143, 7, 144, 145, 10, 11, 12, 4, 13, 14, 15, 16, 17, 18, 19, 20, 21, 22, 23, 24, 25, 26, 27, 28, 29, 30, 31, 32, 33, 34, 35, 36, 37, 38, 39, 40, 41, 42, 43, 44, 45, 46, 47, 48, 49, 50, 51, 52, 53, 54, 55, 56, 57, 58, 59, 60, 61, 62, 63, 64, 65, 66, 67, 68, 69, 70, 71, 72, 73, 74, 75, 76, 77, 78, 79, 80, 81, 82, 83, 84, 85, 86, 87, 88, 89, 90, 91, 92, 93, 94, 95, 96, 97, 98, 99, 100, 101, 102, 103, 104, 105, 106, 107, 108, 109, 110, 111, 112, 113, 114, 115, 116, 117, 118, 119, 120, 121, 122, 123, 124, 125, 126, 127, 128, 129, 130, 131, 132, 133, 134, 135, 136, 137, 138, 139, 146, 147, 148, 149, 150, 151, 152, 153, 154, 155, 156, 157, 158, 159, 160, 161, 185, 186, 187, 188, 189, 190, 191, 169, 170, 171, 172, 173, 174, 175, 176, 177, 178, 179, 180, 181, 182, 183, 184, 162, 163, 164, 165, 166, 167, 168] (by decide +kernel) (by decide +kernel)
set_option maxRecDepth 20000 in
theorem gX9_set_X9_setLimit : GoodIn wsX9_set (wsV RX9 114 RX9 yX9_setLimit wsX9_setLimit) := goodIn_app (goodIn_of _ (by decide +kernel)) ggX9_set_X9_setLimit
set_option maxRecDepth 20000 in
theorem ggX9_setArea_X9_isOutside : GoodIn wsX9_setArea wsX9_isOutside := goodIn_r _ [9] (by decide +kernel) (by decide +kernel)
set_option maxRecDepth 20000 in
theorem gX9_setArea_X9_isOutside : GoodIn wsX9_setArea (va_wsS RX9 33 yX9_isOutside wsX9_isOutside) := goodIn_app (goodIn_of _ (by decide +kernel)) ggX9_setArea_X9_isOutside
set_option maxRecDepth 20000 in
theorem ggX9_setArea_X2_record : GoodIn wsX9_setArea wsX2_record := goodIn_r _ [14, 15, 16, 17, 18, 19, 20, 21, 22, 23, 24, 25, 26, 27, 28, 29, 30, 31, 32, 33, 34, 35, 36, 37, 38, 39, 40, 41, 42, 43, 44, 45, 46, 47, 48, 49, 50, 51, 52, 53, 54, 55, 56, 57, 58, 59, 60, 61, 62, 63, 64, 65, 66, 67, 68, 69, 70, 71, 72, 73, 74, 75, 76, 77, 78, 79, 80, 81, 82, 83, 84, 85, 86, 87, 88, 89, 90, 91, 92, 93, 94, 95, 96, 97, 98, 99, 100, 101, 102, 103, 104, 105, 106, 107, 108, 109, 110, 111, 112, 113, 114, 115, 116, 117, 118, 119, 120, 121, 122, 123, 124, 125, 126, 127, 128, 129, 130, 131, 132, 133, 134, 135, 159, 160, 161, 141, 142, 143, 144, 145, 146, 147, 148, 149, 150, 151, 162, 163, 164, 165, 166, 167, 168, 169, 170, 171, 172, 173, 174, 175, 176, 177, 178, 179, 180, 181, 152, 153, 154, 155, 156, 157, 158] (by decide +kernel) (by decide +kernel)
set_option maxRecDepth 20000 in
theorem gX9_setArea_X2_record : GoodIn wsX9_setArea (wsV RX9 53 RX2 yX2_record wsX2_record) := goodIn_app (goodIn_of _ (by decide +kernel)) ggX9_setArea_X2_record
set_option maxRecDepth 20000 in
theorem ggX9_setLimit_X9_isOutside : GoodIn wsX9_setLimit wsX9_isOutside := goodIn_r _ [8] (by decide +kernel) (by decide +kernel)
set_option maxRecDepth 20000 in
theorem gX9_setLimit_X9_isOutside : GoodIn wsX9_setLimit (va_wsS RX9 33 yX9_isOutside wsX9_isOutside) := goodIn_app (goodIn_of _ (by decide +kernel)) ggX9_setLimit_X9_isOutside
set_option maxRecDepth 20000 in
theorem ggX9_setLimit_X2_record : GoodIn wsX9_setLimit wsX2_record := goodIn_r _ [13, 14, 15, 16, 17, 18, 19, 20, 21, 22, 23, 24, 25, 26, 27, 28, 29, 30, 31, 32, 33, 34, 35, 36, 37, 38, 39, 40, 41, 42, 43, 44, 45, 46, 47, 48, 49, 50, 51, 52, 53, 54, 55, 56, 57, 58, 59, 60, 61, 62, 63, 64, 65, 66, 67, 68, 69, 70, 71, 72, 73, 74, 75, 76, 77, 78, 79, 80, 81, 82, 83, 84, 85, 86, 87, 88, 89, 90, 91, 92, 93, 94, 95, 96, 97, 98, 99, 100, 101, 102, 103, 104, 105, 106, 107, 108, 109, 110, 111, 112, 113, 114, 115, 116, 117, 118, 119, 120, 121, 122, 123, 124, 125, 126, 127, 128, 129, 130, 131, 132, 133, 134, 158, 159, 160, 140, 141, 142, 143, 144, 145, 146, 147, 148, 149, 150, 161, 162, 163, 164, 165, 166, 167, 168, 169, 170, 171, 172, 173, 151, 152, 153, 154, 155, 156, 157, 174, 175, 176, 177, 178, 179, 180] (by decide +kernel) (by decide +kernel)
set_option maxRecDepth 20000 in
theorem gX9_setLimit_X2_record : GoodIn wsX9_setLimit (wsV RX9 53 RX2 yX2_record wsX2_record) := goodIn_app (goodIn_of _ (by decide +kernel)) ggX9_setLimit_X2_record
set_option maxRecDepth 20000 in
theorem ggX9_setAlarm_X3_isLevel : GoodIn wsX9_setAlarm wsX3_isLevel := goodIn_r _ [7, 8, 9, 10] (by decide +kernel) (by decide +kernel)
set_option maxRecDepth 20000 in
theorem gX9_setAlarm_X3_isLevel : GoodIn wsX9_setAlarm (va_wsS RX9 131 yX3_isLevel wsX3_isLevel) := goodIn_app (goodIn_of _ (by decide +kernel)) ggX9_setAlarm_X3_isLevel
set_option maxRecDepth 20000 in
theorem ggX9_setAlarm_X3_isSame : GoodIn wsX9_setAlarm wsX3_isSame := goodIn_r _ [13, 8] (by decide +kernel) (by decide +kernel)
set_option maxRecDepth 20000 in
theorem gX9_setAlarm_X3_isSame : GoodIn wsX9_setAlarm (va_wsS RX9 138 yX3_isSame wsX3_isSame) := goodIn_app (goodIn_of _ (by decide +kernel)) ggX9_setAlarm_X3_isSame
set_option maxRecDepth 20000 in
theorem ggX9_setAlarm_X2_record : GoodIn wsX9_setAlarm wsX2_record := goodIn_r _ [18, 19, 20, 21, 22, 23, 24, 25, 26, 27, 28, 29, 30, 31, 32, 33, 34, 35, 36, 37, 38, 39, 40, 41, 42, 43, 44, 45, 46, 47, 48, 49, 50, 51, 52, 53, 54, 55, 56, 57, 58, 59, 60, 61, 62, 63, 64, 65, 66, 67, 68, 69, 70, 71, 72, 73, 74, 75, 76, 77, 78, 79, 80, 81, 82, 83, 84, 85, 86, 87, 88, 89, 90, 91, 92, 93, 94, 95, 96, 97, 98, 99, 100, 101, 102, 103, 104, 105, 106, 107, 108, 109, 110, 111, 112, 113, 114, 115, 116, 117, 118, 119, 120, 121, 122, 123, 124, 125, 126, 127, 128, 129, 130, 131, 132, 133, 134, 135, 136, 137, 138, 139, 156, 157, 158, 145, 146, 147, 148, 149, 150, 151, 152, 153, 154, 155, 159, 160, 161, 162, 163, 164, 165, 166, 167, 168, 169, 170, 171, 172, 173, 174, 175, 176, 177, 178, 179, 180, 181, 182, 183, 184, 185] (by decide +kernel) (by decide +kernel)
set_option maxRecDepth 20000 in
theorem gX9_setAlarm_X2_record : GoodIn wsX9_setAlarm (wsV RX9 53 RX2 yX2_record wsX2_record) := goodIn_app (goodIn_of _ (by decide +kernel)) ggX9_setAlarm_X2_record
set_option maxRecDepth 20000 in
theorem ggX9_setTide_X9_isHourOfDay : GoodIn wsX9_setTide wsX9_isHourOfDay := goodIn_r _ [7] (by decide +kernel) (by decide +kernel)
set_option maxRecDepth 20000 in
theorem gX9_setTide_X9_isHourOfDay : GoodIn wsX9_setTide (va_wsS RX9 142 yX9_isHourOfDay wsX9_isHourOfDay) := goodIn_app (goodIn_of _ (by decide +kernel)) ggX9_setTide_X9_isHourOfDay
set_option maxRecDepth 20000 in
theorem ggX9_setTide_X3_isLevel : GoodIn wsX9_setTide wsX3_isLevel := goodIn_r _ [11, 12, 13, 14] (by decide +kernel) (by decide +kernel)
set_option maxRecDepth 20000 in
theorem gX9_setTide_X3_isLevel : GoodIn wsX9_setTide (va_wsS RX9 131 yX3_isLevel wsX3_isLevel) := goodIn_app (goodIn_of _ (by decide +kernel)) ggX9_setTide_X3_isLevel
set_option maxRecDepth 20000 in
theorem ggX9_setTide_X3_isSame : GoodIn wsX9_setTide wsX3_isSame := goodIn_r _ [17, 12] (by decide +kernel) (by decide +kernel)
set_option maxRecDepth 20000 in
theorem gX9_setTide_X3_isSame : GoodIn wsX9_setTide (va_wsS RX9 138 yX3_isSame wsX3_isSame) := goodIn_app (goodIn_of _ (by decide +kernel)) ggX9_setTide_X3_isSame
set_option maxRecDepth 20000 in
theorem ggX9_setTide_X2_record : GoodIn wsX9_setTide wsX2_record := goodIn_r _ [22, 23, 24, 25, 26, 27, 28, 29, 30, 31, 32, 33, 34, 35, 36, 37, 38, 39, 40, 41, 42, 43, 44, 45, 46, 47, 48, 49, 50, 51, 52, 53, 54, 55, 56, 57, 58, 59, 60, 61, 62, 63, 64, 65, 66, 67, 68, 69, 70, 71, 72, 73, 74, 75, 76, 77, 78, 79, 80, 81, 82, 83, 84, 85, 86, 87, 88, 89, 90, 91, 92, 93, 94, 95, 96, 97, 98, 99, 100, 101, 102, 103, 104, 105, 106, 107, 108, 109, 110, 111, 112, 113, 114, 115, 116, 117, 118, 119, 120, 121, 122, 123, 124, 125, 126, 127, 128, 129, 130, 131, 132, 133, 134, 135, 136, 137, 138, 139, 140, 141, 142, 143, 160, 161, 162, 149, 150, 151, 152, 153, 154, 155, 156, 157, 158, 159, 163, 164, 165, 166, 167, 168, 169, 170, 171, 172, 173, 174, 175, 176, 177, 178, 179, 180, 181, 182, 183, 184, 185, 186, 187, 188, 189] (by decide +kernel) (by decide +kernel)
set_option maxRecDepth 20000 in
theorem gX9_setTide_X2_record : GoodIn wsX9_setTide (wsV RX9 53 RX2 yX2_record wsX2_record) := goodIn_app (goodIn_of _ (by decide +kernel)) ggX9_setTide_X2_record
set_option maxRecDepth 20000 in
theorem ggX9_vote_X1_has : GoodIn wsX9_vote wsX1_has := goodIn_r _ [9, 10, 155, 156, 157] (by decide +kernel) (by decide +kernel)
set_option maxRecDepth 20000 in
theorem gX9_vote_X1_has : GoodIn wsX9_vote (wsV RX9 149 RX1 yX1_has wsX1_has) := goodIn_app (goodIn_of _ (by decide +kernel)) ggX9_vote_X1_has
set_option maxRecDepth 20000 in
theorem ggX9_vote_X2_record : GoodIn wsX9_vote wsX2_record := goodIn_r _ [15, 16, 17, 18, 19, 20, 21, 22, 23, 24, 25, 26, 27, 28, 29, 30, 31, 32, 33, 34, 35, 36, 8, 37, 38, 39, 40, 41, 42, 43, 44, 45, 46, 47, 48, 49, 50, 51, 52, 53, 54, 55, 56, 57, 58, 59, 60, 61, 62, 63, 64, 65, 66, 67, 68, 69, 70, 71, 72, 73, 74, 75, 76, 77, 78, 79, 80, 81, 82, 83, 84, 85, 86, 87, 88, 89, 90, 91, 92, 93, 94, 95, 96, 97, 98, 99, 100, 101, 102, 103, 104, 105, 106, 107, 108, 109, 110, 10, 111, 112, 113, 114, 115, 116, 117, 118, 119, 120, 121, 122, 123, 124, 125, 126, 127, 128, 129, 130, 131, 132, 133, 134, 158, 159, 160, 144, 145, 146, 147, 148, 149, 150, 151, 152, 153, 154, 161, 162, 163, 164, 165, 166, 167, 168, 155, 156, 157, 169, 170, 171, 172, 173, 174, 175, 176, 177, 178, 179, 180, 181, 182, 183, 184] (by decide +kernel) (by decide +kernel)
set_option maxRecDepth 20000 in
theorem gX9_vote_X2_record : GoodIn wsX9_vote (wsV RX9 53 RX2 yX2_record wsX2_record) := goodIn_app (goodIn_of _ (by decide +kernel)) ggX9_vote_X2_record
set_option maxRecDepth 20000 in
theorem ggX9_vote_X1_weightForClosing : GoodIn wsX9_vote wsX1_weightForClosing := goodIn_r _ [138, 10, 72, 70, 155, 156, 157] (by decide +kernel) (by decide +kernel)
set_option maxRecDepth 20000 in
theorem gX9_vote_X1_weightForClosing : GoodIn wsX9_vote (wsV RX9 153 RX1 yX1_weightForClosing wsX1_weightForClosing) := goodIn_app (goodIn_of _ (by decide +kernel)) ggX9_vote_X1_weightForClosing
set_option maxRecDepth 20000 in
theorem ggX9_close_X1_allowClosing : GoodIn wsX9_close wsX1_allowClosing := goodIn_r _ [10, 11, 12, 13, 9, 14, 15, 16, 17, 18, 19, 20, 21, 192, 193, 194] (by decide +kernel) (by decide +kernel)
set_option maxRecDepth 20000 in
theorem gX9_close_X1_allowClosing : GoodIn wsX9_close (wsV RX9 156 RX1 yX1_allowClosing wsX1_allowClosing) := goodIn_app (goodIn_of _ (by decide +kernel)) ggX9_close_X1_allowClosing
set_option maxRecDepth 20000 in
theorem ggX9_close_X5_areAllShut : GoodIn wsX9_close wsX5_areAllShut := goodIn_r _ [26, 27, 28, 29, 30, 25, 31, 32, 195, 196, 197, 198, 199, 200, 201, 202] (by decide +kernel) (by decide +kernel)
set_option maxRecDepth 20000 in
theorem gX9_close_X5_areAllShut : GoodIn wsX9_close (wsV RX9 159 RX5 yX5_areAllShut wsX5_areAllShut) := goodIn_app (goodIn_of _ (by decide +kernel)) ggX9_close_X5_areAllShut
set_option maxRecDepth 20000 in
theorem ggX9_close_X2_record : GoodIn wsX9_close wsX2_record := goodIn_r _ [37, 38, 39, 40, 41, 42, 43, 44, 45, 46, 47, 48, 49, 50, 51, 52, 53, 54, 25, 55, 56, 57, 9, 58, 59, 60, 61, 62, 63, 64, 65, 66, 67, 68, 69, 70, 71, 72, 73, 74, 75, 76, 77, 78, 79, 80, 81, 82, 83, 84, 32, 85, 86, 87, 88, 89, 17, 90, 16, 91, 92, 93, 94, 95, 96, 97, 98, 99, 100, 101, 102, 103, 104, 105, 106, 107, 108, 109, 110, 111, 112, 113, 114, 115, 116, 117, 118, 119, 120, 121, 122, 27, 123, 124, 125, 126, 127, 15, 128, 129, 130, 131, 132, 133, 134, 135, 136, 137, 138, 139, 140, 141, 142, 143, 144, 145, 146, 147, 148, 149, 150, 151, 203, 204, 205, 181, 182, 183, 184, 185, 186, 187, 188, 189, 190, 191, 195, 196, 197, 198, 199, 200, 201, 202, 192, 193, 194, 206, 207, 208, 209, 210, 211, 212, 213, 214, 215, 216, 217, 218, 219, 220, 221] (by decide +kernel) (by decide +kernel)
set_option maxRecDepth 20000 in
theorem gX9_close_X2_record : GoodIn wsX9_close (wsV RX9 53 RX2 yX2_record wsX2_record) := goodIn_app (goodIn_of _ (by decide +kernel)) ggX9_close_X2_record
set_option maxRecDepth 20000 in
theorem ggX9_close_X6_beginClosing : GoodIn wsX9_close wsX6_beginClosing := goodIn_r _ [155, 74, 75, 117, 118, 156, 157, 158, 43, 159, 72, 116, 160, 45, 46, 47, 161, 162, 163, 164, 165, 166, 167, 168, 169, 170, 171, 172, 173, 174, 175, 181, 182, 183, 184, 185, 186, 187, 188, 189, 190, 191] (by decide +kernel) (by decide +kernel)
set_option maxRecDepth 20000 in
theorem gX9_close_X6_beginClosing : GoodIn wsX9_close (wsV RX9 165 RX6 yX6_beginClosing wsX6_beginClosing) := goodIn_app (goodIn_of _ (by decide +kernel)) ggX9_close_X6_beginClosing
set_option maxRecDepth 20000 in
theorem ggX9_open_X5_countIn : GoodIn wsX9_open wsX5_countIn := goodIn_r _ [9, 10, 11, 159, 160, 161, 162, 163, 164, 165, 166] (by decide +kernel) (by decide +kernel)
set_option maxRecDepth 20000 in
theorem gX9_open_X5_countIn : GoodIn wsX9_open (wsV RX9 168 RX5 yX5_countIn wsX5_countIn) := goodIn_app (goodIn_of _ (by decide +kernel)) ggX9_open_X5_countIn
set_option maxRecDepth 20000 in
theorem ggX9_open_X5_moving : GoodIn wsX9_open wsX5_moving := goodIn_r _ [15, 10, 16, 17, 18, 8, 19, 11, 159, 160, 161, 162, 163, 164, 165, 166] (by decide +kernel) (by decide +kernel)
set_option maxRecDepth 20000 in
theorem gX9_open_X5_moving : GoodIn wsX9_open (wsV RX9 171 RX5 yX5_moving wsX5_moving) := goodIn_app (goodIn_of _ (by decide +kernel)) ggX9_open_X5_moving
set_option maxRecDepth 20000 in
theorem ggX9_open_X2_record : GoodIn wsX9_open wsX2_record := goodIn_r _ [24, 25, 26, 27, 28, 29, 30, 31, 32, 33, 34, 35, 36, 37, 38, 39, 40, 41, 8, 42, 43, 44, 45, 46, 47, 48, 49, 50, 51, 52, 53, 54, 55, 56, 57, 58, 59, 60, 61, 62, 63, 64, 65, 66, 67, 68, 69, 70, 71, 72, 11, 73, 74, 75, 76, 77, 78, 79, 80, 81, 82, 83, 84, 85, 86, 87, 88, 89, 90, 91, 92, 93, 94, 95, 96, 97, 98, 99, 100, 101, 102, 103, 104, 105, 106, 107, 108, 109, 110, 111, 112, 10, 113, 114, 115, 116, 117, 118, 119, 120, 121, 122, 123, 124, 125, 126, 127, 128, 129, 130, 131, 132, 133, 134, 135, 136, 137, 138, 139, 140, 141, 142, 167, 168, 169, 148, 149, 150, 151, 152, 153, 154, 155, 156, 157, 158, 159, 160, 161, 162, 163, 164, 165, 166, 170, 171, 172, 173, 174, 175, 176, 177, 178, 179, 180, 181, 182, 183, 184, 185, 186, 187, 188] (by decide +kernel) (by decide +kernel)
set_option maxRecDepth 20000 in
theorem gX9_open_X2_record : GoodIn wsX9_open (wsV RX9 53 RX2 yX2_record wsX2_record) := goodIn_app (goodIn_of _ (by decide +kernel)) ggX9_open_X2_record
set_option maxRecDepth 20000 in
theorem ggX9_service_X5_has : GoodIn wsX9_service wsX5_has := goodIn_r _ [10, 11, 164, 165, 166, 167, 168, 169, 170, 171] (by decide +kernel) (by decide +kernel)
set_option maxRecDepth 20000 in
theorem gX9_service_X5_has : GoodIn wsX9_service (wsV RX9 174 RX5 yX5_has wsX5_has) := goodIn_app (goodIn_of _ (by decide +kernel)) ggX9_service_X5_has
set_option maxRecDepth 20000 in
theorem ggX9_service_X5_isMoving : GoodIn wsX9_service wsX5_isMoving := goodIn_r _ [15, 16, 164, 165, 166, 167, 168, 169, 170, 171] (by decide +kernel) (by decide +kernel)
set_option maxRecDepth 20000 in
theorem gX9_service_X5_isMoving : GoodIn wsX9_service (wsV RX9 175 RX5 yX5_isMoving wsX5_isMoving) := goodIn_app (goodIn_of _ (by decide +kernel)) ggX9_service_X5_isMoving
set_option maxRecDepth 20000 in
theorem ggX9_service_X5_isClosed : GoodIn wsX9_service wsX5_isClosed := goodIn_r _ [20, 16, 164, 165, 166, 167, 168, 169, 170, 171] (by decide +kernel) (by decide +kernel)
set_option maxRecDepth 20000 in
theorem gX9_service_X5_isClosed : GoodIn wsX9_service (wsV RX9 178 RX5 yX5_isClosed wsX5_isClosed) := goodIn_app (goodIn_of _ (by decide +kernel)) ggX9_service_X5_isClosed
set_option maxRecDepth 20000 in
theorem ggX9_service_X2_record : GoodIn wsX9_service wsX2_record := goodIn_r _ [25, 26, 27, 28, 29, 30, 31, 32, 33, 34, 35, 36, 37, 38, 39, 40, 41, 42, 9, 43, 44, 45, 46, 47, 48, 49, 50, 51, 52, 53, 54, 55, 56, 57, 58, 59, 60, 61, 62, 63, 64, 65, 66, 67, 68, 69, 70, 71, 72, 73, 16, 74, 75, 76, 77, 78, 79, 80, 81, 82, 83, 84, 85, 86, 87, 88, 89, 90, 91, 92, 93, 94, 95, 96, 97, 98, 99, 100, 101, 102, 103, 104, 105, 106, 107, 108, 109, 110, 111, 112, 113, 11, 114, 115, 116, 117, 118, 119, 120, 121, 122, 123, 124, 125, 126, 127, 128, 129, 130, 131, 132, 133, 134, 135, 136, 137, 138, 139, 140, 141, 142, 143, 172, 173, 174, 153, 154, 155, 156, 157, 158, 159, 160, 161, 162, 163, 164, 165, 166, 167, 168, 169, 170, 171, 175, 176, 177, 178, 179, 180, 181, 182, 183, 184, 185, 186, 187, 188, 189, 190, 191, 192, 193] (by decide +kernel) (by decide +kernel)
set_option maxRecDepth 20000 in
theorem gX9_service_X2_record : GoodIn wsX9_service (wsV RX9 53 RX2 yX2_record wsX2_record) := goodIn_app (goodIn_of _ (by decide +kernel)) ggX9_service_X2_record
set_option maxRecDepth 20000 in
theorem ggX9_service_X5_renew : GoodIn wsX9_service wsX5_renew := goodIn_r _ [147, 16, 75, 164, 165, 166, 167, 168, 169, 170, 171] (by decide +kernel) (by decide +kernel)
set_option maxRecDepth 20000 in
theorem gX9_service_X5_renew : GoodIn wsX9_service (wsV RX9 187 RX5 yX5_renew wsX5_renew) := goodIn_app (goodIn_of _ (by decide +kernel)) ggX9_service_X5_renew
set_option maxRecDepth 20000 in
theorem ggX9_pass_X9_isOutside : GoodIn wsX9_pass wsX9_isOutside := goodIn_r _ [6] (by decide +kernel) (by decide +kernel)
set_option maxRecDepth 20000 in
theorem gX9_pass_X9_isOutside : GoodIn wsX9_pass (va_wsS RX9 33 yX9_isOutside wsX9_isOutside) := goodIn_app (goodIn_of _ (by decide +kernel)) ggX9_pass_X9_isOutside
set_option maxRecDepth 20000 in
theorem ggX9_pass_X2_record : GoodIn wsX9_pass wsX2_record := goodIn_r _ [11, 12, 13, 14, 15, 16, 17, 18, 19, 20, 21, 22, 23, 24, 25, 26, 27, 28, 29, 30, 31, 32, 33, 34, 35, 36, 37, 38, 39, 40, 41, 42, 43, 44, 45, 46, 47, 48, 49, 50, 51, 52, 53, 54, 55, 56, 57, 58, 59, 60, 61, 62, 63, 64, 65, 66, 67, 68, 69, 70, 71, 72, 73, 74, 75, 76, 77, 78, 79, 80, 81, 82, 83, 84, 85, 86, 87, 88, 89, 90, 91, 92, 93, 94, 95, 96, 97, 98, 99, 100, 101, 102, 103, 104, 105, 106, 107, 108, 109, 110, 111, 112, 113, 114, 115, 116, 117, 118, 119, 120, 121, 122, 123, 124, 125, 126, 127, 128, 129, 130, 131, 132, 244, 245, 246, 247, 248, 249, 250, 251, 252, 253, 254, 255, 256, 257, 258, 259, 260, 261, 262, 263, 264, 265, 266, 267, 268, 269, 270, 271, 272, 273, 274, 275, 276, 277, 278, 279, 280, 281, 282, 283, 284] (by decide +kernel) (by decide +kernel)
set_option maxRecDepth 20000 in
theorem gX9_pass_X2_record : GoodIn wsX9_pass (wsV RX9 53 RX2 yX2_record wsX2_record) := goodIn_app (goodIn_of _ (by decide +kernel)) ggX9_pass_X2_record
set_option maxRecDepth 20000 in
theorem ggX9_pass_X6_passHours : GoodIn wsX9_pass wsX6_passHours := goodIn_r _ [136, 30, 46, 38, 42, 95, 137, 138, 139, 17, 140, 51, 141, 142, 143, 29, 144, 102, 145, 146, 147, 148, 61, 149, 150, 151, 152, 153, 154, 155, 156, 157, 158, 159, 160, 161, 162, 163, 164, 63, 60, 62, 59, 165, 166, 167, 168, 169, 170, 171, 172, 48, 173, 19, 20, 21, 174, 175, 176, 177, 178, 179, 180, 181, 182, 183, 184, 185, 186, 187, 188, 189, 190, 191, 192, 56, 193, 58, 194, 195, 196, 197, 45, 198, 127, 86, 199, 200, 201, 202, 128, 129, 203, 204, 205, 206, 207, 208, 209, 210, 211, 212, 213, 130, 214, 215, 216, 37, 217, 114, 73, 218, 219, 220, 221, 131, 222, 223, 224, 41, 225, 121, 120, 78, 81, 79, 226, 227, 228, 229, 80, 77, 230, 231, 232, 233, 132, 234, 235, 236, 237, 238, 247, 248, 249, 250, 251, 252, 253, 254, 255, 256, 257, 258, 259, 260, 261, 262, 263, 264, 265, 278, 279, 280, 281, 282, 283, 284, 269, 270, 271, 272, 273, 274, 275, 276, 277] (by decide +kernel) (by decide +kernel)
set_option maxRecDepth 20000 in
theorem gX9_pass_X6_passHours : GoodIn wsX9_pass (wsV RX9 191 RX6 yX6_passHours wsX6_passHours) := goodIn_app (goodIn_of _ (by decide +kernel)) ggX9_pass_X6_passHours
set_option maxRecDepth 20000 in
theorem ggX9_readTides_X9_isHourOfDay : GoodIn wsX9_readTides wsX9_isHourOfDay := goodIn_r _ [9] (by decide +kernel) (by decide +kernel)
set_option maxRecDepth 20000 in
theorem gX9_readTides_X9_isHourOfDay : GoodIn wsX9_readTides (va_wsS RX9 142 yX9_isHourOfDay wsX9_isHourOfDay) := goodIn_app (goodIn_of _ (by decide +kernel)) ggX9_readTides_X9_isHourOfDay
set_option maxRecDepth 20000 in
theorem ggX9_readTides_X8_fault : GoodIn wsX9_readTides wsX8_fault := goodIn_r _ [14, 15, 16, 17, 18, 13, 19, 20, 21, 22, 195, 196, 197, 198] (by decide +kernel) (by decide +kernel)
set_option maxRecDepth 20000 in
theorem gX9_readTides_X8_fault : GoodIn wsX9_readTides (wsV RX9 202 RX8 yX8_fault wsX8_fault) := goodIn_app (goodIn_of _ (by decide +kernel)) ggX9_readTides_X8_fault
set_option maxRecDepth 20000 in
theorem ggX9_readTides_X8_readTenths : GoodIn wsX9_readTides wsX8_readTenths := goodIn_r _ [26, 27, 15, 16, 20, 21, 13, 22, 28, 29, 30, 31, 32, 195, 196, 197, 198] (by decide +kernel) (by decide +kernel)
set_option maxRecDepth 20000 in
theorem gX9_readTides_X8_readTenths : GoodIn wsX9_readTides (wsV RX9 205 RX8 yX8_readTenths wsX8_readTenths) := goodIn_app (goodIn_of _ (by decide +kernel)) ggX9_readTides_X8_readTenths
set_option maxRecDepth 20000 in
theorem ggX9_readTides_X8_lowestTenths : GoodIn wsX9_readTides wsX8_lowestTenths := goodIn_r _ [36, 27, 32, 37, 38, 39, 40, 195, 196, 197, 198] (by decide +kernel) (by decide +kernel)
set_option maxRecDepth 20000 in
theorem gX9_readTides_X8_lowestTenths : GoodIn wsX9_readTides (wsV RX9 208 RX8 yX8_lowestTenths wsX8_lowestTenths) := goodIn_app (goodIn_of _ (by decide +kernel)) ggX9_readTides_X8_lowestTenths
set_option maxRecDepth 20000 in
theorem ggX9_readTides_X2_record : GoodIn wsX9_readTides wsX2_record := goodIn_r _ [45, 46, 47, 48, 49, 50, 51, 52, 53, 54, 55, 56, 57, 58, 59, 60, 61, 62, 63, 64, 65, 66, 67, 68, 69, 70, 71, 72, 73, 74, 75, 76, 77, 78, 79, 80, 81, 82, 83, 84, 85, 86, 87, 88, 89, 90, 91, 92, 93, 94, 95, 96, 97, 98, 99, 100, 101, 102, 103, 104, 105, 106, 107, 108, 109, 110, 111, 112, 113, 114, 115, 116, 117, 118, 119, 120, 121, 122, 123, 124, 125, 126, 127, 128, 129, 130, 131, 132, 133, 134, 135, 136, 137, 138, 139, 140, 141, 142, 143, 144, 145, 146, 147, 148, 149, 150, 151, 152, 153, 154, 155, 156, 157, 158, 159, 160, 161, 162, 163, 164, 165, 166, 199, 200, 201, 184, 185, 186, 187, 188, 189, 190, 191, 192, 193, 194, 202, 203, 204, 205, 206, 207, 208, 209, 210, 211, 212, 213, 214, 215, 216, 217, 218, 219, 220, 221, 222, 223, 224, 225, 226, 227, 228] (by decide +kernel) (by decide +kernel)
set_option maxRecDepth 20000 in
theorem gX9_readTides_X2_record : GoodIn wsX9_readTides (wsV RX9 53 RX2 yX2_record wsX2_record) := goodIn_app (goodIn_of _ (by decide +kernel)) ggX9_readTides_X2_record
set_option maxRecDepth 20000 in
theorem ggX9_readTides_X3_bitsOfTenths : GoodIn wsX9_readTides wsX3_bitsOfTenths := goodIn_r _ [170, 171, 172, 39, 173, 174, 175, 176, 177, 178] (by decide +kernel) (by decide +kernel)
set_option maxRecDepth 20000 in
theorem gX9_readTides_X3_bitsOfTenths : GoodIn wsX9_readTides (va_wsS RX9 214 yX3_bitsOfTenths wsX3_bitsOfTenths) := goodIn_app (goodIn_of _ (by decide +kernel)) ggX9_readTides_X3_bitsOfTenths
set_option maxRecDepth 20000 in
theorem ggX9_undo_X2_takeLatest : GoodIn wsX9_undo wsX2_takeLatest := goodIn_r _ [8, 9, 10, 11, 12, 13, 14, 15, 16, 17, 18, 19, 20, 21, 22, 23, 24, 25, 26, 27, 28, 29, 30, 31, 32, 33, 34, 35, 36, 37, 38, 39, 40, 41, 42, 43, 44, 45, 46, 47, 48, 49, 50, 51, 52, 53, 54, 55, 56, 57, 58, 59, 60, 61, 62, 63, 64, 65, 66, 67, 68, 69, 70, 71, 72, 73, 74, 75, 76, 77, 78, 79, 80, 81, 82, 83, 84, 85, 86, 87, 88, 89, 90, 91, 97, 98, 99, 100, 101, 102, 103, 104, 105, 106, 107, 108, 109, 110, 111, 112, 113, 114, 115, 116, 117, 118, 119, 120, 121, 122, 123, 124, 125, 126, 127, 128, 129, 130, 131, 132, 133, 134, 135, 136, 137] (by decide +kernel) (by decide +kernel)
set_option maxRecDepth 20000 in
theorem gX9_undo_X2_takeLatest : GoodIn wsX9_undo (wsV RX9 218 RX2 yX2_takeLatest wsX2_takeLatest) := goodIn_app (goodIn_of _ (by decide +kernel)) ggX9_undo_X2_takeLatest
set_option maxRecDepth 20000 in
theorem ggX9_keep_X6_init : GoodIn wsX9_keep wsX6_init := goodIn_r _ [8, 9, 10, 11, 12, 13, 14, 15, 16, 17, 18, 19, 20, 21, 22, 23, 24, 25, 26, 27, 28, 29, 30, 31, 32, 33, 34, 35, 36, 37, 38, 39, 40, 41, 42, 43, 44, 45, 46, 47, 48, 49, 50, 51, 52, 53, 54, 55, 56, 57, 58, 59, 60, 61, 62, 63, 64, 65, 66, 67, 68, 69, 70, 71, 134, 135, 136, 137, 138, 139, 140, 141, 123, 124, 125, 126, 127, 128, 129, 130, 131, 132, 133, 142, 143, 144, 145, 146, 147, 148, 149, 150, 151, 152, 153, 154, 155, 156, 157, 158, 159, 160] (by decide +kernel) (by decide +kernel)
set_option maxRecDepth 20000 in
theorem gX9_keep_X6_init_n9 : GoodIn wsX9_keep (wsX6_init) := ggX9_keep_X6_init
set_option maxRecDepth 20000 in
theorem ggX9_keep_X6_copyFrom : GoodIn wsX9_keep wsX6_copyFrom := goodIn_r _ [75, 15, 19, 23, 27, 31, 33, 76, 77, 78, 79, 35, 80, 36, 81, 82, 83, 84, 85, 14, 86, 87, 41, 88, 43, 44, 45, 46, 47, 48, 89, 90, 91, 18, 92, 93, 52, 94, 54, 95, 96, 97, 22, 98, 99, 58, 100, 101, 102, 103, 26, 104, 105, 62, 106, 63, 107, 64, 65, 66, 108, 109, 110, 30, 111, 71, 112, 113, 114, 115, 116, 117, 123, 124, 125, 126, 127, 128, 129, 130, 131, 132, 133, 134, 135, 136, 137, 138, 139, 140, 141, 142, 143, 144, 145, 146, 147, 148, 149, 150, 151, 152, 153, 154, 155, 156, 157, 158, 159, 160] (by decide +kernel) (by decide +kernel)
set_option maxRecDepth 20000 in
theorem gX9_keep_X6_copyFrom : GoodIn wsX9_keep (wsV RX9 228 RX6 yX6_copyFrom wsX6_copyFrom) := goodIn_app (goodIn_of _ (by decide +kernel)) ggX9_keep_X6_copyFrom
set_option maxRecDepth 20000 in
theorem ggX9_restore_X2_record : GoodIn wsX9_restore wsX2_record := goodIn_r _ [9, 10, 11, 12, 13, 14, 15, 16, 17, 18, 19, 20, 21, 22, 23, 24, 25, 26, 27, 28, 29, 30, 31, 32, 33, 34, 35, 36, 37, 38, 39, 40, 41, 42, 43, 44, 45, 46, 47, 48, 49, 50, 51, 52, 53, 54, 55, 56, 57, 58, 59, 60, 61, 62, 63, 64, 65, 66, 67, 68, 69, 70, 71, 72, 73, 74, 75, 76, 77, 78, 79, 80, 81, 82, 83, 84, 85, 86, 87, 88, 89, 90, 91, 92, 93, 94, 95, 96, 97, 98, 99, 100, 101, 102, 103, 104, 105, 106, 107, 108, 109, 110, 111, 112, 113, 114, 115, 116, 117, 118, 119, 120, 121, 122, 123, 124, 125, 126, 127, 128, 129, 130, 148, 149, 150, 137, 138, 139, 140, 141, 142, 143, 144, 145, 146, 147, 151, 152, 153, 154, 155, 156, 157, 158, 159, 160, 161, 162, 163, 164, 165, 166, 167, 168, 169, 170, 171, 172, 173, 174, 175, 176, 177] (by decide +kernel) (by decide +kernel)
set_option maxRecDepth 20000 in
theorem gX9_restore_X2_record : GoodIn wsX9_restore (wsV RX9 53 RX2 yX2_record wsX2_record) := goodIn_app (goodIn_of _ (by decide +kernel)) ggX9_restore_X2_record
set_option maxRecDepth 20000 in
theorem ggX9_restore_X6_copyFrom : GoodIn wsX9_restore wsX6_copyFrom := goodIn_r _ [88, 28, 32, 36, 40, 44, 46, 89, 90, 91, 92, 48, 93, 49, 94, 95, 96, 97, 98, 27, 99, 100, 54, 101, 56, 57, 58, 59, 60, 61, 102, 103, 104, 31, 105, 106, 65, 107, 67, 108, 109, 110, 35, 111, 112, 71, 113, 114, 115, 116, 39, 117, 118, 75, 119, 76, 120, 77, 78, 79, 121, 122, 123, 43, 124, 84, 125, 126, 127, 128, 129, 130, 137, 138, 139, 140, 141, 142, 143, 144, 145, 146, 147, 151, 152, 153, 154, 155, 156, 157, 158, 159, 160, 161, 162, 163, 164, 165, 166, 167, 168, 169, 170, 171, 172, 173, 174, 175, 176, 177] (by decide +kernel) (by decide +kernel)
set_option maxRecDepth 20000 in
theorem gX9_restore_X6_copyFrom : GoodIn wsX9_restore (wsV RX9 228 RX6 yX6_copyFrom wsX6_copyFrom) := goodIn_app (goodIn_of _ (by decide +kernel)) ggX9_restore_X6_copyFrom
set_option maxRecDepth 20000 in
theorem ggX9_section_X5_has : GoodIn wsX9_section wsX5_has := goodIn_r _ [13, 14, 36, 37, 38, 39, 40, 41, 42, 43] (by decide +kernel) (by decide +kernel)
set_option maxRecDepth 20000 in
theorem gX9_section_X5_has : GoodIn wsX9_section (wsV RX9 174 RX5 yX5_has wsX5_has) := goodIn_app (goodIn_of _ (by decide +kernel)) ggX9_section_X5_has
set_option maxRecDepth 20000 in
theorem ggX9_section_X5_isMoving : GoodIn wsX9_section wsX5_isMoving := goodIn_r _ [18, 19, 36, 37, 38, 39, 40, 41, 42, 43] (by decide +kernel) (by decide +kernel)
set_option maxRecDepth 20000 in
theorem gX9_section_X5_isMoving : GoodIn wsX9_section (wsV RX9 175 RX5 yX5_isMoving wsX5_isMoving) := goodIn_app (goodIn_of _ (by decide +kernel)) ggX9_section_X5_isMoving
set_option maxRecDepth 20000 in
theorem ggX9_pump_X4_has : GoodIn wsX9_pump wsX4_has := goodIn_r _ [11, 12, 40, 41, 42, 43, 44, 45, 46] (by decide +kernel) (by decide +kernel)
set_option maxRecDepth 20000 in
theorem gX9_pump_X4_has : GoodIn wsX9_pump (wsV RX9 102 RX4 yX4_has wsX4_has) := goodIn_app (goodIn_of _ (by decide +kernel)) ggX9_pump_X4_has
set_option maxRecDepth 20000 in
theorem ggX9_pump_X4_wouldRun : GoodIn wsX9_pump wsX4_wouldRun := goodIn_r _ [16, 12, 17, 18, 19, 20, 10, 21, 22, 23, 40, 41, 42, 43, 44, 45, 46] (by decide +kernel) (by decide +kernel)
set_option maxRecDepth 20000 in
theorem gX9_pump_X4_wouldRun : GoodIn wsX9_pump (wsV RX9 250 RX4 yX4_wouldRun wsX4_wouldRun) := goodIn_app (goodIn_of _ (by decide +kernel)) ggX9_pump_X4_wouldRun
set_option maxRecDepth 20000 in
theorem ggX9_level_X6_outer : GoodIn wsX9_level wsX6_outer := goodIn_r _ [9, 10, 11, 12, 13, 14, 15, 16, 17, 18, 19, 20, 21, 22, 23, 24, 25, 26, 27, 28, 29, 30, 44, 45, 46, 47, 48, 49, 50, 51, 52, 53, 54] (by decide +kernel) (by decide +kernel)
set_option maxRecDepth 20000 in
theorem gX9_level_X6_outer : GoodIn wsX9_level (wsV RX9 256 RX6 yX6_outer wsX6_outer) := goodIn_app (goodIn_of _ (by decide +kernel)) ggX9_level_X6_outer
set_option maxRecDepth 20000 in
theorem ggX9_level_X0_inner : GoodIn wsX9_level wsX0_inner := goodIn_r _ [35, 36, 37, 55, 56, 57, 58, 59, 60, 61] (by decide +kernel) (by decide +kernel)
set_option maxRecDepth 20000 in
theorem gX9_level_X0_inner : GoodIn wsX9_level (wsV RX9 260 RX0 yX0_inner wsX0_inner) := goodIn_app (goodIn_of _ (by decide +kernel)) ggX9_level_X0_inner
set_option maxRecDepth 20000 in
theorem ggX9_level_X3_ofBits : GoodIn wsX9_level wsX3_ofBits := goodIn_r _ [19, 20, 21, 22, 18, 23, 24, 25, 26, 27, 28, 29, 30] (by decide +kernel) (by decide +kernel)
set_option maxRecDepth 20000 in
theorem gX9_level_X3_ofBits : GoodIn wsX9_level (va_wsS RX9 57 yX3_ofBits wsX3_ofBits) := goodIn_app (goodIn_of _ (by decide +kernel)) ggX9_level_X3_ofBits
set_option maxRecDepth 20000 in
theorem ggX9_forecast_X9_isOutside : GoodIn wsX9_forecast wsX9_isOutside := goodIn_r _ [8] (by decide +kernel) (by decide +kernel)
set_option maxRecDepth 20000 in
theorem gX9_forecast_X9_isOutside : GoodIn wsX9_forecast (va_wsS RX9 33 yX9_isOutside wsX9_isOutside) := goodIn_app (goodIn_of _ (by decide +kernel)) ggX9_forecast_X9_isOutside
set_option maxRecDepth 20000 in
theorem ggX9_forecast_X6_copyFrom : GoodIn wsX9_forecast wsX6_copyFrom := goodIn_r _ [13, 14, 15, 16, 17, 18, 19, 20, 21, 22, 23, 24, 25, 26, 27, 28, 29, 30, 31, 32, 33, 34, 35, 36, 37, 38, 39, 40, 41, 42, 43, 44, 45, 46, 47, 48, 49, 50, 51, 52, 53, 54, 55, 56, 57, 58, 59, 60, 61, 62, 63, 64, 65, 66, 67, 68, 69, 70, 71, 72, 73, 74, 75, 76, 77, 78, 79, 80, 81, 82, 83, 84, 200, 201, 202, 203, 204, 205, 206, 207, 208, 209, 210, 211, 212, 213, 214, 215, 216, 217, 218, 219, 220, 221, 222, 223, 224, 225, 226, 227, 228, 229, 230, 231, 232, 233, 234, 235, 236, 237] (by decide +kernel) (by decide +kernel)
set_option maxRecDepth 20000 in
theorem gX9_forecast_X6_copyFrom : GoodIn wsX9_forecast (wsV RX9 228 RX6 yX6_copyFrom wsX6_copyFrom) := goodIn_app (goodIn_of _ (by decide +kernel)) ggX9_forecast_X6_copyFrom
set_option maxRecDepth 20000 in
theorem ggX9_forecast_X6_passHours : GoodIn wsX9_forecast wsX6_passHours := goodIn_r _ [88, 14, 18, 16, 17, 25, 89, 90, 91, 12, 92, 26, 93, 94, 95, 32, 96, 34, 97, 98, 99, 100, 40, 101, 102, 103, 104, 105, 106, 107, 108, 109, 110, 111, 112, 113, 114, 115, 116, 42, 39, 41, 38, 117, 118, 119, 120, 121, 122, 123, 124, 19, 125, 126, 127, 128, 129, 130, 131, 132, 133, 134, 135, 136, 137, 138, 139, 140, 141, 142, 143, 144, 145, 146, 147, 35, 148, 37, 149, 150, 151, 152, 76, 153, 79, 78, 154, 155, 156, 157, 80, 81, 158, 159, 160, 161, 162, 163, 164, 165, 166, 167, 168, 82, 169, 170, 171, 55, 172, 57, 58, 173, 174, 175, 176, 83, 177, 178, 179, 63, 180, 67, 65, 68, 72, 70, 181, 182, 183, 184, 71, 66, 185, 186, 187, 188, 84, 189, 190, 191, 192, 193, 200, 201, 202, 203, 204, 205, 206, 207, 208, 209, 210, 211, 212, 213, 214, 215, 216, 217, 218, 231, 232, 233, 234, 235, 236, 237, 222, 223, 224, 225, 226, 227, 228, 229, 230] (by decide +kernel) (by decide +kernel)
set_option maxRecDepth 20000 in
theorem gX9_forecast_X6_passHours : GoodIn wsX9_forecast (wsV RX9 191 RX6 yX6_passHours wsX6_passHours) := goodIn_app (goodIn_of _ (by decide +kernel)) ggX9_forecast_X6_passHours
set_option maxRecDepth 20000 in
theorem ggX9_forecast_X0_inner : GoodIn wsX9_forecast wsX0_inner := goodIn_r _ [153, 79, 78, 231, 232, 233, 234, 235, 236, 237] (by decide +kernel) (by decide +kernel)
set_option maxRecDepth 20000 in
theorem gX9_forecast_X0_inner : GoodIn wsX9_forecast (wsV RX9 260 RX0 yX0_inner wsX0_inner) := goodIn_app (goodIn_of _ (by decide +kernel)) ggX9_forecast_X0_inner
set_option maxRecDepth 20000 in
theorem ggX9_shutIn_X6_copyFrom : GoodIn wsX9_shutIn wsX6_copyFrom := goodIn_r _ [8, 9, 10, 11, 12, 13, 14, 15, 16, 17, 18, 19, 20, 21, 22, 23, 24, 25, 26, 27, 28, 29, 30, 31, 32, 33, 34, 35, 36, 37, 38, 39, 40, 41, 42, 43, 44, 45, 46, 47, 48, 49, 50, 51, 52, 53, 54, 55, 56, 57, 58, 59, 60, 61, 62, 63, 64, 65, 66, 67, 68, 69, 70, 71, 72, 73, 74, 75, 76, 77, 78, 79, 202, 203, 204, 205, 206, 207, 208, 209, 210, 211, 212, 213, 214, 215, 216, 217, 218, 219, 220, 221, 222, 223, 224, 225, 226, 227, 228, 229, 230, 231, 232, 233, 234, 235, 236, 237, 238, 239] (by decide +kernel) (by decide +kernel)
set_option maxRecDepth 20000 in
theorem gX9_shutIn_X6_copyFrom : GoodIn wsX9_shutIn (wsV RX9 228 RX6 yX6_copyFrom wsX6_copyFrom) := goodIn_app (goodIn_of _ (by decide +kernel)) ggX9_shutIn_X6_copyFrom
set_option maxRecDepth 20000 in
theorem ggX9_shutIn_X5_areAllShut : GoodIn wsX9_shutIn wsX5_areAllShut := goodIn_r _ [83, 29, 84, 85, 86, 27, 87, 35, 213, 214, 215, 216, 217, 218, 219, 220] (by decide +kernel) (by decide +kernel)
set_option maxRecDepth 20000 in
theorem gX9_shutIn_X5_areAllShut : GoodIn wsX9_shutIn (wsV RX9 159 RX5 yX5_areAllShut wsX5_areAllShut) := goodIn_app (goodIn_of _ (by decide +kernel)) ggX9_shutIn_X5_areAllShut
set_option maxRecDepth 20000 in
theorem ggX9_shutIn_X6_passHours : GoodIn wsX9_shutIn wsX6_passHours := goodIn_r _ [91, 9, 13, 11, 12, 20, 92, 93, 94, 7, 95, 21, 96, 97, 98, 27, 99, 29, 100, 101, 102, 103, 35, 104, 105, 106, 107, 108, 109, 110, 111, 112, 113, 114, 115, 116, 117, 118, 119, 37, 34, 36, 33, 120, 121, 122, 123, 124, 125, 126, 127, 14, 128, 129, 130, 131, 132, 133, 134, 135, 136, 137, 138, 139, 140, 141, 142, 143, 144, 145, 146, 147, 148, 149, 150, 30, 151, 32, 152, 153, 154, 155, 71, 156, 74, 73, 157, 158, 159, 160, 75, 76, 161, 162, 163, 164, 165, 166, 167, 168, 169, 170, 171, 77, 172, 173, 174, 50, 175, 52, 53, 176, 177, 178, 179, 78, 180, 181, 182, 58, 183, 62, 60, 63, 67, 65, 184, 185, 186, 187, 66, 61, 188, 189, 190, 191, 79, 192, 193, 194, 195, 196, 202, 203, 204, 205, 206, 207, 208, 209, 210, 211, 212, 213, 214, 215, 216, 217, 218, 219, 220, 233, 234, 235, 236, 237, 238, 239, 224, 225, 226, 227, 228, 229, 230, 231, 232] (by decide +kernel) (by decide +kernel)
set_option maxRecDepth 20000 in
theorem gX9_shutIn_X6_passHours : GoodIn wsX9_shutIn (wsV RX9 191 RX6 yX6_passHours wsX6_passHours) := goodIn_app (goodIn_of _ (by decide +kernel)) ggX9_shutIn_X6_passHours
set_option maxRecDepth 20000 in
theorem ggX9_tide_X9_isHourOfDay : GoodIn wsX9_tide wsX9_isHourOfDay := goodIn_r _ [7] (by decide +kernel) (by decide +kernel)
set_option maxRecDepth 20000 in
theorem gX9_tide_X9_isHourOfDay : GoodIn wsX9_tide (va_wsS RX9 142 yX9_isHourOfDay wsX9_isHourOfDay) := goodIn_app (goodIn_of _ (by decide +kernel)) ggX9_tide_X9_isHourOfDay
set_option maxRecDepth 20000 in
theorem ggX9_count_X5_moving : GoodIn wsX9_count wsX5_moving := goodIn_r _ [16, 17, 18, 19, 20, 15, 21, 22, 84, 85, 86, 87, 88, 89, 90, 91] (by decide +kernel) (by decide +kernel)
set_option maxRecDepth 20000 in
theorem gX9_count_X5_moving : GoodIn wsX9_count (wsV RX9 171 RX5 yX5_moving wsX5_moving) := goodIn_app (goodIn_of _ (by decide +kernel)) ggX9_count_X5_moving
set_option maxRecDepth 20000 in
theorem ggX9_count_X5_countIn : GoodIn wsX9_count wsX5_countIn := goodIn_r _ [26, 17, 22, 84, 85, 86, 87, 88, 89, 90, 91] (by decide +kernel) (by decide +kernel)
set_option maxRecDepth 20000 in
theorem gX9_count_X5_countIn : GoodIn wsX9_count (wsV RX9 168 RX5 yX5_countIn wsX5_countIn) := goodIn_app (goodIn_of _ (by decide +kernel)) ggX9_count_X5_countIn
set_option maxRecDepth 20000 in
theorem ggX9_count_X1_weightForClosing : GoodIn wsX9_count wsX1_weightForClosing := goodIn_r _ [31, 32, 33, 34, 92, 93, 94] (by decide +kernel) (by decide +kernel)
set_option maxRecDepth 20000 in
theorem gX9_count_X1_weightForClosing : GoodIn wsX9_count (wsV RX9 153 RX1 yX1_weightForClosing wsX1_weightForClosing) := goodIn_app (goodIn_of _ (by decide +kernel)) ggX9_count_X1_weightForClosing
set_option maxRecDepth 20000 in
theorem ggX9_count_X1_weightOfAll : GoodIn wsX9_count wsX1_weightOfAll := goodIn_r _ [38, 32, 34, 92, 93, 94] (by decide +kernel) (by decide +kernel)
set_option maxRecDepth 20000 in
theorem gX9_count_X1_weightOfAll : GoodIn wsX9_count (wsV RX9 285 RX1 yX1_weightOfAll wsX1_weightOfAll) := goodIn_app (goodIn_of _ (by decide +kernel)) ggX9_count_X1_weightOfAll
set_option maxRecDepth 20000 in
theorem ggX9_count_X9_size : GoodIn wsX9_count wsX9_size := goodIn_r _ [43, 1, 4, 44, 5, 45, 46, 47, 10, 48, 49, 50, 51, 52, 53, 54, 55, 56, 57, 58, 59, 60, 61, 62, 63, 64, 65, 66, 67, 68, 69, 84, 85, 86, 87, 88, 89, 90, 91, 92, 93, 94, 95, 96, 77, 78, 79, 80, 81, 82, 83, 97, 98, 99, 100, 101, 102, 103] (by decide +kernel) (by decide +kernel)
set_option maxRecDepth 20000 in
theorem gX9_count_X9_size : GoodIn wsX9_count (wsV RX9 294 RX9 yX9_size wsX9_size) := goodIn_app (goodIn_of _ (by decide +kernel)) ggX9_count_X9_size
