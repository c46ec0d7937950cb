set_option maxRecDepth 20000 in
theorem ggX10_of_X10_cell : GoodIn wsX10_of wsX10_cell := goodIn_r _ [5, 6, 7, 8, 9, 10, 11, 12, 13, 14, 15, 16, 17, 18, 19, 20] (by decide +kernel) (by decide +kernel)
set_option maxRecDepth 20000 in
theorem gX10_of_X10_cell : GoodIn wsX10_of (wsV RX10 50 RX10 yX10_cell wsX10_cell) := goodIn_app (goodIn_of _ (by decide +kernel)) ggX10_of_X10_cell
set_option maxRecDepth 20000 in
theorem ggX10_ofPump_X10_cell : GoodIn wsX10_ofPump wsX10_cell := goodIn_r _ [5, 6, 7, 8, 9, 10, 11, 12, 13, 14, 15, 16, 17, 18, 19, 20] (by decide +kernel) (by decide +kernel)
set_option maxRecDepth 20000 in
theorem gX10_ofPump_X10_cell : GoodIn wsX10_ofPump (wsV RX10 50 RX10 yX10_cell wsX10_cell) := goodIn_app (goodIn_of _ (by decide +kernel)) ggX10_ofPump_X10_cell
set_option maxRecDepth 20000 in
theorem ggX10_isNone_X10_in : GoodIn wsX10_isNone wsX10_in := goodIn_r _ [5] (by decide +kernel) (by decide +kernel)
set_option maxRecDepth 20000 in
theorem gX10_isNone_X10_in : GoodIn wsX10_isNone (va_wsS RX10 54 yX10_in wsX10_in) := goodIn_app (goodIn_of _ (by decide +kernel)) ggX10_isNone_X10_in
set_option maxRecDepth 20000 in
theorem ggX10_addSection_X10_in : GoodIn wsX10_addSection wsX10_in := goodIn_r _ [15] (by decide +kernel) (by decide +kernel)
set_option maxRecDepth 20000 in
theorem gX10_addSection_X10_in : GoodIn wsX10_addSection (va_wsS RX10 54 yX10_in wsX10_in) := goodIn_app (goodIn_of _ (by decide +kernel)) ggX10_addSection_X10_in
set_option maxRecDepth 20000 in
theorem ggX10_addSection_X10_isLevel : GoodIn wsX10_addSection wsX10_isLevel := goodIn_r _ [18, 19, 20, 8, 9, 10, 11] (by decide +kernel) (by decide +kernel)
set_option maxRecDepth 20000 in
theorem gX10_addSection_X10_isLevel : GoodIn wsX10_addSection (va_wsS RX10 72 yX10_isLevel wsX10_isLevel) := goodIn_app (goodIn_of _ (by decide +kernel)) ggX10_addSection_X10_isLevel
set_option maxRecDepth 20000 in
theorem ggX10_addSection_X10_record : GoodIn wsX10_addSection wsX10_record := goodIn_r _ [24, 25, 26, 27, 5, 7, 36, 37, 38, 39, 40, 41, 42, 43, 44, 45, 46, 47, 48, 49] (by decide +kernel) (by decide +kernel)
set_option maxRecDepth 20000 in
theorem gX10_addSection_X10_record : GoodIn wsX10_addSection (wsV RX10 82 RX10 yX10_record wsX10_record) := goodIn_app (goodIn_of _ (by decide +kernel)) ggX10_addSection_X10_record
set_option maxRecDepth 20000 in
theorem ggX10_addSection_X10_cell : GoodIn wsX10_addSection wsX10_cell := goodIn_r _ [31, 5, 36, 37, 38, 39, 40, 41, 42, 43, 44, 45, 46, 47, 48, 49] (by decide +kernel) (by decide +kernel)
set_option maxRecDepth 20000 in
theorem gX10_addSection_X10_cell : GoodIn wsX10_addSection (wsV RX10 50 RX10 yX10_cell wsX10_cell) := goodIn_app (goodIn_of _ (by decide +kernel)) ggX10_addSection_X10_cell
set_option maxRecDepth 20000 in
theorem ggX10_addSection_X10_to : GoodIn wsX10_addSection wsX10_to := goodIn_r _ [35, 5, 36, 37, 38, 39, 40, 41, 42, 43, 44, 45, 46, 47, 48, 49] (by decide +kernel) (by decide +kernel)
set_option maxRecDepth 20000 in
theorem gX10_addSection_X10_to : GoodIn wsX10_addSection (wsV RX10 85 RX10 yX10_to wsX10_to) := goodIn_app (goodIn_of _ (by decide +kernel)) ggX10_addSection_X10_to
set_option maxRecDepth 20000 in
theorem ggX10_addDistrict_X10_in : GoodIn wsX10_addDistrict wsX10_in := goodIn_r _ [7] (by decide +kernel) (by decide +kernel)
set_option maxRecDepth 20000 in
theorem gX10_addDistrict_X10_in : GoodIn wsX10_addDistrict (va_wsS RX10 54 yX10_in wsX10_in) := goodIn_app (goodIn_of _ (by decide +kernel)) ggX10_addDistrict_X10_in
set_option maxRecDepth 20000 in
theorem ggX10_addDistrict_X10_record : GoodIn wsX10_addDistrict wsX10_record := goodIn_r _ [11, 12, 13, 14, 2, 15, 20, 21, 22, 23, 24, 25, 26, 27, 28, 29, 30, 31, 32, 33] (by decide +kernel) (by decide +kernel)
set_option maxRecDepth 20000 in
theorem gX10_addDistrict_X10_record : GoodIn wsX10_addDistrict (wsV RX10 82 RX10 yX10_record wsX10_record) := goodIn_app (goodIn_of _ (by decide +kernel)) ggX10_addDistrict_X10_record
set_option maxRecDepth 20000 in
theorem ggX10_addDistrict_X10_cell : GoodIn wsX10_addDistrict wsX10_cell := goodIn_r _ [19, 2, 20, 21, 22, 23, 24, 25, 26, 27, 28, 29, 30, 31, 32, 33] (by decide +kernel) (by decide +kernel)
set_option maxRecDepth 20000 in
theorem gX10_addDistrict_X10_cell : GoodIn wsX10_addDistrict (wsV RX10 50 RX10 yX10_cell wsX10_cell) := goodIn_app (goodIn_of _ (by decide +kernel)) ggX10_addDistrict_X10_cell
set_option maxRecDepth 20000 in
theorem ggX10_addStream_X10_in : GoodIn wsX10_addStream wsX10_in := goodIn_r _ [7] (by decide +kernel) (by decide +kernel)
set_option maxRecDepth 20000 in
theorem gX10_addStream_X10_in : GoodIn wsX10_addStream (va_wsS RX10 54 yX10_in wsX10_in) := goodIn_app (goodIn_of _ (by decide +kernel)) ggX10_addStream_X10_in
set_option maxRecDepth 20000 in
theorem ggX10_addStream_X10_record : GoodIn wsX10_addStream wsX10_record := goodIn_r _ [11, 12, 13, 14, 2, 15, 20, 21, 22, 23, 24, 25, 26, 27, 28, 29, 30, 31, 32, 33] (by decide +kernel) (by decide +kernel)
set_option maxRecDepth 20000 in
theorem gX10_addStream_X10_record : GoodIn wsX10_addStream (wsV RX10 82 RX10 yX10_record wsX10_record) := goodIn_app (goodIn_of _ (by decide +kernel)) ggX10_addStream_X10_record
set_option maxRecDepth 20000 in
theorem ggX10_addStream_X10_cell : GoodIn wsX10_addStream wsX10_cell := goodIn_r _ [19, 2, 20, 21, 22, 23, 24, 25, 26, 27, 28, 29, 30, 31, 32, 33] (by decide +kernel) (by decide +kernel)
set_option maxRecDepth 20000 in
theorem gX10_addStream_X10_cell : GoodIn wsX10_addStream (wsV RX10 50 RX10 yX10_cell wsX10_cell) := goodIn_app (goodIn_of _ (by decide +kernel)) ggX10_addStream_X10_cell
set_option maxRecDepth 20000 in
theorem ggX10_addPump_X10_in : GoodIn wsX10_addPump wsX10_in := goodIn_r _ [8] (by decide +kernel) (by decide +kernel)
set_option maxRecDepth 20000 in
theorem gX10_addPump_X10_in : GoodIn wsX10_addPump (va_wsS RX10 54 yX10_in wsX10_in) := goodIn_app (goodIn_of _ (by decide +kernel)) ggX10_addPump_X10_in
set_option maxRecDepth 20000 in
theorem ggX10_addPump_X10_record : GoodIn wsX10_addPump wsX10_record := goodIn_r _ [12, 13, 14, 15, 3, 16, 21, 22, 23, 24, 25, 26, 27, 28, 29, 30, 31, 32, 33, 34] (by decide +kernel) (by decide +kernel)
set_option maxRecDepth 20000 in
theorem gX10_addPump_X10_record : GoodIn wsX10_addPump (wsV RX10 82 RX10 yX10_record wsX10_record) := goodIn_app (goodIn_of _ (by decide +kernel)) ggX10_addPump_X10_record
set_option maxRecDepth 20000 in
theorem ggX10_addPump_X10_cell : GoodIn wsX10_addPump wsX10_cell := goodIn_r _ [20, 3, 21, 22, 23, 24, 25, 26, 27, 28, 29, 30, 31, 32, 33, 34] (by decide +kernel) (by decide +kernel)
set_option maxRecDepth 20000 in
theorem gX10_addPump_X10_cell : GoodIn wsX10_addPump (wsV RX10 50 RX10 yX10_cell wsX10_cell) := goodIn_app (goodIn_of _ (by decide +kernel)) ggX10_addPump_X10_cell
set_option maxRecDepth 20000 in
theorem ggX10_sets_X10_cell : GoodIn wsX10_sets wsX10_cell := goodIn_r _ [6, 1, 15, 16, 17, 18, 19, 20, 21, 22, 23, 24, 25, 26, 27, 28] (by decide +kernel) (by decide +kernel)
set_option maxRecDepth 20000 in
theorem gX10_sets_X10_cell : GoodIn wsX10_sets (wsV RX10 50 RX10 yX10_cell wsX10_cell) := goodIn_app (goodIn_of _ (by decide +kernel)) ggX10_sets_X10_cell
set_option maxRecDepth 20000 in
theorem ggX10_sets_X10_record : GoodIn wsX10_sets wsX10_record := goodIn_r _ [10, 11, 12, 13, 1, 14, 15, 16, 17, 18, 19, 20, 21, 22, 23, 24, 25, 26, 27, 28] (by decide +kernel) (by decide +kernel)
set_option maxRecDepth 20000 in
theorem gX10_sets_X10_record : GoodIn wsX10_sets (wsV RX10 82 RX10 yX10_record wsX10_record) := goodIn_app (goodIn_of _ (by decide +kernel)) ggX10_sets_X10_record
set_option maxRecDepth 20000 in
theorem ggX10_setStream_X10_isNone : GoodIn wsX10_setStream wsX10_isNone := goodIn_r _ [6, 7, 8, 9, 5, 10, 27, 28, 29, 30, 31, 32, 33, 34, 35, 36, 37, 38, 39, 40] (by decide +kernel) (by decide +kernel)
set_option maxRecDepth 20000 in
theorem gX10_setStream_X10_isNone : GoodIn wsX10_setStream (wsV RX10 95 RX10 yX10_isNone wsX10_isNone) := goodIn_app (goodIn_of _ (by decide +kernel)) ggX10_setStream_X10_isNone
set_option maxRecDepth 20000 in
theorem ggX10_setStream_X10_in : GoodIn wsX10_setStream wsX10_in := goodIn_r _ [10] (by decide +kernel) (by decide +kernel)
set_option maxRecDepth 20000 in
theorem gX10_setStream_X10_in : GoodIn wsX10_setStream (va_wsS RX10 54 yX10_in wsX10_in) := goodIn_app (goodIn_of _ (by decide +kernel)) ggX10_setStream_X10_in
set_option maxRecDepth 20000 in
theorem ggX10_setStream_X10_sets : GoodIn wsX10_setStream wsX10_sets := goodIn_r _ [14, 7, 15, 16, 17, 5, 18, 19, 20, 21, 22, 23, 24, 25, 26, 27, 28, 29, 30, 31, 32, 33, 34, 35, 36, 37, 38, 39, 40] (by decide +kernel) (by decide +kernel)
set_option maxRecDepth 20000 in
theorem gX10_setStream_X10_sets : GoodIn wsX10_setStream (wsV RX10 99 RX10 yX10_sets wsX10_sets) := goodIn_app (goodIn_of _ (by decide +kernel)) ggX10_setStream_X10_sets
set_option maxRecDepth 20000 in
theorem ggX10_pumpsOn_X10_ofPump : GoodIn wsX10_pumpsOn wsX10_ofPump := goodIn_r _ [6, 7, 8, 9, 5, 10, 1, 11, 12, 13, 14, 15, 16, 17, 18, 19, 20, 21, 22, 23, 24] (by decide +kernel) (by decide +kernel)
set_option maxRecDepth 20000 in
theorem gX10_pumpsOn_X10_ofPump : GoodIn wsX10_pumpsOn (wsV RX10 103 RX10 yX10_ofPump wsX10_ofPump) := goodIn_app (goodIn_of _ (by decide +kernel)) ggX10_pumpsOn_X10_ofPump
set_option maxRecDepth 20000 in
theorem ggX10_switchPump_X10_isNone : GoodIn wsX10_switchPump wsX10_isNone := goodIn_r _ [5, 6, 7, 8, 4, 9, 34, 35, 36, 37, 38, 39, 40, 41, 42, 43, 44, 45, 46, 47] (by decide +kernel) (by decide +kernel)
set_option maxRecDepth 20000 in
theorem gX10_switchPump_X10_isNone : GoodIn wsX10_switchPump (wsV RX10 95 RX10 yX10_isNone wsX10_isNone) := goodIn_app (goodIn_of _ (by decide +kernel)) ggX10_switchPump_X10_isNone
set_option maxRecDepth 20000 in
theorem ggX10_switchPump_X10_sets : GoodIn wsX10_switchPump wsX10_sets := goodIn_r _ [13, 6, 14, 15, 16, 4, 17, 18, 19, 20, 21, 22, 23, 24, 25, 34, 35, 36, 37, 38, 39, 40, 41, 42, 43, 44, 45, 46, 47] (by decide +kernel) (by decide +kernel)
set_option maxRecDepth 20000 in
theorem gX10_switchPump_X10_sets : GoodIn wsX10_switchPump (wsV RX10 99 RX10 yX10_sets wsX10_sets) := goodIn_app (goodIn_of _ (by decide +kernel)) ggX10_switchPump_X10_sets
set_option maxRecDepth 20000 in
theorem ggX10_switchPump_X10_pumpsOn : GoodIn wsX10_switchPump wsX10_pumpsOn := goodIn_r _ [29, 6, 30, 31, 32, 4, 33, 14, 15, 16, 17, 34, 35, 36, 37, 38, 39, 40, 41, 42, 43, 44, 45, 46, 47] (by decide +kernel) (by decide +kernel)
set_option maxRecDepth 20000 in
theorem gX10_switchPump_X10_pumpsOn : GoodIn wsX10_switchPump (wsV RX10 106 RX10 yX10_pumpsOn wsX10_pumpsOn) := goodIn_app (goodIn_of _ (by decide +kernel)) ggX10_switchPump_X10_pumpsOn
set_option maxRecDepth 20000 in
theorem ggX10_set_X10_in : GoodIn wsX10_set wsX10_in := goodIn_r _ [7] (by decide +kernel) (by decide +kernel)
set_option maxRecDepth 20000 in
theorem gX10_set_X10_in : GoodIn wsX10_set (va_wsS RX10 54 yX10_in wsX10_in) := goodIn_app (goodIn_of _ (by decide +kernel)) ggX10_set_X10_in
set_option maxRecDepth 20000 in
theorem ggX10_set_X10_sets : GoodIn wsX10_set wsX10_sets := goodIn_r _ [11, 12, 13, 14, 15, 6, 16, 17, 18, 19, 20, 21, 22, 23, 24, 25, 26, 27, 28, 29, 30, 31, 32, 33, 34, 35, 36, 37, 38] (by decide +kernel) (by decide +kernel)
set_option maxRecDepth 20000 in
theorem gX10_set_X10_sets : GoodIn wsX10_set (wsV RX10 99 RX10 yX10_sets wsX10_sets) := goodIn_app (goodIn_of _ (by decide +kernel)) ggX10_set_X10_sets
set_option maxRecDepth 20000 in
theorem ggX10_setsLevel_X10_isLevel : GoodIn wsX10_setsLevel wsX10_isLevel := goodIn_r _ [11, 12, 13, 3, 4, 5, 6] (by decide +kernel) (by decide +kernel)
set_option maxRecDepth 20000 in
theorem gX10_setsLevel_X10_isLevel : GoodIn wsX10_setsLevel (va_wsS RX10 72 yX10_isLevel wsX10_isLevel) := goodIn_app (goodIn_of _ (by decide +kernel)) ggX10_setsLevel_X10_isLevel
set_option maxRecDepth 20000 in
theorem ggX10_setsLevel_X10_record : GoodIn wsX10_setsLevel wsX10_record := goodIn_r _ [17, 18, 19, 20, 21, 7, 22, 23, 24, 25, 26, 27, 28, 29, 30, 31, 32, 33, 34, 35] (by decide +kernel) (by decide +kernel)
set_option maxRecDepth 20000 in
theorem gX10_setsLevel_X10_record : GoodIn wsX10_setsLevel (wsV RX10 82 RX10 yX10_record wsX10_record) := goodIn_app (goodIn_of _ (by decide +kernel)) ggX10_setsLevel_X10_record
set_option maxRecDepth 20000 in
theorem ggX10_setAlarm_X10_setsLevel : GoodIn wsX10_setAlarm wsX10_setsLevel := goodIn_r _ [5, 6, 7, 8, 9, 10, 11, 12, 13, 14, 4, 15, 16, 17, 18, 19, 20, 21, 22, 23, 24, 25, 26, 27, 28, 29, 30, 31, 32, 33, 34, 35, 36, 37, 38, 39] (by decide +kernel) (by decide +kernel)
set_option maxRecDepth 20000 in
theorem gX10_setAlarm_X10_setsLevel : GoodIn wsX10_setAlarm (wsV RX10 118 RX10 yX10_setsLevel wsX10_setsLevel) := goodIn_app (goodIn_of _ (by decide +kernel)) ggX10_setAlarm_X10_setsLevel
set_option maxRecDepth 20000 in
theorem ggX10_setTide_X10_in : GoodIn wsX10_setTide wsX10_in := goodIn_r _ [5] (by decide +kernel) (by decide +kernel)
set_option maxRecDepth 20000 in
theorem gX10_setTide_X10_in : GoodIn wsX10_setTide (va_wsS RX10 54 yX10_in wsX10_in) := goodIn_app (goodIn_of _ (by decide +kernel)) ggX10_setTide_X10_in
set_option maxRecDepth 20000 in
theorem ggX10_setTide_X10_setsLevel : GoodIn wsX10_setTide wsX10_setsLevel := goodIn_r _ [9, 10, 11, 12, 13, 14, 15, 16, 17, 18, 4, 19, 20, 21, 22, 23, 24, 25, 26, 27, 28, 29, 30, 31, 32, 33, 34, 35, 36, 37, 38, 39, 40, 41, 42, 43] (by decide +kernel) (by decide +kernel)
set_option maxRecDepth 20000 in
theorem gX10_setTide_X10_setsLevel : GoodIn wsX10_setTide (wsV RX10 118 RX10 yX10_setsLevel wsX10_setsLevel) := goodIn_app (goodIn_of _ (by decide +kernel)) ggX10_setTide_X10_setsLevel
set_option maxRecDepth 20000 in
theorem ggX10_weights_X10_cell : GoodIn wsX10_weights wsX10_cell := goodIn_r _ [6, 1, 7, 8, 9, 10, 11, 12, 13, 14, 15, 16, 17, 18, 19, 20] (by decide +kernel) (by decide +kernel)
set_option maxRecDepth 20000 in
theorem gX10_weights_X10_cell : GoodIn wsX10_weights (wsV RX10 50 RX10 yX10_cell wsX10_cell) := goodIn_app (goodIn_of _ (by decide +kernel)) ggX10_weights_X10_cell
set_option maxRecDepth 20000 in
theorem ggX10_vote_X10_isNone : GoodIn wsX10_vote wsX10_isNone := goodIn_r _ [5, 6, 7, 8, 4, 9, 30, 31, 32, 33, 34, 35, 36, 37, 38, 39, 40, 41, 42, 43] (by decide +kernel) (by decide +kernel)
set_option maxRecDepth 20000 in
theorem gX10_vote_X10_isNone : GoodIn wsX10_vote (wsV RX10 95 RX10 yX10_isNone wsX10_isNone) := goodIn_app (goodIn_of _ (by decide +kernel)) ggX10_vote_X10_isNone
set_option maxRecDepth 20000 in
theorem ggX10_vote_X10_sets : GoodIn wsX10_vote wsX10_sets := goodIn_r _ [13, 6, 14, 15, 16, 4, 17, 18, 19, 20, 21, 22, 23, 24, 25, 30, 31, 32, 33, 34, 35, 36, 37, 38, 39, 40, 41, 42, 43] (by decide +kernel) (by decide +kernel)
set_option maxRecDepth 20000 in
theorem gX10_vote_X10_sets : GoodIn wsX10_vote (wsV RX10 99 RX10 yX10_sets wsX10_sets) := goodIn_app (goodIn_of _ (by decide +kernel)) ggX10_vote_X10_sets
set_option maxRecDepth 20000 in
theorem ggX10_vote_X10_weights : GoodIn wsX10_vote wsX10_weights := goodIn_r _ [29, 6, 14, 15, 16, 4, 17, 30, 31, 32, 33, 34, 35, 36, 37, 38, 39, 40, 41, 42, 43] (by decide +kernel) (by decide +kernel)
set_option maxRecDepth 20000 in
theorem gX10_vote_X10_weights : GoodIn wsX10_vote (wsV RX10 124 RX10 yX10_weights wsX10_weights) := goodIn_app (goodIn_of _ (by decide +kernel)) ggX10_vote_X10_weights
set_option maxRecDepth 20000 in
theorem ggX10_inState_X10_of : GoodIn wsX10_inState wsX10_of := goodIn_r _ [6, 7, 8, 9, 5, 10, 1, 11, 12, 13, 14, 15, 16, 17, 18, 19, 20, 21, 22, 23, 24] (by decide +kernel) (by decide +kernel)
set_option maxRecDepth 20000 in
theorem gX10_inState_X10_of : GoodIn wsX10_inState (wsV RX10 128 RX10 yX10_of wsX10_of) := goodIn_app (goodIn_of _ (by decide +kernel)) ggX10_inState_X10_of
set_option maxRecDepth 20000 in
theorem ggX10_outer_X10_cell : GoodIn wsX10_outer wsX10_cell := goodIn_r _ [6, 7, 8, 9, 10, 11, 12, 13, 14, 15, 16, 17, 18, 19, 20, 21] (by decide +kernel) (by decide +kernel)
set_option maxRecDepth 20000 in
theorem gX10_outer_X10_cell : GoodIn wsX10_outer (wsV RX10 50 RX10 yX10_cell wsX10_cell) := goodIn_app (goodIn_of _ (by decide +kernel)) ggX10_outer_X10_cell
set_option maxRecDepth 20000 in
theorem ggX10_isShut_X10_inState : GoodIn wsX10_isShut wsX10_inState := goodIn_r _ [5, 6, 7, 8, 9, 4, 10, 11, 12, 13, 14, 15, 16, 17, 18, 19, 20, 21, 22, 23, 24, 25, 26, 27, 28] (by decide +kernel) (by decide +kernel)
set_option maxRecDepth 20000 in
theorem gX10_isShut_X10_inState : GoodIn wsX10_isShut (wsV RX10 131 RX10 yX10_inState wsX10_inState) := goodIn_app (goodIn_of _ (by decide +kernel)) ggX10_isShut_X10_inState
set_option maxRecDepth 20000 in
theorem ggX10_close_X10_weights : GoodIn wsX10_close wsX10_weights := goodIn_r _ [7, 1, 8, 9, 10, 6, 11, 35, 36, 37, 38, 39, 40, 41, 42, 43, 44, 45, 46, 47, 48] (by decide +kernel) (by decide +kernel)
set_option maxRecDepth 20000 in
theorem gX10_close_X10_weights : GoodIn wsX10_close (wsV RX10 124 RX10 yX10_weights wsX10_weights) := goodIn_app (goodIn_of _ (by decide +kernel)) ggX10_close_X10_weights
set_option maxRecDepth 20000 in
theorem ggX10_close_X10_isShut : GoodIn wsX10_close wsX10_isShut := goodIn_r _ [15, 16, 17, 18, 6, 19, 1, 20, 21, 22, 23, 8, 9, 10, 11, 35, 36, 37, 38, 39, 40, 41, 42, 43, 44, 45, 46, 47, 48] (by decide +kernel) (by decide +kernel)
set_option maxRecDepth 20000 in
theorem gX10_close_X10_isShut : GoodIn wsX10_close (wsV RX10 134 RX10 yX10_isShut wsX10_isShut) := goodIn_app (goodIn_of _ (by decide +kernel)) ggX10_close_X10_isShut
set_option maxRecDepth 20000 in
theorem ggX10_close_X10_record : GoodIn wsX10_close wsX10_record := goodIn_r _ [27, 28, 29, 30, 1, 2, 35, 36, 37, 38, 39, 40, 41, 42, 43, 44, 45, 46, 47, 48] (by decide +kernel) (by decide +kernel)
set_option maxRecDepth 20000 in
theorem gX10_close_X10_record : GoodIn wsX10_close (wsV RX10 82 RX10 yX10_record wsX10_record) := goodIn_app (goodIn_of _ (by decide +kernel)) ggX10_close_X10_record
set_option maxRecDepth 20000 in
theorem ggX10_close_X10_outer : GoodIn wsX10_close wsX10_outer := goodIn_r _ [34, 2, 8, 9, 10, 6, 11, 1, 35, 36, 37, 38, 39, 40, 41, 42, 43, 44, 45, 46, 47, 48] (by decide +kernel) (by decide +kernel)
set_option maxRecDepth 20000 in
theorem gX10_close_X10_outer : GoodIn wsX10_close (wsV RX10 138 RX10 yX10_outer wsX10_outer) := goodIn_app (goodIn_of _ (by decide +kernel)) ggX10_close_X10_outer
set_option maxRecDepth 20000 in
theorem ggX10_open_X10_inState : GoodIn wsX10_open wsX10_inState := goodIn_r _ [7, 1, 8, 9, 10, 6, 11, 12, 13, 14, 15, 24, 25, 26, 27, 28, 29, 30, 31, 32, 33, 34, 35, 36, 37] (by decide +kernel) (by decide +kernel)
set_option maxRecDepth 20000 in
theorem gX10_open_X10_inState : GoodIn wsX10_open (wsV RX10 131 RX10 yX10_inState wsX10_inState) := goodIn_app (goodIn_of _ (by decide +kernel)) ggX10_open_X10_inState
set_option maxRecDepth 20000 in
theorem ggX10_open_X10_record : GoodIn wsX10_open wsX10_record := goodIn_r _ [19, 20, 21, 22, 1, 23, 24, 25, 26, 27, 28, 29, 30, 31, 32, 33, 34, 35, 36, 37] (by decide +kernel) (by decide +kernel)
set_option maxRecDepth 20000 in
theorem gX10_open_X10_record : GoodIn wsX10_open (wsV RX10 82 RX10 yX10_record wsX10_record) := goodIn_app (goodIn_of _ (by decide +kernel)) ggX10_open_X10_record
set_option maxRecDepth 20000 in
theorem ggX10_service_X10_isNone : GoodIn wsX10_service wsX10_isNone := goodIn_r _ [5, 6, 7, 8, 4, 9, 30, 31, 32, 33, 34, 35, 36, 37, 38, 39, 40, 41, 42, 43] (by decide +kernel) (by decide +kernel)
set_option maxRecDepth 20000 in
theorem gX10_service_X10_isNone : GoodIn wsX10_service (wsV RX10 95 RX10 yX10_isNone wsX10_isNone) := goodIn_app (goodIn_of _ (by decide +kernel)) ggX10_service_X10_isNone
set_option maxRecDepth 20000 in
theorem ggX10_service_X10_of : GoodIn wsX10_service wsX10_of := goodIn_r _ [13, 14, 15, 16, 4, 17, 6, 30, 31, 32, 33, 34, 35, 36, 37, 38, 39, 40, 41, 42, 43] (by decide +kernel) (by decide +kernel)
set_option maxRecDepth 20000 in
theorem gX10_service_X10_of : GoodIn wsX10_service (wsV RX10 128 RX10 yX10_of wsX10_of) := goodIn_app (goodIn_of _ (by decide +kernel)) ggX10_service_X10_of
set_option maxRecDepth 20000 in
theorem ggX10_service_X10_record : GoodIn wsX10_service wsX10_record := goodIn_r _ [21, 22, 23, 24, 6, 25, 30, 31, 32, 33, 34, 35, 36, 37, 38, 39, 40, 41, 42, 43] (by decide +kernel) (by decide +kernel)
set_option maxRecDepth 20000 in
theorem gX10_service_X10_record : GoodIn wsX10_service (wsV RX10 82 RX10 yX10_record wsX10_record) := goodIn_app (goodIn_of _ (by decide +kernel)) ggX10_service_X10_record
set_option maxRecDepth 20000 in
theorem ggX10_service_X10_to : GoodIn wsX10_service wsX10_to := goodIn_r _ [29, 6, 30, 31, 32, 33, 34, 35, 36, 37, 38, 39, 40, 41, 42, 43] (by decide +kernel) (by decide +kernel)
set_option maxRecDepth 20000 in
theorem gX10_service_X10_to : GoodIn wsX10_service (wsV RX10 85 RX10 yX10_to wsX10_to) := goodIn_app (goodIn_of _ (by decide +kernel)) ggX10_service_X10_to
set_option maxRecDepth 20000 in
theorem ggX10_moves_X10_to : GoodIn wsX10_moves wsX10_to := goodIn_r _ [6, 1, 15, 16, 17, 18, 19, 20, 21, 22, 23, 24, 25, 26, 27, 28] (by decide +kernel) (by decide +kernel)
set_option maxRecDepth 20000 in
theorem gX10_moves_X10_to : GoodIn wsX10_moves (wsV RX10 85 RX10 yX10_to wsX10_to) := goodIn_app (goodIn_of _ (by decide +kernel)) ggX10_moves_X10_to
set_option maxRecDepth 20000 in
theorem ggX10_moves_X10_of : GoodIn wsX10_moves wsX10_of := goodIn_r _ [10, 11, 12, 13, 5, 14, 1, 15, 16, 17, 18, 19, 20, 21, 22, 23, 24, 25, 26, 27, 28] (by decide +kernel) (by decide +kernel)
set_option maxRecDepth 20000 in
theorem gX10_moves_X10_of : GoodIn wsX10_moves (wsV RX10 128 RX10 yX10_of wsX10_of) := goodIn_app (goodIn_of _ (by decide +kernel)) ggX10_moves_X10_of
set_option maxRecDepth 20000 in
theorem ggX10_follow_X10_cell : GoodIn wsX10_follow wsX10_cell := goodIn_r _ [6, 1, 19, 20, 21, 22, 23, 24, 25, 26, 27, 28, 29, 30, 31, 32] (by decide +kernel) (by decide +kernel)
set_option maxRecDepth 20000 in
theorem gX10_follow_X10_cell : GoodIn wsX10_follow (wsV RX10 50 RX10 yX10_cell wsX10_cell) := goodIn_app (goodIn_of _ (by decide +kernel)) ggX10_follow_X10_cell
set_option maxRecDepth 20000 in
theorem ggX10_follow_X10_of : GoodIn wsX10_follow wsX10_of := goodIn_r _ [10, 2, 3, 4, 5, 6, 1, 19, 20, 21, 22, 23, 24, 25, 26, 27, 28, 29, 30, 31, 32] (by decide +kernel) (by decide +kernel)
set_option maxRecDepth 20000 in
theorem gX10_follow_X10_of : GoodIn wsX10_follow (wsV RX10 128 RX10 yX10_of wsX10_of) := goodIn_app (goodIn_of _ (by decide +kernel)) ggX10_follow_X10_of
set_option maxRecDepth 20000 in
theorem ggX10_follow_X10_to : GoodIn wsX10_follow wsX10_to := goodIn_r _ [14, 1, 19, 20, 21, 22, 23, 24, 25, 26, 27, 28, 29, 30, 31, 32] (by decide +kernel) (by decide +kernel)
set_option maxRecDepth 20000 in
theorem gX10_follow_X10_to : GoodIn wsX10_follow (wsV RX10 85 RX10 yX10_to wsX10_to) := goodIn_app (goodIn_of _ (by decide +kernel)) ggX10_follow_X10_to
set_option maxRecDepth 20000 in
theorem ggX10_follow_X10_moves : GoodIn wsX10_follow wsX10_moves := goodIn_r _ [18, 1, 11, 12, 13, 5, 14, 7, 8, 9, 10, 2, 3, 4, 6, 19, 20, 21, 22, 23, 24, 25, 26, 27, 28, 29, 30, 31, 32] (by decide +kernel) (by decide +kernel)
set_option maxRecDepth 20000 in
theorem gX10_follow_X10_moves : GoodIn wsX10_follow (wsV RX10 144 RX10 yX10_moves wsX10_moves) := goodIn_app (goodIn_of _ (by decide +kernel)) ggX10_follow_X10_moves
set_option maxRecDepth 20000 in
theorem ggX10_flow_X10_outer : GoodIn wsX10_flow wsX10_outer := goodIn_r _ [9, 3, 10, 11, 12, 8, 13, 1, 30, 31, 32, 33, 34, 35, 36, 37, 38, 39, 40, 41, 42, 43] (by decide +kernel) (by decide +kernel)
set_option maxRecDepth 20000 in
theorem gX10_flow_X10_outer : GoodIn wsX10_flow (wsV RX10 138 RX10 yX10_outer wsX10_outer) := goodIn_app (goodIn_of _ (by decide +kernel)) ggX10_flow_X10_outer
set_option maxRecDepth 20000 in
theorem ggX10_flow_X10_inner : GoodIn wsX10_flow wsX10_inner := goodIn_r _ [17, 1, 30, 31, 32, 33, 34, 35, 36, 37, 38, 39, 40, 41, 42, 43] (by decide +kernel) (by decide +kernel)
set_option maxRecDepth 20000 in
theorem gX10_flow_X10_inner : GoodIn wsX10_flow (wsV RX10 148 RX10 yX10_inner wsX10_inner) := goodIn_app (goodIn_of _ (by decide +kernel)) ggX10_flow_X10_inner
set_option maxRecDepth 20000 in
theorem ggX10_flow_X10_of : GoodIn wsX10_flow wsX10_of := goodIn_r _ [21, 10, 11, 12, 8, 13, 1, 30, 31, 32, 33, 34, 35, 36, 37, 38, 39, 40, 41, 42, 43] (by decide +kernel) (by decide +kernel)
set_option maxRecDepth 20000 in
theorem gX10_flow_X10_of : GoodIn wsX10_flow (wsV RX10 128 RX10 yX10_of wsX10_of) := goodIn_app (goodIn_of _ (by decide +kernel)) ggX10_flow_X10_of
set_option maxRecDepth 20000 in
theorem ggX10_flow_X10_flowsIn : GoodIn wsX10_flow wsX10_flowsIn := goodIn_r _ [25, 1, 30, 31, 32, 33, 34, 35, 36, 37, 38, 39, 40, 41, 42, 43] (by decide +kernel) (by decide +kernel)
set_option maxRecDepth 20000 in
theorem gX10_flow_X10_flowsIn : GoodIn wsX10_flow (wsV RX10 153 RX10 yX10_flowsIn wsX10_flowsIn) := goodIn_app (goodIn_of _ (by decide +kernel)) ggX10_flow_X10_flowsIn
set_option maxRecDepth 20000 in
theorem ggX10_flow_X10_flowsOut : GoodIn wsX10_flow wsX10_flowsOut := goodIn_r _ [29, 1, 30, 31, 32, 33, 34, 35, 36, 37, 38, 39, 40, 41, 42, 43] (by decide +kernel) (by decide +kernel)
set_option maxRecDepth 20000 in
theorem gX10_flow_X10_flowsOut : GoodIn wsX10_flow (wsV RX10 157 RX10 yX10_flowsOut wsX10_flowsOut) := goodIn_app (goodIn_of _ (by decide +kernel)) ggX10_flow_X10_flowsOut
set_option maxRecDepth 20000 in
theorem ggX10_runs_X10_ofPump : GoodIn wsX10_runs wsX10_ofPump := goodIn_r _ [6, 7, 8, 9, 5, 10, 1, 11, 12, 13, 14, 15, 16, 17, 18, 19, 20, 21, 22, 23, 24] (by decide +kernel) (by decide +kernel)
set_option maxRecDepth 20000 in
theorem gX10_runs_X10_ofPump : GoodIn wsX10_runs (wsV RX10 103 RX10 yX10_ofPump wsX10_ofPump) := goodIn_app (goodIn_of _ (by decide +kernel)) ggX10_runs_X10_ofPump
set_option maxRecDepth 20000 in
theorem ggX10_pumps_X10_runs : GoodIn wsX10_pumps wsX10_runs := goodIn_r _ [6, 1, 7, 8, 9, 5, 10, 11, 12, 13, 14, 19, 20, 21, 22, 23, 24, 25, 26, 27, 28, 29, 30, 31, 32] (by decide +kernel) (by decide +kernel)
set_option maxRecDepth 20000 in
theorem gX10_pumps_X10_runs : GoodIn wsX10_pumps (wsV RX10 162 RX10 yX10_runs wsX10_runs) := goodIn_app (goodIn_of _ (by decide +kernel)) ggX10_pumps_X10_runs
set_option maxRecDepth 20000 in
theorem ggX10_pumps_X10_ofPump : GoodIn wsX10_pumps wsX10_ofPump := goodIn_r _ [10, 11, 12, 13, 5, 14, 1, 19, 20, 21, 22, 23, 24, 25, 26, 27, 28, 29, 30, 31, 32] (by decide +kernel) (by decide +kernel)
set_option maxRecDepth 20000 in
theorem gX10_pumps_X10_ofPump : GoodIn wsX10_pumps (wsV RX10 103 RX10 yX10_ofPump wsX10_ofPump) := goodIn_app (goodIn_of _ (by decide +kernel)) ggX10_pumps_X10_ofPump
set_option maxRecDepth 20000 in
theorem ggX10_pumps_X10_flowsOut : GoodIn wsX10_pumps wsX10_flowsOut := goodIn_r _ [18, 1, 19, 20, 21, 22, 23, 24, 25, 26, 27, 28, 29, 30, 31, 32] (by decide +kernel) (by decide +kernel)
set_option maxRecDepth 20000 in
theorem gX10_pumps_X10_flowsOut : GoodIn wsX10_pumps (wsV RX10 157 RX10 yX10_flowsOut wsX10_flowsOut) := goodIn_app (goodIn_of _ (by decide +kernel)) ggX10_pumps_X10_flowsOut
set_option maxRecDepth 20000 in
theorem ggX10_goesOn_X10_follow : GoodIn wsX10_goesOn wsX10_follow := goodIn_r _ [6, 1, 7, 8, 9, 5, 10, 11, 12, 13, 14, 15, 16, 17, 18, 19, 20, 21, 22, 58, 59, 60, 61, 62, 63, 64, 65, 66, 67, 68, 69, 70, 71] (by decide +kernel) (by decide +kernel)
set_option maxRecDepth 20000 in
theorem gX10_goesOn_X10_follow : GoodIn wsX10_goesOn (wsV RX10 166 RX10 yX10_follow wsX10_follow) := goodIn_app (goodIn_of _ (by decide +kernel)) ggX10_goesOn_X10_follow
set_option maxRecDepth 20000 in
theorem ggX10_goesOn_X10_flow : GoodIn wsX10_goesOn wsX10_flow := goodIn_r _ [26, 1, 27, 28, 29, 30, 31, 32, 5, 33, 7, 8, 9, 10, 34, 35, 36, 37, 11, 12, 13, 14, 38, 39, 40, 41, 42, 43, 44, 45, 58, 59, 60, 61, 62, 63, 64, 65, 66, 67, 68, 69, 70, 71] (by decide +kernel) (by decide +kernel)
set_option maxRecDepth 20000 in
theorem gX10_goesOn_X10_flow : GoodIn wsX10_goesOn (wsV RX10 169 RX10 yX10_flow wsX10_flow) := goodIn_app (goodIn_of _ (by decide +kernel)) ggX10_goesOn_X10_flow
set_option maxRecDepth 20000 in
theorem ggX10_goesOn_X10_pumps : GoodIn wsX10_goesOn wsX10_pumps := goodIn_r _ [49, 1, 50, 51, 52, 5, 53, 54, 55, 56, 57, 7, 8, 9, 10, 42, 43, 44, 45, 58, 59, 60, 61, 62, 63, 64, 65, 66, 67, 68, 69, 70, 71] (by decide +kernel) (by decide +kernel)
set_option maxRecDepth 20000 in
theorem gX10_goesOn_X10_pumps : GoodIn wsX10_goesOn (wsV RX10 172 RX10 yX10_pumps wsX10_pumps) := goodIn_app (goodIn_of _ (by decide +kernel)) ggX10_goesOn_X10_pumps
set_option maxRecDepth 20000 in
theorem ggX10_goesOn_X10_cell : GoodIn wsX10_goesOn wsX10_cell := goodIn_r _ [10, 1, 58, 59, 60, 61, 62, 63, 64, 65, 66, 67, 68, 69, 70, 71] (by decide +kernel) (by decide +kernel)
set_option maxRecDepth 20000 in
theorem gX10_goesOn_X10_cell : GoodIn wsX10_goesOn (wsV RX10 50 RX10 yX10_cell wsX10_cell) := goodIn_app (goodIn_of _ (by decide +kernel)) ggX10_goesOn_X10_cell
set_option maxRecDepth 20000 in
theorem ggX10_goesOn_X10_of : GoodIn wsX10_goesOn wsX10_of := goodIn_r _ [14, 7, 8, 9, 5, 10, 1, 58, 59, 60, 61, 62, 63, 64, 65, 66, 67, 68, 69, 70, 71] (by decide +kernel) (by decide +kernel)
set_option maxRecDepth 20000 in
theorem gX10_goesOn_X10_of : GoodIn wsX10_goesOn (wsV RX10 128 RX10 yX10_of wsX10_of) := goodIn_app (goodIn_of _ (by decide +kernel)) ggX10_goesOn_X10_of
set_option maxRecDepth 20000 in
theorem ggX10_goesOn_X10_to : GoodIn wsX10_goesOn wsX10_to := goodIn_r _ [18, 1, 58, 59, 60, 61, 62, 63, 64, 65, 66, 67, 68, 69, 70, 71] (by decide +kernel) (by decide +kernel)
set_option maxRecDepth 20000 in
theorem gX10_goesOn_X10_to : GoodIn wsX10_goesOn (wsV RX10 85 RX10 yX10_to wsX10_to) := goodIn_app (goodIn_of _ (by decide +kernel)) ggX10_goesOn_X10_to
set_option maxRecDepth 20000 in
theorem ggX10_pass_X10_in : GoodIn wsX10_pass wsX10_in := goodIn_r _ [5] (by decide +kernel) (by decide +kernel)
set_option maxRecDepth 20000 in
theorem gX10_pass_X10_in : GoodIn wsX10_pass (va_wsS RX10 54 yX10_in wsX10_in) := goodIn_app (goodIn_of _ (by decide +kernel)) ggX10_pass_X10_in
set_option maxRecDepth 20000 in
theorem ggX10_pass_X10_record : GoodIn wsX10_pass wsX10_record := goodIn_r _ [9, 10, 11, 12, 13, 14, 73, 74, 75, 76, 77, 78, 79, 80, 81, 82, 83, 84, 85, 86] (by decide +kernel) (by decide +kernel)
set_option maxRecDepth 20000 in
theorem gX10_pass_X10_record : GoodIn wsX10_pass (wsV RX10 82 RX10 yX10_record wsX10_record) := goodIn_app (goodIn_of _ (by decide +kernel)) ggX10_pass_X10_record
set_option maxRecDepth 20000 in
theorem ggX10_pass_X10_goesOn : GoodIn wsX10_pass wsX10_goesOn := goodIn_r _ [18, 13, 19, 20, 21, 4, 22, 23, 24, 25, 26, 27, 28, 29, 30, 31, 32, 33, 34, 35, 36, 37, 38, 39, 40, 41, 42, 43, 14, 44, 45, 46, 47, 48, 49, 50, 51, 52, 53, 54, 55, 56, 57, 58, 59, 60, 61, 62, 63, 64, 65, 66, 67, 68, 69, 70, 71, 72, 73, 74, 75, 76, 77, 78, 79, 80, 81, 82, 83, 84, 85, 86] (by decide +kernel) (by decide +kernel)
set_option maxRecDepth 20000 in
theorem gX10_pass_X10_goesOn : GoodIn wsX10_pass (wsV RX10 177 RX10 yX10_goesOn wsX10_goesOn) := goodIn_app (goodIn_of _ (by decide +kernel)) ggX10_pass_X10_goesOn
set_option maxRecDepth 20000 in
theorem ggX10_digit_X10_in : GoodIn wsX10_digit wsX10_in := goodIn_r _ [9] (by decide +kernel) (by decide +kernel)
set_option maxRecDepth 20000 in
theorem gX10_digit_X10_in : GoodIn wsX10_digit (va_wsS RX10 54 yX10_in wsX10_in) := goodIn_app (goodIn_of _ (by decide +kernel)) ggX10_digit_X10_in
set_option maxRecDepth 20000 in
theorem ggX10_readsLevel_X10_takes : GoodIn wsX10_readsLevel wsX10_takes := goodIn_r _ [10, 3, 4, 5, 20, 21, 22, 23, 24, 25, 26, 27, 28, 29, 30, 31, 32, 33] (by decide +kernel) (by decide +kernel)
set_option maxRecDepth 20000 in
theorem gX10_readsLevel_X10_takes : GoodIn wsX10_readsLevel (wsV RX10 188 RX10 yX10_takes wsX10_takes) := goodIn_app (goodIn_of _ (by decide +kernel)) ggX10_readsLevel_X10_takes
set_option maxRecDepth 20000 in
theorem ggX10_readsLevel_X10_digit : GoodIn wsX10_readsLevel wsX10_digit := goodIn_r _ [14, 3, 4, 5, 15, 16, 17, 18, 9, 19, 20, 21, 22, 23, 24, 25, 26, 27, 28, 29, 30, 31, 32, 33] (by decide +kernel) (by decide +kernel)
set_option maxRecDepth 20000 in
theorem gX10_readsLevel_X10_digit : GoodIn wsX10_readsLevel (wsV RX10 192 RX10 yX10_digit wsX10_digit) := goodIn_app (goodIn_of _ (by decide +kernel)) ggX10_readsLevel_X10_digit
set_option maxRecDepth 20000 in
theorem ggX10_readTides_X10_in : GoodIn wsX10_readTides wsX10_in := goodIn_r _ [11] (by decide +kernel) (by decide +kernel)
set_option maxRecDepth 20000 in
theorem gX10_readTides_X10_in : GoodIn wsX10_readTides (va_wsS RX10 54 yX10_in wsX10_in) := goodIn_app (goodIn_of _ (by decide +kernel)) ggX10_readTides_X10_in
set_option maxRecDepth 20000 in
theorem ggX10_readTides_X10_readsLevel : GoodIn wsX10_readTides wsX10_readsLevel := goodIn_r _ [15, 5, 3, 2, 4, 16, 17, 18, 19, 10, 20, 21, 22, 23, 24, 25, 26, 8, 9, 11, 35, 36, 37, 38, 39, 40, 41, 42, 43, 44, 45, 46, 47, 48] (by decide +kernel) (by decide +kernel)
set_option maxRecDepth 20000 in
theorem gX10_readTides_X10_readsLevel : GoodIn wsX10_readTides (wsV RX10 198 RX10 yX10_readsLevel wsX10_readsLevel) := goodIn_app (goodIn_of _ (by decide +kernel)) ggX10_readTides_X10_readsLevel
set_option maxRecDepth 20000 in
theorem ggX10_readTides_X10_record : GoodIn wsX10_readTides wsX10_record := goodIn_r _ [30, 31, 32, 33, 34, 6, 35, 36, 37, 38, 39, 40, 41, 42, 43, 44, 45, 46, 47, 48] (by decide +kernel) (by decide +kernel)
set_option maxRecDepth 20000 in
theorem gX10_readTides_X10_record : GoodIn wsX10_readTides (wsV RX10 82 RX10 yX10_record wsX10_record) := goodIn_app (goodIn_of _ (by decide +kernel)) ggX10_readTides_X10_record
set_option maxRecDepth 20000 in
theorem ggX10_keep_X10_cell : GoodIn wsX10_keep wsX10_cell := goodIn_r _ [10, 2, 11, 12, 13, 14, 15, 16, 17, 18, 19, 20, 21, 22, 23, 24] (by decide +kernel) (by decide +kernel)
set_option maxRecDepth 20000 in
theorem gX10_keep_X10_cell : GoodIn wsX10_keep (wsV RX10 50 RX10 yX10_cell wsX10_cell) := goodIn_app (goodIn_of _ (by decide +kernel)) ggX10_keep_X10_cell
set_option maxRecDepth 20000 in
theorem ggX10_restore_X10_record : GoodIn wsX10_restore wsX10_record := goodIn_r _ [10, 11, 12, 13, 2, 4, 18, 19, 20, 21, 22, 23, 24, 25, 26, 27, 28, 29, 30, 31] (by decide +kernel) (by decide +kernel)
set_option maxRecDepth 20000 in
theorem gX10_restore_X10_record : GoodIn wsX10_restore (wsV RX10 82 RX10 yX10_record wsX10_record) := goodIn_app (goodIn_of _ (by decide +kernel)) ggX10_restore_X10_record
set_option maxRecDepth 20000 in
theorem ggX10_restore_X10_cell : GoodIn wsX10_restore wsX10_cell := goodIn_r _ [17, 2, 18, 19, 20, 21, 22, 23, 24, 25, 26, 27, 28, 29, 30, 31] (by decide +kernel) (by decide +kernel)
set_option maxRecDepth 20000 in
theorem gX10_restore_X10_cell : GoodIn wsX10_restore (wsV RX10 50 RX10 yX10_cell wsX10_cell) := goodIn_app (goodIn_of _ (by decide +kernel)) ggX10_restore_X10_cell
set_option maxRecDepth 20000 in
theorem ggX10_section_X10_isNone : GoodIn wsX10_section wsX10_isNone := goodIn_r _ [6, 1, 7, 8, 5, 9, 18, 19, 20, 21, 22, 23, 24, 25, 26, 27, 28, 29, 30, 31] (by decide +kernel) (by decide +kernel)
set_option maxRecDepth 20000 in
theorem gX10_section_X10_isNone : GoodIn wsX10_section (wsV RX10 95 RX10 yX10_isNone wsX10_isNone) := goodIn_app (goodIn_of _ (by decide +kernel)) ggX10_section_X10_isNone
set_option maxRecDepth 20000 in
theorem ggX10_section_X10_of : GoodIn wsX10_section wsX10_of := goodIn_r _ [13, 14, 15, 16, 5, 17, 1, 18, 19, 20, 21, 22, 23, 24, 25, 26, 27, 28, 29, 30, 31] (by decide +kernel) (by decide +kernel)
set_option maxRecDepth 20000 in
theorem gX10_section_X10_of : GoodIn wsX10_section (wsV RX10 128 RX10 yX10_of wsX10_of) := goodIn_app (goodIn_of _ (by decide +kernel)) ggX10_section_X10_of
set_option maxRecDepth 20000 in
theorem ggX10_pump_X10_isNone : GoodIn wsX10_pump wsX10_isNone := goodIn_r _ [5, 6, 7, 8, 4, 9, 22, 23, 24, 25, 26, 27, 28, 29, 30, 31, 32, 33, 34, 35] (by decide +kernel) (by decide +kernel)
set_option maxRecDepth 20000 in
theorem gX10_pump_X10_isNone : GoodIn wsX10_pump (wsV RX10 95 RX10 yX10_isNone wsX10_isNone) := goodIn_app (goodIn_of _ (by decide +kernel)) ggX10_pump_X10_isNone
set_option maxRecDepth 20000 in
theorem ggX10_pump_X10_ofPump : GoodIn wsX10_pump wsX10_ofPump := goodIn_r _ [13, 14, 15, 16, 4, 17, 6, 22, 23, 24, 25, 26, 27, 28, 29, 30, 31, 32, 33, 34, 35] (by decide +kernel) (by decide +kernel)
set_option maxRecDepth 20000 in
theorem gX10_pump_X10_ofPump : GoodIn wsX10_pump (wsV RX10 103 RX10 yX10_ofPump wsX10_ofPump) := goodIn_app (goodIn_of _ (by decide +kernel)) ggX10_pump_X10_ofPump
set_option maxRecDepth 20000 in
theorem ggX10_pump_X10_runs : GoodIn wsX10_pump wsX10_runs := goodIn_r _ [21, 6, 10, 11, 12, 4, 13, 14, 15, 16, 17, 22, 23, 24, 25, 26, 27, 28, 29, 30, 31, 32, 33, 34, 35] (by decide +kernel) (by decide +kernel)
set_option maxRecDepth 20000 in
theorem gX10_pump_X10_runs : GoodIn wsX10_pump (wsV RX10 162 RX10 yX10_runs wsX10_runs) := goodIn_app (goodIn_of _ (by decide +kernel)) ggX10_pump_X10_runs
set_option maxRecDepth 20000 in
theorem ggX10_level_X10_outer : GoodIn wsX10_level wsX10_outer := goodIn_r _ [6, 1, 7, 8, 9, 5, 10, 11, 20, 21, 22, 23, 24, 25, 26, 27, 28, 29, 30, 31, 32, 33] (by decide +kernel) (by decide +kernel)
set_option maxRecDepth 20000 in
theorem gX10_level_X10_outer : GoodIn wsX10_level (wsV RX10 138 RX10 yX10_outer wsX10_outer) := goodIn_app (goodIn_of _ (by decide +kernel)) ggX10_level_X10_outer
set_option maxRecDepth 20000 in
theorem ggX10_level_X10_inner : GoodIn wsX10_level wsX10_inner := goodIn_r _ [15, 11, 20, 21, 22, 23, 24, 25, 26, 27, 28, 29, 30, 31, 32, 33] (by decide +kernel) (by decide +kernel)
set_option maxRecDepth 20000 in
theorem gX10_level_X10_inner : GoodIn wsX10_level (wsV RX10 148 RX10 yX10_inner wsX10_inner) := goodIn_app (goodIn_of _ (by decide +kernel)) ggX10_level_X10_inner
set_option maxRecDepth 20000 in
theorem ggX10_level_X10_nothing : GoodIn wsX10_level wsX10_nothing := goodIn_r _ [18, 19] (by decide +kernel) (by decide +kernel)
set_option maxRecDepth 20000 in
theorem gX10_level_X10_nothing : GoodIn wsX10_level (va_wsS RX10 207 yX10_nothing wsX10_nothing) := goodIn_app (goodIn_of _ (by decide +kernel)) ggX10_level_X10_nothing
set_option maxRecDepth 20000 in
theorem ggX10_water_X10_in : GoodIn wsX10_water wsX10_in := goodIn_r _ [7] (by decide +kernel) (by decide +kernel)
set_option maxRecDepth 20000 in
theorem gX10_water_X10_in : GoodIn wsX10_water (va_wsS RX10 54 yX10_in wsX10_in) := goodIn_app (goodIn_of _ (by decide +kernel)) ggX10_water_X10_in
set_option maxRecDepth 20000 in
theorem ggX10_forecast_X10_in : GoodIn wsX10_forecast wsX10_in := goodIn_r _ [5] (by decide +kernel) (by decide +kernel)
set_option maxRecDepth 20000 in
theorem gX10_forecast_X10_in : GoodIn wsX10_forecast (va_wsS RX10 54 yX10_in wsX10_in) := goodIn_app (goodIn_of _ (by decide +kernel)) ggX10_forecast_X10_in
set_option maxRecDepth 20000 in
theorem ggX10_forecast_X10_nothing : GoodIn wsX10_forecast wsX10_nothing := goodIn_r _ [8, 9] (by decide +kernel) (by decide +kernel)
set_option maxRecDepth 20000 in
theorem gX10_forecast_X10_nothing : GoodIn wsX10_forecast (va_wsS RX10 207 yX10_nothing wsX10_nothing) := goodIn_app (goodIn_of _ (by decide +kernel)) ggX10_forecast_X10_nothing
set_option maxRecDepth 20000 in
theorem ggX10_forecast_X10_takeSpare : GoodIn wsX10_forecast wsX10_takeSpare := goodIn_r _ [13, 14, 15, 79, 80, 81, 82, 83, 84, 85, 86, 87, 88, 89, 90, 91, 92] (by decide +kernel) (by decide +kernel)
set_option maxRecDepth 20000 in
theorem gX10_forecast_X10_takeSpare : GoodIn wsX10_forecast (wsV RX10 214 RX10 yX10_takeSpare wsX10_takeSpare) := goodIn_app (goodIn_of _ (by decide +kernel)) ggX10_forecast_X10_takeSpare
set_option maxRecDepth 20000 in
theorem ggX10_forecast_X10_goesOn : GoodIn wsX10_forecast wsX10_goesOn := goodIn_r _ [19, 15, 20, 21, 22, 4, 23, 24, 25, 26, 27, 28, 29, 30, 31, 32, 33, 34, 35, 36, 37, 38, 39, 40, 41, 42, 43, 44, 45, 46, 47, 48, 49, 50, 51, 52, 53, 54, 55, 56, 57, 58, 59, 60, 61, 62, 63, 64, 65, 66, 67, 68, 69, 70, 71, 72, 73, 74, 79, 80, 81, 82, 83, 84, 85, 86, 87, 88, 89, 90, 91, 92] (by decide +kernel) (by decide +kernel)
set_option maxRecDepth 20000 in
theorem gX10_forecast_X10_goesOn : GoodIn wsX10_forecast (wsV RX10 177 RX10 yX10_goesOn wsX10_goesOn) := goodIn_app (goodIn_of _ (by decide +kernel)) ggX10_forecast_X10_goesOn
set_option maxRecDepth 20000 in
theorem ggX10_forecast_X10_inner : GoodIn wsX10_forecast wsX10_inner := goodIn_r _ [54, 15, 79, 80, 81, 82, 83, 84, 85, 86, 87, 88, 89, 90, 91, 92] (by decide +kernel) (by decide +kernel)
set_option maxRecDepth 20000 in
theorem gX10_forecast_X10_inner : GoodIn wsX10_forecast (wsV RX10 148 RX10 yX10_inner wsX10_inner) := goodIn_app (goodIn_of _ (by decide +kernel)) ggX10_forecast_X10_inner
set_option maxRecDepth 20000 in
theorem ggX10_forecast_X10_putBack : GoodIn wsX10_forecast wsX10_putBack := goodIn_r _ [78, 15, 14, 79, 80, 81, 82, 83, 84, 85, 86, 87, 88, 89, 90, 91, 92] (by decide +kernel) (by decide +kernel)
set_option maxRecDepth 20000 in
theorem gX10_forecast_X10_putBack : GoodIn wsX10_forecast (wsV RX10 217 RX10 yX10_putBack wsX10_putBack) := goodIn_app (goodIn_of _ (by decide +kernel)) ggX10_forecast_X10_putBack
set_option maxRecDepth 20000 in
theorem ggX10_shutIn_X10_takeSpare : GoodIn wsX10_shutIn wsX10_takeSpare := goodIn_r _ [5, 6, 7, 79, 80, 81, 82, 83, 84, 85, 86, 87, 88, 89, 90, 91, 92] (by decide +kernel) (by decide +kernel)
set_option maxRecDepth 20000 in
theorem gX10_shutIn_X10_takeSpare : GoodIn wsX10_shutIn (wsV RX10 214 RX10 yX10_takeSpare wsX10_takeSpare) := goodIn_app (goodIn_of _ (by decide +kernel)) ggX10_shutIn_X10_takeSpare
set_option maxRecDepth 20000 in
theorem ggX10_shutIn_X10_isShut : GoodIn wsX10_shutIn wsX10_isShut := goodIn_r _ [11, 12, 13, 14, 4, 15, 7, 16, 17, 18, 19, 20, 21, 22, 23, 79, 80, 81, 82, 83, 84, 85, 86, 87, 88, 89, 90, 91, 92] (by decide +kernel) (by decide +kernel)
set_option maxRecDepth 20000 in
theorem gX10_shutIn_X10_isShut : GoodIn wsX10_shutIn (wsV RX10 134 RX10 yX10_isShut wsX10_isShut) := goodIn_app (goodIn_of _ (by decide +kernel)) ggX10_shutIn_X10_isShut
set_option maxRecDepth 20000 in
theorem ggX10_shutIn_X10_goesOn : GoodIn wsX10_shutIn wsX10_goesOn := goodIn_r _ [27, 7, 28, 29, 30, 4, 31, 20, 21, 22, 23, 16, 17, 18, 19, 32, 33, 34, 35, 36, 37, 38, 39, 40, 41, 42, 43, 44, 45, 46, 47, 48, 49, 50, 51, 52, 53, 54, 55, 56, 57, 58, 59, 60, 61, 62, 63, 64, 65, 66, 67, 68, 69, 70, 71, 72, 73, 74, 79, 80, 81, 82, 83, 84, 85, 86, 87, 88, 89, 90, 91, 92] (by decide +kernel) (by decide +kernel)
set_option maxRecDepth 20000 in
theorem gX10_shutIn_X10_goesOn : GoodIn wsX10_shutIn (wsV RX10 177 RX10 yX10_goesOn wsX10_goesOn) := goodIn_app (goodIn_of _ (by decide +kernel)) ggX10_shutIn_X10_goesOn
set_option maxRecDepth 20000 in
theorem ggX10_shutIn_X10_putBack : GoodIn wsX10_shutIn wsX10_putBack := goodIn_r _ [78, 7, 6, 79, 80, 81, 82, 83, 84, 85, 86, 87, 88, 89, 90, 91, 92] (by decide +kernel) (by decide +kernel)
set_option maxRecDepth 20000 in
theorem gX10_shutIn_X10_putBack : GoodIn wsX10_shutIn (wsV RX10 217 RX10 yX10_putBack wsX10_putBack) := goodIn_app (goodIn_of _ (by decide +kernel)) ggX10_shutIn_X10_putBack
set_option maxRecDepth 20000 in
theorem ggX10_tide_X10_in : GoodIn wsX10_tide wsX10_in := goodIn_r _ [7] (by decide +kernel) (by decide +kernel)
set_option maxRecDepth 20000 in
theorem gX10_tide_X10_in : GoodIn wsX10_tide (va_wsS RX10 54 yX10_in wsX10_in) := goodIn_app (goodIn_of _ (by decide +kernel)) ggX10_tide_X10_in
set_option maxRecDepth 20000 in
theorem ggX10_tide_Jxe99ae_doubleToLongBits_ccdee : GoodIn wsX10_tide wsJxe99ae_doubleToLongBits_ccdee := goodIn_r _ [11, 12, 13, 14, 15, 16, 17, 18, 10, 19] (by decide +kernel) (by decide +kernel)
set_option maxRecDepth 20000 in
theorem gX10_tide_Jxe99ae_doubleToLongBits_ccdee : GoodIn wsX10_tide (va_wsS RX10 220 yJxe99ae_doubleToLongBits_ccdee wsJxe99ae_doubleToLongBits_ccdee) := goodIn_app (goodIn_of _ (by decide +kernel)) ggX10_tide_Jxe99ae_doubleToLongBits_ccdee
set_option maxRecDepth 20000 in
theorem ggX10_count_X10_cell : GoodIn wsX10_count wsX10_cell := goodIn_r _ [8, 1, 21, 22, 23, 24, 25, 26, 27, 28, 29, 30, 31, 32, 33, 34] (by decide +kernel) (by decide +kernel)
set_option maxRecDepth 20000 in
theorem gX10_count_X10_cell : GoodIn wsX10_count (wsV RX10 50 RX10 yX10_cell wsX10_cell) := goodIn_app (goodIn_of _ (by decide +kernel)) ggX10_count_X10_cell
set_option maxRecDepth 20000 in
theorem ggX10_count_X10_inState : GoodIn wsX10_count wsX10_inState := goodIn_r _ [12, 1, 13, 14, 15, 7, 16, 4, 5, 6, 8, 21, 22, 23, 24, 25, 26, 27, 28, 29, 30, 31, 32, 33, 34] (by decide +kernel) (by decide +kernel)
set_option maxRecDepth 20000 in
theorem gX10_count_X10_inState : GoodIn wsX10_count (wsV RX10 131 RX10 yX10_inState wsX10_inState) := goodIn_app (goodIn_of _ (by decide +kernel)) ggX10_count_X10_inState
set_option maxRecDepth 20000 in
theorem ggX10_count_X10_weights : GoodIn wsX10_count wsX10_weights := goodIn_r _ [20, 1, 4, 5, 6, 7, 8, 21, 22, 23, 24, 25, 26, 27, 28, 29, 30, 31, 32, 33, 34] (by decide +kernel) (by decide +kernel)
set_option maxRecDepth 20000 in
theorem gX10_count_X10_weights : GoodIn wsX10_count (wsV RX10 124 RX10 yX10_weights wsX10_weights) := goodIn_app (goodIn_of _ (by decide +kernel)) ggX10_count_X10_weights
set_option maxRecDepth 20000 in
theorem ggJxe99ae_doubleToLongBits_ccdee_Jxe99ae_isNaN_b9ae7 : GoodIn wsJxe99ae_doubleToLongBits_ccdee wsJxe99ae_isNaN_b9ae7 := goodIn_r _ [9] (by decide +kernel) (by decide +kernel)
set_option maxRecDepth 20000 in
theorem gJxe99ae_doubleToLongBits_ccdee_Jxe99ae_isNaN_b9ae7 : GoodIn wsJxe99ae_doubleToLongBits_ccdee (va_wsS RJxe99ae 122 yJxe99ae_isNaN_b9ae7 wsJxe99ae_isNaN_b9ae7) := goodIn_app (goodIn_of _ (by decide +kernel)) ggJxe99ae_doubleToLongBits_ccdee_Jxe99ae_isNaN_b9ae7
