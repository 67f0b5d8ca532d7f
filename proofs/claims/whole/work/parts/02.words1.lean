set_option maxRecDepth 20000 in
theorem ggX0_find_X0_follow : GoodIn wsX0_find wsX0_follow := goodIn_r _ [9, 2, 3, 4, 1, 10, 11, 12, 5, 6, 7, 8, 13, 14, 15, 16, 17, 18, 19, 20, 21, 22, 23, 24, 25, 26, 27, 28, 29, 30, 31, 32, 33, 34, 35, 36, 37, 38, 39, 40, 41, 42, 43, 44, 45, 46, 47, 48, 49, 50, 51, 52, 53, 54, 55, 56, 57, 58, 59, 60, 61, 62, 63, 64, 65, 66, 67, 68, 73, 74, 75, 76, 69, 70, 71, 72, 77, 78, 79, 80, 81] (by decide +kernel) (by decide +kernel)
set_option maxRecDepth 20000 in
theorem gX0_find_X0_follow : GoodIn wsX0_find (wsV RX0 22 RX0 yX0_follow wsX0_follow) := goodIn_app (goodIn_of _ (by decide +kernel)) ggX0_find_X0_follow
set_option maxRecDepth 20000 in
theorem ggX0_follow_X10_isIn : GoodIn wsX0_follow wsX10_isIn := goodIn_r _ [7] (by decide +kernel) (by decide +kernel)
set_option maxRecDepth 20000 in
theorem gX0_follow_X10_isIn_n31 : GoodIn wsX0_follow (wsX10_isIn) := ggX0_follow_X10_isIn
set_option maxRecDepth 20000 in
theorem ggX0_follow_X0_follow : GoodIn wsX0_follow wsX0_follow := goodIn_r _ [0, 1, 2, 3, 4, 5, 6, 7, 8, 9, 10, 11, 12, 13, 14, 15, 16, 17, 18, 19, 20, 21, 22, 23, 24, 25, 26, 27, 28, 29, 30, 31, 32, 33, 34, 35, 36, 37, 38, 39, 40, 41, 42, 43, 44, 45, 46, 47, 48, 49, 50, 51, 52, 53, 54, 55, 56, 57, 58, 59, 60, 61, 62, 63, 64, 65, 66, 67, 68, 69, 70, 71, 72, 73, 74, 75, 76, 77, 78, 79, 80] (by decide +kernel) (by decide +kernel)
set_option maxRecDepth 20000 in
theorem gX0_follow_X0_follow : GoodIn wsX0_follow (wsV RX0 22 RX0 yX0_follow wsX0_follow) := goodIn_app (goodIn_of _ (by decide +kernel)) ggX0_follow_X0_follow
set_option maxRecDepth 20000 in
theorem ggX0_follow_X9_tenthsFor : GoodIn wsX0_follow wsX9_tenthsFor := goodIn_r _ [15, 16, 17, 18, 19, 20, 21, 22, 23, 24, 25, 26, 27, 28, 29, 30, 31, 32, 33, 34, 35, 36, 37, 38, 39, 40, 41, 42, 43, 44, 45, 46, 47, 48, 49, 50, 51, 52, 53, 13, 54, 55, 56, 6, 57, 76, 77, 78, 79, 80, 68, 69, 70, 71] (by decide +kernel) (by decide +kernel)
set_option maxRecDepth 20000 in
theorem gX0_follow_X9_tenthsFor_n37 : GoodIn wsX0_follow (wsX9_tenthsFor) := ggX0_follow_X9_tenthsFor
set_option maxRecDepth 20000 in
theorem ggX0_follow_X10_canBe : GoodIn wsX0_follow wsX10_canBe := goodIn_r _ [59] (by decide +kernel) (by decide +kernel)
set_option maxRecDepth 20000 in
theorem gX0_follow_X10_canBe_n41 : GoodIn wsX0_follow (wsX10_canBe) := ggX0_follow_X10_canBe
set_option maxRecDepth 20000 in
theorem ggX0_follow_X9_blowsOf : GoodIn wsX0_follow wsX9_blowsOf := goodIn_r _ [62, 63, 56, 6, 57, 68, 69, 70, 71] (by decide +kernel) (by decide +kernel)
set_option maxRecDepth 20000 in
theorem gX0_follow_X9_blowsOf_n45 : GoodIn wsX0_follow (wsX9_blowsOf) := ggX0_follow_X9_blowsOf
set_option maxRecDepth 20000 in
theorem ggX0_follow_X10_fondAfterBlows : GoodIn wsX0_follow wsX10_fondAfterBlows := goodIn_r _ [65, 66, 18, 19, 20, 67, 22, 23] (by decide +kernel) (by decide +kernel)
set_option maxRecDepth 20000 in
theorem gX0_follow_X10_fondAfterBlows_n52 : GoodIn wsX0_follow (wsX10_fondAfterBlows) := ggX0_follow_X10_fondAfterBlows
set_option maxRecDepth 20000 in
theorem ggX1_init_X6_init : GoodIn wsX1_init wsX6_init := goodIn_r _ [4, 5, 6, 7, 8, 9, 10, 11, 12, 13] (by decide +kernel) (by decide +kernel)
set_option maxRecDepth 20000 in
theorem gX1_init_X6_init : GoodIn wsX1_init (wsX6_init) := ggX1_init_X6_init
set_option maxRecDepth 20000 in
theorem ggX2_init_X7_init : GoodIn wsX2_init wsX7_init := goodIn_r _ [4, 5, 6, 7, 8, 9, 10, 11, 12, 13, 14, 15, 16, 17] (by decide +kernel) (by decide +kernel)
set_option maxRecDepth 20000 in
theorem gX2_init_X7_init : GoodIn wsX2_init (wsX7_init) := ggX2_init_X7_init
set_option maxRecDepth 20000 in
theorem ggX2_feels_X7_feels : GoodIn wsX2_feels wsX7_feels := goodIn_r _ [6] (by decide +kernel) (by decide +kernel)
set_option maxRecDepth 20000 in
theorem gX2_feels_X7_feels_s9 : GoodIn wsX2_feels (va_wsSU RX2 9 yX7_feels wsX7_feels) := goodIn_app (goodIn_of _ (by decide +kernel)) ggX2_feels_X7_feels
set_option maxRecDepth 20000 in
theorem ggX3_init_X6_init : GoodIn wsX3_init wsX6_init := goodIn_r _ [4, 5, 6, 7, 8, 9, 10, 11, 12, 13] (by decide +kernel) (by decide +kernel)
set_option maxRecDepth 20000 in
theorem gX3_init_X6_init : GoodIn wsX3_init (wsX6_init) := ggX3_init_X6_init
set_option maxRecDepth 20000 in
theorem ggX4_find_X10_isIn : GoodIn wsX4_find wsX10_isIn := goodIn_r _ [8] (by decide +kernel) (by decide +kernel)
set_option maxRecDepth 20000 in
theorem gX4_find_X10_isIn_n34 : GoodIn wsX4_find (wsX10_isIn) := ggX4_find_X10_isIn
set_option maxRecDepth 20000 in
theorem ggX4_find_X4_arrange : GoodIn wsX4_find wsX4_arrange := goodIn_r _ [13, 1, 2, 5, 4, 14, 15, 16, 17, 18, 12, 19, 3, 20, 7, 21, 22, 23, 24, 25, 26, 27, 28, 29, 30, 31, 32, 33, 34, 35, 36, 37, 38, 39, 40, 41, 42, 43, 44, 45, 46, 47, 48, 49, 50, 51, 52, 53, 54, 55, 56, 57, 58, 59, 60, 61, 62, 63, 64, 65, 66, 67, 68, 69, 70, 71, 72, 73, 74, 75, 76, 77, 6, 8, 78, 79, 9, 10, 11, 80, 81, 82, 83, 84, 85, 86, 87, 88, 89, 90, 91, 92, 93] (by decide +kernel) (by decide +kernel)
set_option maxRecDepth 20000 in
theorem gX4_find_X4_arrange : GoodIn wsX4_find (wsV RX4 42 RX4 yX4_arrange wsX4_arrange) := goodIn_app (goodIn_of _ (by decide +kernel)) ggX4_find_X4_arrange
set_option maxRecDepth 20000 in
theorem ggX4_arrange_X4_meanFrom : GoodIn wsX4_arrange wsX4_meanFrom := goodIn_r _ [11, 1, 5, 12, 13, 14, 15, 16, 17, 18, 19, 20, 21, 22, 23, 24, 25, 26, 27, 28, 29, 30, 31, 32, 33, 34, 35, 36, 37, 38, 39, 40, 41, 42, 43, 44, 45, 46, 47, 48, 49, 50, 51, 52, 53, 54, 55, 56, 57, 58, 59, 60, 61, 7, 8, 9, 10, 62, 63, 64, 65, 66, 67, 68, 69, 79, 80, 81, 82, 83, 84, 85, 86, 87, 88, 89, 90, 91, 92] (by decide +kernel) (by decide +kernel)
set_option maxRecDepth 20000 in
theorem gX4_arrange_X4_meanFrom : GoodIn wsX4_arrange (wsV RX4 46 RX4 yX4_meanFrom wsX4_meanFrom) := goodIn_app (goodIn_of _ (by decide +kernel)) ggX4_arrange_X4_meanFrom
set_option maxRecDepth 20000 in
theorem ggX4_arrange_X10_copy : GoodIn wsX4_arrange wsX10_copy := goodIn_r _ [71] (by decide +kernel) (by decide +kernel)
set_option maxRecDepth 20000 in
theorem gX4_arrange_X10_copy_n50 : GoodIn wsX4_arrange (wsX10_copy) := ggX4_arrange_X10_copy
set_option maxRecDepth 20000 in
theorem ggX4_arrange_X10_isIn : GoodIn wsX4_arrange wsX10_isIn := goodIn_r _ [73] (by decide +kernel) (by decide +kernel)
set_option maxRecDepth 20000 in
theorem gX4_arrange_X10_isIn_n34 : GoodIn wsX4_arrange (wsX10_isIn) := ggX4_arrange_X10_isIn
set_option maxRecDepth 20000 in
theorem ggX4_arrange_X10_put : GoodIn wsX4_arrange wsX10_put := goodIn_r _ [75] (by decide +kernel) (by decide +kernel)
set_option maxRecDepth 20000 in
theorem gX4_arrange_X10_put_n54 : GoodIn wsX4_arrange (wsX10_put) := ggX4_arrange_X10_put
set_option maxRecDepth 20000 in
theorem ggX4_arrange_X4_arrange : GoodIn wsX4_arrange wsX4_arrange := goodIn_r _ [0, 1, 2, 3, 4, 5, 6, 7, 8, 9, 10, 11, 12, 13, 14, 15, 16, 17, 18, 19, 20, 21, 22, 23, 24, 25, 26, 27, 28, 29, 30, 31, 32, 33, 34, 35, 36, 37, 38, 39, 40, 41, 42, 43, 44, 45, 46, 47, 48, 49, 50, 51, 52, 53, 54, 55, 56, 57, 58, 59, 60, 61, 62, 63, 64, 65, 66, 67, 68, 69, 70, 71, 72, 73, 74, 75, 76, 77, 78, 79, 80, 81, 82, 83, 84, 85, 86, 87, 88, 89, 90, 91, 92] (by decide +kernel) (by decide +kernel)
set_option maxRecDepth 20000 in
theorem gX4_arrange_X4_arrange : GoodIn wsX4_arrange (wsV RX4 42 RX4 yX4_arrange wsX4_arrange) := goodIn_app (goodIn_of _ (by decide +kernel)) ggX4_arrange_X4_arrange
set_option maxRecDepth 20000 in
theorem ggX4_meanFrom_X10_at : GoodIn wsX4_meanFrom wsX10_at := goodIn_r _ [6] (by decide +kernel) (by decide +kernel)
set_option maxRecDepth 20000 in
theorem gX4_meanFrom_X10_at_n58 : GoodIn wsX4_meanFrom (wsX10_at) := ggX4_meanFrom_X10_at
set_option maxRecDepth 20000 in
theorem ggX4_meanFrom_X9_tenthsFor : GoodIn wsX4_meanFrom wsX9_tenthsFor := goodIn_r _ [10, 11, 12, 13, 14, 15, 16, 17, 18, 19, 20, 21, 22, 23, 24, 25, 26, 27, 28, 29, 30, 31, 32, 33, 34, 35, 36, 37, 38, 39, 40, 41, 42, 43, 44, 45, 46, 47, 48, 8, 49, 50, 4, 5, 6, 74, 75, 76, 77, 78, 70, 71, 72, 73] (by decide +kernel) (by decide +kernel)
set_option maxRecDepth 20000 in
theorem gX4_meanFrom_X9_tenthsFor_n62 : GoodIn wsX4_meanFrom (wsX9_tenthsFor) := ggX4_meanFrom_X9_tenthsFor
set_option maxRecDepth 20000 in
theorem ggX4_meanFrom_X10_canBe : GoodIn wsX4_meanFrom wsX10_canBe := goodIn_r _ [52] (by decide +kernel) (by decide +kernel)
set_option maxRecDepth 20000 in
theorem gX4_meanFrom_X10_canBe_n66 : GoodIn wsX4_meanFrom (wsX10_canBe) := ggX4_meanFrom_X10_canBe
set_option maxRecDepth 20000 in
theorem ggX4_meanFrom_X4_meanFrom : GoodIn wsX4_meanFrom wsX4_meanFrom := goodIn_r _ [0, 1, 2, 3, 4, 5, 6, 7, 8, 9, 10, 11, 12, 13, 14, 15, 16, 17, 18, 19, 20, 21, 22, 23, 24, 25, 26, 27, 28, 29, 30, 31, 32, 33, 34, 35, 36, 37, 38, 39, 40, 41, 42, 43, 44, 45, 46, 47, 48, 49, 50, 51, 52, 53, 54, 55, 56, 57, 58, 59, 60, 61, 62, 63, 64, 65, 66, 67, 68, 69, 70, 71, 72, 73, 74, 75, 76, 77, 78] (by decide +kernel) (by decide +kernel)
set_option maxRecDepth 20000 in
theorem gX4_meanFrom_X4_meanFrom : GoodIn wsX4_meanFrom (wsV RX4 46 RX4 yX4_meanFrom wsX4_meanFrom) := goodIn_app (goodIn_of _ (by decide +kernel)) ggX4_meanFrom_X4_meanFrom
set_option maxRecDepth 20000 in
theorem ggX4_meanFrom_X9_blowsOf : GoodIn wsX4_meanFrom wsX9_blowsOf := goodIn_r _ [59, 60, 4, 5, 6, 70, 71, 72, 73] (by decide +kernel) (by decide +kernel)
set_option maxRecDepth 20000 in
theorem gX4_meanFrom_X9_blowsOf_n70 : GoodIn wsX4_meanFrom (wsX9_blowsOf) := ggX4_meanFrom_X9_blowsOf
set_option maxRecDepth 20000 in
theorem ggX4_meanFrom_X10_fondAfterBlows : GoodIn wsX4_meanFrom wsX10_fondAfterBlows := goodIn_r _ [62, 63, 13, 14, 15, 64, 17, 18] (by decide +kernel) (by decide +kernel)
set_option maxRecDepth 20000 in
theorem gX4_meanFrom_X10_fondAfterBlows_n77 : GoodIn wsX4_meanFrom (wsX10_fondAfterBlows) := ggX4_meanFrom_X10_fondAfterBlows
set_option maxRecDepth 20000 in
theorem ggX4_lessonAt_X10_at : GoodIn wsX4_lessonAt wsX10_at := goodIn_r _ [5] (by decide +kernel) (by decide +kernel)
set_option maxRecDepth 20000 in
theorem gX4_lessonAt_X10_at_n58 : GoodIn wsX4_lessonAt (wsX10_at) := ggX4_lessonAt_X10_at
set_option maxRecDepth 20000 in
theorem ggX5_add_X10_put : GoodIn wsX5_add wsX10_put := goodIn_r _ [5] (by decide +kernel) (by decide +kernel)
set_option maxRecDepth 20000 in
theorem gX5_add_X10_put_n19 : GoodIn wsX5_add (wsX10_put) := ggX5_add_X10_put
set_option maxRecDepth 20000 in
theorem ggX5_codeAt_X10_at : GoodIn wsX5_codeAt wsX10_at := goodIn_r _ [4] (by decide +kernel) (by decide +kernel)
set_option maxRecDepth 20000 in
theorem gX5_codeAt_X10_at_n23 : GoodIn wsX5_codeAt (wsX10_at) := ggX5_codeAt_X10_at
set_option maxRecDepth 20000 in
theorem ggX5_digitAt_X10_at : GoodIn wsX5_digitAt wsX10_at := goodIn_r _ [4] (by decide +kernel) (by decide +kernel)
set_option maxRecDepth 20000 in
theorem gX5_digitAt_X10_at_n23 : GoodIn wsX5_digitAt (wsX10_at) := ggX5_digitAt_X10_at
set_option maxRecDepth 20000 in
theorem ggX5_firstFault_X5_isLimit : GoodIn wsX5_firstFault wsX5_isLimit := goodIn_r _ [6, 7, 8, 9, 5, 10, 11, 12, 13, 14, 15, 16, 17, 18, 27, 28] (by decide +kernel) (by decide +kernel)
set_option maxRecDepth 20000 in
theorem gX5_firstFault_X5_isLimit : GoodIn wsX5_firstFault (wsV RX5 27 RX5 yX5_isLimit wsX5_isLimit) := goodIn_app (goodIn_of _ (by decide +kernel)) ggX5_firstFault_X5_isLimit
set_option maxRecDepth 20000 in
theorem ggX5_firstFault_X5_isOfLesson : GoodIn wsX5_firstFault wsX5_isOfLesson := goodIn_r _ [22, 7, 8, 9, 5, 10, 11, 12, 13, 14, 15, 16, 17, 18, 23, 24, 25, 26, 27, 28] (by decide +kernel) (by decide +kernel)
set_option maxRecDepth 20000 in
theorem gX5_firstFault_X5_isOfLesson : GoodIn wsX5_firstFault (wsV RX5 31 RX5 yX5_isOfLesson wsX5_isOfLesson) := goodIn_app (goodIn_of _ (by decide +kernel)) ggX5_firstFault_X5_isOfLesson
set_option maxRecDepth 20000 in
theorem ggX5_firstFault_X5_codeAt : GoodIn wsX5_firstFault wsX5_codeAt := goodIn_r _ [26, 15, 16, 17, 18, 27, 28] (by decide +kernel) (by decide +kernel)
set_option maxRecDepth 20000 in
theorem gX5_firstFault_X5_codeAt : GoodIn wsX5_firstFault (wsV RX5 35 RX5 yX5_codeAt wsX5_codeAt) := goodIn_app (goodIn_of _ (by decide +kernel)) ggX5_firstFault_X5_codeAt
set_option maxRecDepth 20000 in
theorem ggX5_isLimit_X5_isDigit : GoodIn wsX5_isLimit wsX5_isDigit := goodIn_r _ [5, 6, 7, 8, 4, 9, 10, 11, 12, 13, 14, 15] (by decide +kernel) (by decide +kernel)
set_option maxRecDepth 20000 in
theorem gX5_isLimit_X5_isDigit : GoodIn wsX5_isLimit (wsV RX5 39 RX5 yX5_isDigit wsX5_isDigit) := goodIn_app (goodIn_of _ (by decide +kernel)) ggX5_isLimit_X5_isDigit
set_option maxRecDepth 20000 in
theorem ggX5_isOfLesson_X5_isDigit : GoodIn wsX5_isOfLesson wsX5_isDigit := goodIn_r _ [5, 6, 7, 8, 4, 9, 10, 11, 12, 13, 18, 19] (by decide +kernel) (by decide +kernel)
set_option maxRecDepth 20000 in
theorem gX5_isOfLesson_X5_isDigit : GoodIn wsX5_isOfLesson (wsV RX5 39 RX5 yX5_isDigit wsX5_isDigit) := goodIn_app (goodIn_of _ (by decide +kernel)) ggX5_isOfLesson_X5_isDigit
set_option maxRecDepth 20000 in
theorem ggX5_isOfLesson_X5_codeAt : GoodIn wsX5_isOfLesson wsX5_codeAt := goodIn_r _ [17, 10, 11, 12, 13, 18, 19] (by decide +kernel) (by decide +kernel)
set_option maxRecDepth 20000 in
theorem gX5_isOfLesson_X5_codeAt : GoodIn wsX5_isOfLesson (wsV RX5 35 RX5 yX5_codeAt wsX5_codeAt) := goodIn_app (goodIn_of _ (by decide +kernel)) ggX5_isOfLesson_X5_codeAt
set_option maxRecDepth 20000 in
theorem ggX5_isDigit_X5_digitAt : GoodIn wsX5_isDigit wsX5_digitAt := goodIn_r _ [5, 6, 7, 8, 9, 10, 11] (by decide +kernel) (by decide +kernel)
set_option maxRecDepth 20000 in
theorem gX5_isDigit_X5_digitAt : GoodIn wsX5_isDigit (wsV RX5 43 RX5 yX5_digitAt wsX5_digitAt) := goodIn_app (goodIn_of _ (by decide +kernel)) ggX5_isDigit_X5_digitAt
set_option maxRecDepth 20000 in
theorem ggX5_isWhole_X5_firstFault : GoodIn wsX5_isWhole wsX5_firstFault := goodIn_r _ [6, 1, 7, 8, 9, 5, 10, 11, 12, 13, 14, 15, 16, 17, 18, 19, 20, 21, 22, 23, 24, 25, 26, 27, 28, 29, 30, 31, 32] (by decide +kernel) (by decide +kernel)
set_option maxRecDepth 20000 in
theorem gX5_isWhole_X5_firstFault : GoodIn wsX5_isWhole (wsV RX5 46 RX5 yX5_firstFault wsX5_firstFault) := goodIn_app (goodIn_of _ (by decide +kernel)) ggX5_isWhole_X5_firstFault
set_option maxRecDepth 20000 in
theorem ggX5_isWhole_X5_codeAt : GoodIn wsX5_isWhole wsX5_codeAt := goodIn_r _ [30, 19, 20, 21, 22, 31, 32] (by decide +kernel) (by decide +kernel)
set_option maxRecDepth 20000 in
theorem gX5_isWhole_X5_codeAt : GoodIn wsX5_isWhole (wsV RX5 35 RX5 yX5_codeAt wsX5_codeAt) := goodIn_app (goodIn_of _ (by decide +kernel)) ggX5_isWhole_X5_codeAt
set_option maxRecDepth 20000 in
theorem ggX7_init_X6_init : GoodIn wsX7_init wsX6_init := goodIn_r _ [4, 5, 6, 7, 8, 9, 10, 11, 12, 13] (by decide +kernel) (by decide +kernel)
set_option maxRecDepth 20000 in
theorem gX7_init_X6_init : GoodIn wsX7_init (wsX6_init) := ggX7_init_X6_init
set_option maxRecDepth 20000 in
theorem ggX8_clear_X10_fill : GoodIn wsX8_clear wsX10_fill := goodIn_r _ [6] (by decide +kernel) (by decide +kernel)
set_option maxRecDepth 20000 in
theorem gX8_clear_X10_fill_n40 : GoodIn wsX8_clear (wsX10_fill) := ggX8_clear_X10_fill
set_option maxRecDepth 20000 in
theorem ggX8_copyFrom_X10_copy : GoodIn wsX8_copyFrom wsX10_copy := goodIn_r _ [12] (by decide +kernel) (by decide +kernel)
set_option maxRecDepth 20000 in
theorem gX8_copyFrom_X10_copy_n44 : GoodIn wsX8_copyFrom (wsX10_copy) := ggX8_copyFrom_X10_copy
set_option maxRecDepth 20000 in
theorem ggX8_addPrince_X8_setFond : GoodIn wsX8_addPrince wsX8_setFond := goodIn_r _ [7, 8, 9, 10, 11, 17, 18, 19, 20, 21, 22, 23, 24, 25] (by decide +kernel) (by decide +kernel)
set_option maxRecDepth 20000 in
theorem gX8_addPrince_X8_setFond : GoodIn wsX8_addPrince (wsV RX8 48 RX8 yX8_setFond wsX8_setFond) := goodIn_app (goodIn_of _ (by decide +kernel)) ggX8_addPrince_X8_setFond
set_option maxRecDepth 20000 in
theorem ggX8_addPrince_X8_setBoy : GoodIn wsX8_addPrince wsX8_setBoy := goodIn_r _ [15, 16, 9, 10, 11, 17, 18, 19, 20, 21, 22, 23, 24, 25] (by decide +kernel) (by decide +kernel)
set_option maxRecDepth 20000 in
theorem gX8_addPrince_X8_setBoy : GoodIn wsX8_addPrince (wsV RX8 52 RX8 yX8_setBoy wsX8_setBoy) := goodIn_app (goodIn_of _ (by decide +kernel)) ggX8_addPrince_X8_setBoy
set_option maxRecDepth 20000 in
theorem ggX8_addPrince_X10_put : GoodIn wsX8_addPrince wsX10_put := goodIn_r _ [11] (by decide +kernel) (by decide +kernel)
set_option maxRecDepth 20000 in
theorem gX8_addPrince_X10_put_n56 : GoodIn wsX8_addPrince (wsX10_put) := ggX8_addPrince_X10_put
set_option maxRecDepth 20000 in
theorem ggX8_addHeard_X10_put : GoodIn wsX8_addHeard wsX10_put := goodIn_r _ [7] (by decide +kernel) (by decide +kernel)
set_option maxRecDepth 20000 in
theorem gX8_addHeard_X10_put_n56 : GoodIn wsX8_addHeard (wsX10_put) := ggX8_addHeard_X10_put
set_option maxRecDepth 20000 in
theorem ggX8_fondOf_X10_at : GoodIn wsX8_fondOf wsX10_at := goodIn_r _ [4] (by decide +kernel) (by decide +kernel)
set_option maxRecDepth 20000 in
theorem gX8_fondOf_X10_at_n60 : GoodIn wsX8_fondOf (wsX10_at) := ggX8_fondOf_X10_at
set_option maxRecDepth 20000 in
theorem ggX8_setFond_X10_put : GoodIn wsX8_setFond wsX10_put := goodIn_r _ [4] (by decide +kernel) (by decide +kernel)
set_option maxRecDepth 20000 in
theorem gX8_setFond_X10_put_n56 : GoodIn wsX8_setFond (wsX10_put) := ggX8_setFond_X10_put
set_option maxRecDepth 20000 in
theorem ggX8_boyOf_X10_at : GoodIn wsX8_boyOf wsX10_at := goodIn_r _ [4] (by decide +kernel) (by decide +kernel)
set_option maxRecDepth 20000 in
theorem gX8_boyOf_X10_at_n60 : GoodIn wsX8_boyOf (wsX10_at) := ggX8_boyOf_X10_at
set_option maxRecDepth 20000 in
theorem ggX8_setBoy_X10_put : GoodIn wsX8_setBoy wsX10_put := goodIn_r _ [4] (by decide +kernel) (by decide +kernel)
set_option maxRecDepth 20000 in
theorem gX8_setBoy_X10_put_n56 : GoodIn wsX8_setBoy (wsX10_put) := ggX8_setBoy_X10_put
set_option maxRecDepth 20000 in
theorem ggX8_fondOfHisBoy_X8_boyOf : GoodIn wsX8_fondOfHisBoy wsX8_boyOf := goodIn_r _ [5, 6, 7, 8, 9, 15, 16, 17, 18, 19, 20, 21, 22, 23] (by decide +kernel) (by decide +kernel)
set_option maxRecDepth 20000 in
theorem gX8_fondOfHisBoy_X8_boyOf : GoodIn wsX8_fondOfHisBoy (wsV RX8 64 RX8 yX8_boyOf wsX8_boyOf) := goodIn_app (goodIn_of _ (by decide +kernel)) ggX8_fondOfHisBoy_X8_boyOf
set_option maxRecDepth 20000 in
theorem ggX8_fondOfHisBoy_X8_fondOf : GoodIn wsX8_fondOfHisBoy wsX8_fondOf := goodIn_r _ [13, 14, 7, 8, 9, 15, 16, 17, 18, 19, 20, 21, 22, 23] (by decide +kernel) (by decide +kernel)
set_option maxRecDepth 20000 in
theorem gX8_fondOfHisBoy_X8_fondOf : GoodIn wsX8_fondOfHisBoy (wsV RX8 68 RX8 yX8_fondOf wsX8_fondOf) := goodIn_app (goodIn_of _ (by decide +kernel)) ggX8_fondOfHisBoy_X8_fondOf
set_option maxRecDepth 20000 in
theorem ggX8_stripesOf_X10_at : GoodIn wsX8_stripesOf wsX10_at := goodIn_r _ [4] (by decide +kernel) (by decide +kernel)
set_option maxRecDepth 20000 in
theorem gX8_stripesOf_X10_at_n60 : GoodIn wsX8_stripesOf (wsX10_at) := ggX8_stripesOf_X10_at
set_option maxRecDepth 20000 in
theorem ggX8_allStripes_X10_sum : GoodIn wsX8_allStripes wsX10_sum := goodIn_r _ [4] (by decide +kernel) (by decide +kernel)
set_option maxRecDepth 20000 in
theorem gX8_allStripes_X10_sum_n72 : GoodIn wsX8_allStripes (wsX10_sum) := ggX8_allStripes_X10_sum
set_option maxRecDepth 20000 in
theorem ggX8_learntBy_X10_at : GoodIn wsX8_learntBy wsX10_at := goodIn_r _ [4] (by decide +kernel) (by decide +kernel)
set_option maxRecDepth 20000 in
theorem gX8_learntBy_X10_at_n60 : GoodIn wsX8_learntBy (wsX10_at) := ggX8_learntBy_X10_at
set_option maxRecDepth 20000 in
theorem ggX8_whoLearnt_X8_learntBy : GoodIn wsX8_whoLearnt wsX8_learntBy := goodIn_r _ [6, 7, 8, 9, 10, 13, 14, 15, 16, 17, 18, 19, 20, 21] (by decide +kernel) (by decide +kernel)
set_option maxRecDepth 20000 in
theorem gX8_whoLearnt_X8_learntBy : GoodIn wsX8_whoLearnt (wsV RX8 76 RX8 yX8_learntBy wsX8_learntBy) := goodIn_app (goodIn_of _ (by decide +kernel)) ggX8_whoLearnt_X8_learntBy
set_option maxRecDepth 20000 in
theorem ggX8_whoLearnt_X10_isIn : GoodIn wsX8_whoLearnt wsX10_isIn := goodIn_r _ [12] (by decide +kernel) (by decide +kernel)
set_option maxRecDepth 20000 in
theorem gX8_whoLearnt_X10_isIn_n79 : GoodIn wsX8_whoLearnt (wsX10_isIn) := ggX8_whoLearnt_X10_isIn
set_option maxRecDepth 20000 in
theorem ggX8_allLearnt_X8_learntBy : GoodIn wsX8_allLearnt wsX8_learntBy := goodIn_r _ [6, 7, 8, 9, 10, 18, 19, 20, 21, 22, 23, 24, 25, 26] (by decide +kernel) (by decide +kernel)
set_option maxRecDepth 20000 in
theorem gX8_allLearnt_X8_learntBy : GoodIn wsX8_allLearnt (wsV RX8 76 RX8 yX8_learntBy wsX8_learntBy) := goodIn_app (goodIn_of _ (by decide +kernel)) ggX8_allLearnt_X8_learntBy
set_option maxRecDepth 20000 in
theorem ggX8_allLearnt_J6_bitCount_0f7a4 : GoodIn wsX8_allLearnt wsJ6_bitCount_0f7a4 := goodIn_r _ [14, 15, 16, 17] (by decide +kernel) (by decide +kernel)
set_option maxRecDepth 20000 in
theorem gX8_allLearnt_J6_bitCount_0f7a4 : GoodIn wsX8_allLearnt (va_wsS RX8 83 yJ6_bitCount_0f7a4 wsJ6_bitCount_0f7a4) := goodIn_app (goodIn_of _ (by decide +kernel)) ggX8_allLearnt_J6_bitCount_0f7a4
set_option maxRecDepth 20000 in
theorem ggX8_learn_X8_learntBy : GoodIn wsX8_learn wsX8_learntBy := goodIn_r _ [6, 1, 7, 8, 9, 12, 13, 14, 15, 16, 17, 18, 19, 20] (by decide +kernel) (by decide +kernel)
set_option maxRecDepth 20000 in
theorem gX8_learn_X8_learntBy : GoodIn wsX8_learn (wsV RX8 76 RX8 yX8_learntBy wsX8_learntBy) := goodIn_app (goodIn_of _ (by decide +kernel)) ggX8_learn_X8_learntBy
set_option maxRecDepth 20000 in
theorem ggX8_learn_X10_put : GoodIn wsX8_learn wsX10_put := goodIn_r _ [11] (by decide +kernel) (by decide +kernel)
set_option maxRecDepth 20000 in
theorem gX8_learn_X10_put_n56 : GoodIn wsX8_learn (wsX10_put) := ggX8_learn_X10_put
set_option maxRecDepth 20000 in
theorem ggX8_beat_X8_boyOf : GoodIn wsX8_beat wsX8_boyOf := goodIn_r _ [6, 7, 8, 9, 10, 35, 36, 37, 38, 39, 40, 41, 42, 43] (by decide +kernel) (by decide +kernel)
set_option maxRecDepth 20000 in
theorem gX8_beat_X8_boyOf : GoodIn wsX8_beat (wsV RX8 64 RX8 yX8_boyOf wsX8_boyOf) := goodIn_app (goodIn_of _ (by decide +kernel)) ggX8_beat_X8_boyOf
set_option maxRecDepth 20000 in
theorem ggX8_beat_X8_stripesOf : GoodIn wsX8_beat wsX8_stripesOf := goodIn_r _ [14, 1, 8, 9, 10, 35, 36, 37, 38, 39, 40, 41, 42, 43] (by decide +kernel) (by decide +kernel)
set_option maxRecDepth 20000 in
theorem gX8_beat_X8_stripesOf : GoodIn wsX8_beat (wsV RX8 88 RX8 yX8_stripesOf wsX8_stripesOf) := goodIn_app (goodIn_of _ (by decide +kernel)) ggX8_beat_X8_stripesOf
set_option maxRecDepth 20000 in
theorem ggX8_beat_X10_put : GoodIn wsX8_beat wsX10_put := goodIn_r _ [16] (by decide +kernel) (by decide +kernel)
set_option maxRecDepth 20000 in
theorem gX8_beat_X10_put_n56 : GoodIn wsX8_beat (wsX10_put) := ggX8_beat_X10_put
set_option maxRecDepth 20000 in
theorem ggX8_beat_X8_fondOf : GoodIn wsX8_beat wsX8_fondOf := goodIn_r _ [20, 21, 8, 9, 10, 35, 36, 37, 38, 39, 40, 41, 42, 43] (by decide +kernel) (by decide +kernel)
set_option maxRecDepth 20000 in
theorem gX8_beat_X8_fondOf : GoodIn wsX8_beat (wsV RX8 68 RX8 yX8_fondOf wsX8_fondOf) := goodIn_app (goodIn_of _ (by decide +kernel)) ggX8_beat_X8_fondOf
set_option maxRecDepth 20000 in
theorem ggX8_beat_X10_fondAfterBlows : GoodIn wsX8_beat wsX10_fondAfterBlows := goodIn_r _ [23, 24, 25, 26, 27, 28, 29, 30] (by decide +kernel) (by decide +kernel)
set_option maxRecDepth 20000 in
theorem gX8_beat_X10_fondAfterBlows_n91 : GoodIn wsX8_beat (wsX10_fondAfterBlows) := ggX8_beat_X10_fondAfterBlows
set_option maxRecDepth 20000 in
theorem ggX8_beat_X8_setFond : GoodIn wsX8_beat wsX8_setFond := goodIn_r _ [34, 21, 15, 9, 16, 35, 36, 37, 38, 39, 40, 41, 42, 43] (by decide +kernel) (by decide +kernel)
set_option maxRecDepth 20000 in
theorem gX8_beat_X8_setFond : GoodIn wsX8_beat (wsV RX8 48 RX8 yX8_setFond wsX8_setFond) := goodIn_app (goodIn_of _ (by decide +kernel)) ggX8_beat_X8_setFond
set_option maxRecDepth 20000 in
theorem ggX9_read_X5_digitAt : GoodIn wsX9_read wsX5_digitAt := goodIn_r _ [8, 9, 10, 11, 12, 15, 16] (by decide +kernel) (by decide +kernel)
set_option maxRecDepth 20000 in
theorem gX9_read_X5_digitAt_n30 : GoodIn wsX9_read (wsX5_digitAt) := ggX9_read_X5_digitAt
set_option maxRecDepth 20000 in
theorem ggX9_read_X10_put : GoodIn wsX9_read wsX10_put := goodIn_r _ [14] (by decide +kernel) (by decide +kernel)
set_option maxRecDepth 20000 in
theorem gX9_read_X10_put_n34 : GoodIn wsX9_read (wsX10_put) := ggX9_read_X10_put
set_option maxRecDepth 20000 in
theorem ggX9_hardOf_X10_at : GoodIn wsX9_hardOf wsX10_at := goodIn_r _ [4] (by decide +kernel) (by decide +kernel)
set_option maxRecDepth 20000 in
theorem gX9_hardOf_X10_at_n38 : GoodIn wsX9_hardOf (wsX10_at) := ggX9_hardOf_X10_at
set_option maxRecDepth 20000 in
theorem ggX9_blowsOf_X10_at : GoodIn wsX9_blowsOf wsX10_at := goodIn_r _ [4] (by decide +kernel) (by decide +kernel)
set_option maxRecDepth 20000 in
theorem gX9_blowsOf_X10_at_n38 : GoodIn wsX9_blowsOf (wsX10_at) := ggX9_blowsOf_X10_at
set_option maxRecDepth 20000 in
theorem ggX9_tenthsFor_X1_feels : GoodIn wsX9_tenthsFor wsX1_feels := goodIn_r _ [15] (by decide +kernel) (by decide +kernel)
set_option maxRecDepth 20000 in
theorem gX9_tenthsFor_X1_feels_u47X1 : GoodIn wsX9_tenthsFor (va_wsO RX9 47 RX1 "BeatenInstead$Prince" ⟨"BeatenInstead$Prince", "feels", "(I)I"⟩ yX1_feels wsX1_feels) := goodIn_app (goodIn_of _ (by decide +kernel)) ggX9_tenthsFor_X1_feels
set_option maxRecDepth 20000 in
theorem ggX9_tenthsFor_X2_feels : GoodIn wsX9_tenthsFor wsX2_feels := goodIn_r _ [20, 21, 22, 23, 24, 25, 26] (by decide +kernel) (by decide +kernel)
set_option maxRecDepth 20000 in
theorem gX9_tenthsFor_X2_feels_u47X2 : GoodIn wsX9_tenthsFor (va_wsO RX9 47 RX2 "BeatenInstead$Prince" ⟨"BeatenInstead$Prince", "feels", "(I)I"⟩ yX2_feels wsX2_feels) := goodIn_app (goodIn_of _ (by decide +kernel)) ggX9_tenthsFor_X2_feels
set_option maxRecDepth 20000 in
theorem ggX9_tenthsFor_X3_feels : GoodIn wsX9_tenthsFor wsX3_feels := goodIn_r _ [30] (by decide +kernel) (by decide +kernel)
set_option maxRecDepth 20000 in
theorem gX9_tenthsFor_X3_feels_u47X3 : GoodIn wsX9_tenthsFor (va_wsO RX9 47 RX3 "BeatenInstead$Prince" ⟨"BeatenInstead$Prince", "feels", "(I)I"⟩ yX3_feels wsX3_feels) := goodIn_app (goodIn_of _ (by decide +kernel)) ggX9_tenthsFor_X3_feels
set_option maxRecDepth 20000 in
theorem ggX9_tenthsFor_X6_feels : GoodIn wsX9_tenthsFor wsX6_feels := goodIn_r _ [16] (by decide +kernel) (by decide +kernel)
set_option maxRecDepth 20000 in
theorem gX9_tenthsFor_X6_feels : GoodIn wsX9_tenthsFor (wsV RX9 47 RX6 yX6_feels wsX6_feels) := goodIn_app (goodIn_of _ (by decide +kernel)) ggX9_tenthsFor_X6_feels
set_option maxRecDepth 20000 in
theorem ggX9_tenthsFor_X7_feels : GoodIn wsX9_tenthsFor wsX7_feels := goodIn_r _ [26] (by decide +kernel) (by decide +kernel)
set_option maxRecDepth 20000 in
theorem gX9_tenthsFor_X7_feels_u47X7 : GoodIn wsX9_tenthsFor (va_wsO RX9 47 RX7 "BeatenInstead$Prince" ⟨"BeatenInstead$Prince", "feels", "(I)I"⟩ yX7_feels wsX7_feels) := goodIn_app (goodIn_of _ (by decide +kernel)) ggX9_tenthsFor_X7_feels
set_option maxRecDepth 20000 in
theorem ggX9_tenthsFor_X9_hardOf : GoodIn wsX9_tenthsFor wsX9_hardOf := goodIn_r _ [40, 41, 42, 43, 44, 50, 51, 52, 53] (by decide +kernel) (by decide +kernel)
set_option maxRecDepth 20000 in
theorem gX9_tenthsFor_X9_hardOf : GoodIn wsX9_tenthsFor (wsV RX9 50 RX9 yX9_hardOf wsX9_hardOf) := goodIn_app (goodIn_of _ (by decide +kernel)) ggX9_tenthsFor_X9_hardOf
set_option maxRecDepth 20000 in
theorem ggX10_init_X5_init : GoodIn wsX10_init wsX5_init := goodIn_r _ [32, 33, 2, 3, 34, 35, 36, 71, 72] (by decide +kernel) (by decide +kernel)
set_option maxRecDepth 20000 in
theorem gX10_init_X5_init_n11 : GoodIn wsX10_init (wsX5_init) := ggX10_init_X5_init
set_option maxRecDepth 20000 in
theorem ggX10_init_X9_init : GoodIn wsX10_init wsX9_init := goodIn_r _ [38, 39, 2, 3, 34, 40, 41, 42, 43, 84, 85, 86, 87] (by decide +kernel) (by decide +kernel)
set_option maxRecDepth 20000 in
theorem gX10_init_X9_init_n18 : GoodIn wsX10_init (wsX9_init) := ggX10_init_X9_init
set_option maxRecDepth 20000 in
theorem ggX10_init_X8_init : GoodIn wsX10_init wsX8_init := goodIn_r _ [45, 46, 2, 3, 47, 34, 48, 49, 50, 51, 52, 53, 54, 55, 88, 89, 90, 91, 92, 93, 94, 95, 96] (by decide +kernel) (by decide +kernel)
set_option maxRecDepth 20000 in
theorem gX10_init_X8_init_n31 : GoodIn wsX10_init (wsX8_init) := ggX10_init_X8_init
set_option maxRecDepth 20000 in
theorem ggX10_init_X4_init : GoodIn wsX10_init wsX4_init := goodIn_r _ [57, 58, 2, 3, 34, 59, 60, 61, 62, 63, 97, 98, 99, 100, 101] (by decide +kernel) (by decide +kernel)
set_option maxRecDepth 20000 in
theorem gX10_init_X4_init_n44 : GoodIn wsX10_init (wsX4_init) := ggX10_init_X4_init
set_option maxRecDepth 20000 in
theorem ggX10_init_X0_init : GoodIn wsX10_init wsX0_init := goodIn_r _ [65, 66, 2, 3, 67, 68, 69, 70, 102, 103, 104, 105] (by decide +kernel) (by decide +kernel)
set_option maxRecDepth 20000 in
theorem gX10_init_X0_init_n51 : GoodIn wsX10_init (wsX0_init) := ggX10_init_X0_init
set_option maxRecDepth 20000 in
theorem ggX10_letter_X5_add : GoodIn wsX10_letter wsX5_add := goodIn_r _ [5, 6, 7, 8, 9, 10, 22, 23] (by decide +kernel) (by decide +kernel)
set_option maxRecDepth 20000 in
theorem gX10_letter_X5_add_n70 : GoodIn wsX10_letter (wsX5_add) := ggX10_letter_X5_add
set_option maxRecDepth 20000 in
theorem ggX10_fault_X5_firstFault : GoodIn wsX10_fault wsX5_firstFault := goodIn_r _ [5, 6, 7, 8, 9, 3, 10, 11, 12, 13, 14, 15, 16, 17, 18, 19, 20, 21, 22, 23, 24, 25, 26, 27, 28, 29, 30, 42, 43] (by decide +kernel) (by decide +kernel)
set_option maxRecDepth 20000 in
theorem gX10_fault_X5_firstFault_n74 : GoodIn wsX10_fault (wsX5_firstFault) := ggX10_fault_X5_firstFault
set_option maxRecDepth 20000 in
theorem ggX10_school_X5_isWhole : GoodIn wsX10_school wsX5_isWhole := goodIn_r _ [9, 10, 11, 12, 13, 7, 14, 15, 16, 17, 18, 19, 20, 21, 22, 23, 24, 25, 26, 27, 28, 29, 30, 31, 32, 33, 34, 35, 36, 37, 38, 69, 70] (by decide +kernel) (by decide +kernel)
set_option maxRecDepth 20000 in
theorem gX10_school_X5_isWhole_n78 : GoodIn wsX10_school (wsX5_isWhole) := ggX10_school_X5_isWhole
set_option maxRecDepth 20000 in
theorem ggX10_school_X9_read : GoodIn wsX10_school wsX9_read := goodIn_r _ [42, 43, 44, 45, 46, 24, 7, 25, 26, 27, 28, 29, 30, 47, 48, 69, 70, 71, 72, 73, 74] (by decide +kernel) (by decide +kernel)
set_option maxRecDepth 20000 in
theorem gX10_school_X9_read_n82 : GoodIn wsX10_school (wsX9_read) := ggX10_school_X9_read
set_option maxRecDepth 20000 in
theorem ggX10_school_X8_clear : GoodIn wsX10_school wsX8_clear := goodIn_r _ [52, 53, 54, 55, 56, 29, 57, 75, 76, 77, 78, 79, 80, 81, 82, 83] (by decide +kernel) (by decide +kernel)
set_option maxRecDepth 20000 in
theorem gX10_school_X8_clear_n86 : GoodIn wsX10_school (wsX8_clear) := ggX10_school_X8_clear
set_option maxRecDepth 20000 in
theorem ggX10_lesson_X9_has : GoodIn wsX10_lesson wsX9_has := goodIn_r _ [6, 7, 42, 43, 44, 45] (by decide +kernel) (by decide +kernel)
set_option maxRecDepth 20000 in
theorem gX10_lesson_X9_has_n92 : GoodIn wsX10_lesson (wsX9_has) := ggX10_lesson_X9_has
set_option maxRecDepth 20000 in
theorem ggX10_lesson_X9_hardOf : GoodIn wsX10_lesson wsX9_hardOf := goodIn_r _ [10, 11, 12, 13, 14, 42, 43, 44, 45] (by decide +kernel) (by decide +kernel)
set_option maxRecDepth 20000 in
theorem gX10_lesson_X9_hardOf_n96 : GoodIn wsX10_lesson (wsX9_hardOf) := ggX10_lesson_X9_hardOf
set_option maxRecDepth 20000 in
theorem ggX10_lesson_X9_blowsOf : GoodIn wsX10_lesson wsX9_blowsOf := goodIn_r _ [17, 18, 12, 13, 14, 42, 43, 44, 45] (by decide +kernel) (by decide +kernel)
set_option maxRecDepth 20000 in
theorem gX10_lesson_X9_blowsOf_n100 : GoodIn wsX10_lesson (wsX9_blowsOf) := ggX10_lesson_X9_blowsOf
set_option maxRecDepth 20000 in
theorem ggX10_lesson_X8_whoLearnt : GoodIn wsX10_lesson wsX8_whoLearnt := goodIn_r _ [22, 23, 24, 25, 26, 20, 27, 28, 12, 13, 14, 29, 30, 46, 47, 48, 49, 50, 51, 52, 53, 54] (by decide +kernel) (by decide +kernel)
set_option maxRecDepth 20000 in
theorem gX10_lesson_X8_whoLearnt_n103 : GoodIn wsX10_lesson (wsX8_whoLearnt) := ggX10_lesson_X8_whoLearnt
set_option maxRecDepth 20000 in
theorem ggX10_stripes_X9_isRead : GoodIn wsX10_stripes wsX9_isRead := goodIn_r _ [6, 7, 30, 31, 32, 33] (by decide +kernel) (by decide +kernel)
set_option maxRecDepth 20000 in
theorem gX10_stripes_X9_isRead_n106 : GoodIn wsX10_stripes (wsX9_isRead) := ggX10_stripes_X9_isRead
set_option maxRecDepth 20000 in
theorem ggX10_stripes_X10_isBoy : GoodIn wsX10_stripes wsX10_isBoy := goodIn_r _ [11] (by decide +kernel) (by decide +kernel)
set_option maxRecDepth 20000 in
theorem gX10_stripes_X10_isBoy : GoodIn wsX10_stripes (va_wsS RX10 109 yX10_isBoy wsX10_isBoy) := goodIn_app (goodIn_of _ (by decide +kernel)) ggX10_stripes_X10_isBoy
set_option maxRecDepth 20000 in
theorem ggX10_stripes_X8_stripesOf : GoodIn wsX10_stripes wsX8_stripesOf := goodIn_r _ [15, 16, 17, 10, 18, 34, 35, 36, 37, 38, 39, 40, 41, 42] (by decide +kernel) (by decide +kernel)
set_option maxRecDepth 20000 in
theorem gX10_stripes_X8_stripesOf_n112 : GoodIn wsX10_stripes (wsX8_stripesOf) := ggX10_stripes_X8_stripesOf
set_option maxRecDepth 20000 in
theorem ggX10_prince_X10_isKind : GoodIn wsX10_prince wsX10_isKind := goodIn_r _ [7] (by decide +kernel) (by decide +kernel)
set_option maxRecDepth 20000 in
theorem gX10_prince_X10_isKind : GoodIn wsX10_prince (va_wsS RX10 115 yX10_isKind wsX10_isKind) := goodIn_app (goodIn_of _ (by decide +kernel)) ggX10_prince_X10_isKind
set_option maxRecDepth 20000 in
theorem ggX10_prince_X9_isRead : GoodIn wsX10_prince wsX9_isRead := goodIn_r _ [11, 12, 92, 93, 94, 95] (by decide +kernel) (by decide +kernel)
set_option maxRecDepth 20000 in
theorem gX10_prince_X9_isRead_n106 : GoodIn wsX10_prince (wsX9_isRead) := ggX10_prince_X9_isRead
set_option maxRecDepth 20000 in
theorem ggX10_prince_X10_makePrince : GoodIn wsX10_prince wsX10_makePrince := goodIn_r _ [15, 16, 17, 18, 19, 20, 21, 22, 23, 24, 25, 26, 27, 28, 29, 30, 31, 32, 33, 34, 35, 36, 37, 38, 39, 40, 41, 42, 43, 44, 45, 46, 47, 48, 49, 50, 51, 52, 53, 96, 97, 98, 99, 100] (by decide +kernel) (by decide +kernel)
set_option maxRecDepth 20000 in
theorem gX10_prince_X10_makePrince : GoodIn wsX10_prince (va_wsS RX10 120 yX10_makePrince wsX10_makePrince) := goodIn_app (goodIn_of _ (by decide +kernel)) ggX10_prince_X10_makePrince
set_option maxRecDepth 20000 in
theorem ggX10_prince_X8_addPrince : GoodIn wsX10_prince wsX8_addPrince := goodIn_r _ [57, 58, 59, 60, 61, 62, 55, 63, 64, 65, 6, 66, 67, 68, 69, 70, 71, 83, 84, 85, 86, 87, 88, 89, 90, 91] (by decide +kernel) (by decide +kernel)
set_option maxRecDepth 20000 in
theorem gX10_prince_X8_addPrince_n124 : GoodIn wsX10_prince (wsX8_addPrince) := ggX10_prince_X8_addPrince
set_option maxRecDepth 20000 in
theorem ggX10_about_X10_princeOf : GoodIn wsX10_about wsX10_princeOf := goodIn_r _ [7, 2, 8, 83, 84, 85, 86, 87, 88, 89, 90, 91, 92, 93, 94, 95, 96, 97, 98, 99, 100, 101, 102] (by decide +kernel) (by decide +kernel)
set_option maxRecDepth 20000 in
theorem gX10_about_X10_princeOf : GoodIn wsX10_about (wsV RX10 127 RX10 yX10_princeOf wsX10_princeOf) := goodIn_app (goodIn_of _ (by decide +kernel)) ggX10_about_X10_princeOf
set_option maxRecDepth 20000 in
theorem ggX10_about_X1_kind : GoodIn wsX10_about wsX1_kind := goodIn_r _ [15] (by decide +kernel) (by decide +kernel)
set_option maxRecDepth 20000 in
theorem gX10_about_X1_kind_u131X1 : GoodIn wsX10_about (va_wsO RX10 131 RX1 "BeatenInstead$Prince" ⟨"BeatenInstead$Prince", "kind", "()I"⟩ yX1_kind wsX1_kind) := goodIn_app (goodIn_of _ (by decide +kernel)) ggX10_about_X1_kind
set_option maxRecDepth 20000 in
theorem ggX10_about_X2_kind : GoodIn wsX10_about wsX2_kind := goodIn_r _ [20] (by decide +kernel) (by decide +kernel)
set_option maxRecDepth 20000 in
theorem gX10_about_X2_kind_u131X2 : GoodIn wsX10_about (va_wsO RX10 131 RX2 "BeatenInstead$Prince" ⟨"BeatenInstead$Prince", "kind", "()I"⟩ yX2_kind wsX2_kind) := goodIn_app (goodIn_of _ (by decide +kernel)) ggX10_about_X2_kind
set_option maxRecDepth 20000 in
theorem ggX10_about_X3_kind : GoodIn wsX10_about wsX3_kind := goodIn_r _ [24] (by decide +kernel) (by decide +kernel)
set_option maxRecDepth 20000 in
theorem gX10_about_X3_kind_u131X3 : GoodIn wsX10_about (va_wsO RX10 131 RX3 "BeatenInstead$Prince" ⟨"BeatenInstead$Prince", "kind", "()I"⟩ yX3_kind wsX3_kind) := goodIn_app (goodIn_of _ (by decide +kernel)) ggX10_about_X3_kind
set_option maxRecDepth 20000 in
theorem ggX10_about_X6_kind : GoodIn wsX10_about wsX6_kind := goodIn_r _ [16] (by decide +kernel) (by decide +kernel)
set_option maxRecDepth 20000 in
theorem gX10_about_X6_kind : GoodIn wsX10_about (wsV RX10 131 RX6 yX6_kind wsX6_kind) := goodIn_app (goodIn_of _ (by decide +kernel)) ggX10_about_X6_kind
set_option maxRecDepth 20000 in
theorem ggX10_about_X7_kind : GoodIn wsX10_about wsX7_kind := goodIn_r _ [32] (by decide +kernel) (by decide +kernel)
set_option maxRecDepth 20000 in
theorem gX10_about_X7_kind_u131X7 : GoodIn wsX10_about (va_wsO RX10 131 RX7 "BeatenInstead$Prince" ⟨"BeatenInstead$Prince", "kind", "()I"⟩ yX7_kind wsX7_kind) := goodIn_app (goodIn_of _ (by decide +kernel)) ggX10_about_X7_kind
set_option maxRecDepth 20000 in
theorem ggX10_about_X8_boyOf : GoodIn wsX10_about wsX8_boyOf := goodIn_r _ [36, 37, 38, 6, 39, 94, 95, 96, 97, 98, 99, 100, 101, 102] (by decide +kernel) (by decide +kernel)
set_option maxRecDepth 20000 in
theorem gX10_about_X8_boyOf_n137 : GoodIn wsX10_about (wsX8_boyOf) := ggX10_about_X8_boyOf
set_option maxRecDepth 20000 in
theorem ggX10_about_X8_fondOfHisBoy : GoodIn wsX10_about wsX8_fondOfHisBoy := goodIn_r _ [42, 43, 33, 35, 34, 36, 37, 38, 6, 39, 44, 45, 46, 47, 48, 94, 95, 96, 97, 98, 99, 100, 101, 102] (by decide +kernel) (by decide +kernel)
set_option maxRecDepth 20000 in
theorem gX10_about_X8_fondOfHisBoy_n140 : GoodIn wsX10_about (wsX8_fondOfHisBoy) := ggX10_about_X8_fondOfHisBoy
set_option maxRecDepth 20000 in
theorem ggX10_about_X1_feels : GoodIn wsX10_about wsX1_feels := goodIn_r _ [54] (by decide +kernel) (by decide +kernel)
set_option maxRecDepth 20000 in
theorem gX10_about_X1_feels_u143X1 : GoodIn wsX10_about (va_wsO RX10 143 RX1 "BeatenInstead$Prince" ⟨"BeatenInstead$Prince", "feels", "(I)I"⟩ yX1_feels wsX1_feels) := goodIn_app (goodIn_of _ (by decide +kernel)) ggX10_about_X1_feels
set_option maxRecDepth 20000 in
theorem ggX10_about_X2_feels : GoodIn wsX10_about wsX2_feels := goodIn_r _ [58, 59, 60, 61, 62, 31, 63] (by decide +kernel) (by decide +kernel)
set_option maxRecDepth 20000 in
theorem gX10_about_X2_feels_u143X2 : GoodIn wsX10_about (va_wsO RX10 143 RX2 "BeatenInstead$Prince" ⟨"BeatenInstead$Prince", "feels", "(I)I"⟩ yX2_feels wsX2_feels) := goodIn_app (goodIn_of _ (by decide +kernel)) ggX10_about_X2_feels
set_option maxRecDepth 20000 in
theorem ggX10_about_X3_feels : GoodIn wsX10_about wsX3_feels := goodIn_r _ [66] (by decide +kernel) (by decide +kernel)
set_option maxRecDepth 20000 in
theorem gX10_about_X3_feels_u143X3 : GoodIn wsX10_about (va_wsO RX10 143 RX3 "BeatenInstead$Prince" ⟨"BeatenInstead$Prince", "feels", "(I)I"⟩ yX3_feels wsX3_feels) := goodIn_app (goodIn_of _ (by decide +kernel)) ggX10_about_X3_feels
set_option maxRecDepth 20000 in
theorem ggX10_about_X6_feels : GoodIn wsX10_about wsX6_feels := goodIn_r _ [55] (by decide +kernel) (by decide +kernel)
set_option maxRecDepth 20000 in
theorem gX10_about_X6_feels : GoodIn wsX10_about (wsV RX10 143 RX6 yX6_feels wsX6_feels) := goodIn_app (goodIn_of _ (by decide +kernel)) ggX10_about_X6_feels
set_option maxRecDepth 20000 in
theorem ggX10_about_X7_feels : GoodIn wsX10_about wsX7_feels := goodIn_r _ [63] (by decide +kernel) (by decide +kernel)
set_option maxRecDepth 20000 in
theorem gX10_about_X7_feels_u143X7 : GoodIn wsX10_about (va_wsO RX10 143 RX7 "BeatenInstead$Prince" ⟨"BeatenInstead$Prince", "feels", "(I)I"⟩ yX7_feels wsX7_feels) := goodIn_app (goodIn_of _ (by decide +kernel)) ggX10_about_X7_feels
set_option maxRecDepth 20000 in
theorem ggX10_about_X8_learntBy : GoodIn wsX10_about wsX8_learntBy := goodIn_r _ [73, 74, 38, 6, 39, 94, 95, 96, 97, 98, 99, 100, 101, 102] (by decide +kernel) (by decide +kernel)
set_option maxRecDepth 20000 in
theorem gX10_about_X8_learntBy_n146 : GoodIn wsX10_about (wsX8_learntBy) := ggX10_about_X8_learntBy
set_option maxRecDepth 20000 in
theorem ggX10_about_X10_isBoy : GoodIn wsX10_about wsX10_isBoy := goodIn_r _ [77] (by decide +kernel) (by decide +kernel)
set_option maxRecDepth 20000 in
theorem gX10_about_X10_isBoy : GoodIn wsX10_about (va_wsS RX10 109 yX10_isBoy wsX10_isBoy) := goodIn_app (goodIn_of _ (by decide +kernel)) ggX10_about_X10_isBoy
set_option maxRecDepth 20000 in
theorem ggX10_about_X8_fondOf : GoodIn wsX10_about wsX8_fondOf := goodIn_r _ [47, 48, 38, 6, 39, 94, 95, 96, 97, 98, 99, 100, 101, 102] (by decide +kernel) (by decide +kernel)
set_option maxRecDepth 20000 in
theorem gX10_about_X8_fondOf_n149 : GoodIn wsX10_about (wsX8_fondOf) := ggX10_about_X8_fondOf
set_option maxRecDepth 20000 in
theorem ggX10_as_X10_princeOf : GoodIn wsX10_as wsX10_princeOf := goodIn_r _ [5, 6, 7, 26, 27, 28, 29, 30, 31, 32, 33, 34, 35, 36, 37, 38, 39, 40, 41, 42, 43, 44, 45] (by decide +kernel) (by decide +kernel)
set_option maxRecDepth 20000 in
theorem gX10_as_X10_princeOf : GoodIn wsX10_as (wsV RX10 127 RX10 yX10_princeOf wsX10_princeOf) := goodIn_app (goodIn_of _ (by decide +kernel)) ggX10_as_X10_princeOf
set_option maxRecDepth 20000 in
theorem ggX10_as_X10_isKind : GoodIn wsX10_as wsX10_isKind := goodIn_r _ [10] (by decide +kernel) (by decide +kernel)
set_option maxRecDepth 20000 in
theorem gX10_as_X10_isKind : GoodIn wsX10_as (va_wsS RX10 115 yX10_isKind wsX10_isKind) := goodIn_app (goodIn_of _ (by decide +kernel)) ggX10_as_X10_isKind
set_option maxRecDepth 20000 in
theorem ggX10_as_X6_isOf : GoodIn wsX10_as wsX6_isOf := goodIn_r _ [16, 17, 18, 19, 20] (by decide +kernel) (by decide +kernel)
set_option maxRecDepth 20000 in
theorem gX10_as_X6_isOf_u153X1 : GoodIn wsX10_as (va_wsU RX10 153 RX1 "BeatenInstead$Prince" ⟨"BeatenInstead$Prince", "isOf", "(I)Z"⟩ yX6_isOf wsX6_isOf) := goodIn_app (goodIn_of _ (by decide +kernel)) ggX10_as_X6_isOf
set_option maxRecDepth 20000 in
theorem gX10_as_X6_isOf_u153X2 : GoodIn wsX10_as (va_wsU RX10 153 RX2 "BeatenInstead$Prince" ⟨"BeatenInstead$Prince", "isOf", "(I)Z"⟩ yX6_isOf wsX6_isOf) := goodIn_app (goodIn_of _ (by decide +kernel)) ggX10_as_X6_isOf
set_option maxRecDepth 20000 in
theorem gX10_as_X6_isOf_u153X3 : GoodIn wsX10_as (va_wsU RX10 153 RX3 "BeatenInstead$Prince" ⟨"BeatenInstead$Prince", "isOf", "(I)Z"⟩ yX6_isOf wsX6_isOf) := goodIn_app (goodIn_of _ (by decide +kernel)) ggX10_as_X6_isOf
set_option maxRecDepth 20000 in
theorem gX10_as_X6_isOf : GoodIn wsX10_as (wsV RX10 153 RX6 yX6_isOf wsX6_isOf) := goodIn_app (goodIn_of _ (by decide +kernel)) ggX10_as_X6_isOf
set_option maxRecDepth 20000 in
theorem gX10_as_X6_isOf_u153X7 : GoodIn wsX10_as (va_wsU RX10 153 RX7 "BeatenInstead$Prince" ⟨"BeatenInstead$Prince", "isOf", "(I)Z"⟩ yX6_isOf wsX6_isOf) := goodIn_app (goodIn_of _ (by decide +kernel)) ggX10_as_X6_isOf
set_option maxRecDepth 20000 in
theorem ggX10_give_X10_princeOf : GoodIn wsX10_give wsX10_princeOf := goodIn_r _ [6, 1, 7, 23, 24, 25, 26, 27, 28, 29, 30, 31, 32, 33, 34, 35, 36, 37, 38, 39, 40, 41, 42] (by decide +kernel) (by decide +kernel)
set_option maxRecDepth 20000 in
theorem gX10_give_X10_princeOf : GoodIn wsX10_give (wsV RX10 127 RX10 yX10_princeOf wsX10_princeOf) := goodIn_app (goodIn_of _ (by decide +kernel)) ggX10_give_X10_princeOf
set_option maxRecDepth 20000 in
theorem ggX10_give_X10_isBoy : GoodIn wsX10_give wsX10_isBoy := goodIn_r _ [10] (by decide +kernel) (by decide +kernel)
set_option maxRecDepth 20000 in
theorem gX10_give_X10_isBoy : GoodIn wsX10_give (va_wsS RX10 109 yX10_isBoy wsX10_isBoy) := goodIn_app (goodIn_of _ (by decide +kernel)) ggX10_give_X10_isBoy
set_option maxRecDepth 20000 in
theorem ggX10_give_X8_boyOf : GoodIn wsX10_give wsX8_boyOf := goodIn_r _ [14, 15, 16, 5, 17, 34, 35, 36, 37, 38, 39, 40, 41, 42] (by decide +kernel) (by decide +kernel)
set_option maxRecDepth 20000 in
theorem gX10_give_X8_boyOf_n137 : GoodIn wsX10_give (wsX8_boyOf) := ggX10_give_X8_boyOf
set_option maxRecDepth 20000 in
theorem ggX10_give_X8_setBoy : GoodIn wsX10_give wsX8_setBoy := goodIn_r _ [20, 15, 21, 5, 22, 34, 35, 36, 37, 38, 39, 40, 41, 42] (by decide +kernel) (by decide +kernel)
set_option maxRecDepth 20000 in
theorem gX10_give_X8_setBoy_n156 : GoodIn wsX10_give (wsX8_setBoy) := ggX10_give_X8_setBoy
set_option maxRecDepth 20000 in
theorem ggX10_fond_X10_princeOf : GoodIn wsX10_fond wsX10_princeOf := goodIn_r _ [6, 1, 7, 23, 24, 25, 26, 27, 28, 29, 30, 31, 32, 33, 34, 35, 36, 37, 38, 39, 40, 41, 42] (by decide +kernel) (by decide +kernel)
set_option maxRecDepth 20000 in
theorem gX10_fond_X10_princeOf : GoodIn wsX10_fond (wsV RX10 127 RX10 yX10_princeOf wsX10_princeOf) := goodIn_app (goodIn_of _ (by decide +kernel)) ggX10_fond_X10_princeOf
set_option maxRecDepth 20000 in
theorem ggX10_fond_X10_isBoy : GoodIn wsX10_fond wsX10_isBoy := goodIn_r _ [10] (by decide +kernel) (by decide +kernel)
set_option maxRecDepth 20000 in
theorem gX10_fond_X10_isBoy : GoodIn wsX10_fond (va_wsS RX10 109 yX10_isBoy wsX10_isBoy) := goodIn_app (goodIn_of _ (by decide +kernel)) ggX10_fond_X10_isBoy
set_option maxRecDepth 20000 in
theorem ggX10_fond_X8_fondOf : GoodIn wsX10_fond wsX8_fondOf := goodIn_r _ [14, 15, 16, 5, 17, 34, 35, 36, 37, 38, 39, 40, 41, 42] (by decide +kernel) (by decide +kernel)
set_option maxRecDepth 20000 in
theorem gX10_fond_X8_fondOf_n149 : GoodIn wsX10_fond (wsX8_fondOf) := ggX10_fond_X8_fondOf
set_option maxRecDepth 20000 in
theorem ggX10_fond_X8_setFond : GoodIn wsX10_fond wsX8_setFond := goodIn_r _ [20, 15, 21, 5, 22, 34, 35, 36, 37, 38, 39, 40, 41, 42] (by decide +kernel) (by decide +kernel)
set_option maxRecDepth 20000 in
theorem gX10_fond_X8_setFond_n160 : GoodIn wsX10_fond (wsX8_setFond) := ggX10_fond_X8_setFond
set_option maxRecDepth 20000 in
theorem ggX10_tenths_X10_princeOf : GoodIn wsX10_tenths wsX10_princeOf := goodIn_r _ [7, 2, 8, 73, 74, 75, 76, 77, 78, 79, 80, 81, 82, 83, 84, 85, 86, 87, 88, 89, 90, 91, 92] (by decide +kernel) (by decide +kernel)
set_option maxRecDepth 20000 in
theorem gX10_tenths_X10_princeOf : GoodIn wsX10_tenths (wsV RX10 127 RX10 yX10_princeOf wsX10_princeOf) := goodIn_app (goodIn_of _ (by decide +kernel)) ggX10_tenths_X10_princeOf
set_option maxRecDepth 20000 in
theorem ggX10_tenths_X9_has : GoodIn wsX10_tenths wsX9_has := goodIn_r _ [12, 13, 93, 94, 95, 96] (by decide +kernel) (by decide +kernel)
set_option maxRecDepth 20000 in
theorem gX10_tenths_X9_has_n92 : GoodIn wsX10_tenths (wsX9_has) := ggX10_tenths_X9_has
set_option maxRecDepth 20000 in
theorem ggX10_tenths_X8_fondOfHisBoy : GoodIn wsX10_tenths wsX8_fondOfHisBoy := goodIn_r _ [17, 18, 19, 20, 15, 21, 22, 23, 6, 24, 25, 26, 27, 28, 29, 84, 85, 86, 87, 88, 89, 90, 91, 92] (by decide +kernel) (by decide +kernel)
set_option maxRecDepth 20000 in
theorem gX10_tenths_X8_fondOfHisBoy_n140 : GoodIn wsX10_tenths (wsX8_fondOfHisBoy) := ggX10_tenths_X8_fondOfHisBoy
set_option maxRecDepth 20000 in
theorem ggX10_tenths_X9_tenthsFor : GoodIn wsX10_tenths wsX9_tenthsFor := goodIn_r _ [32, 33, 34, 35, 36, 37, 38, 39, 40, 41, 42, 43, 44, 45, 46, 47, 48, 49, 50, 51, 52, 53, 54, 55, 56, 57, 58, 59, 60, 61, 62, 63, 64, 65, 66, 67, 68, 69, 70, 10, 71, 72, 23, 6, 24, 97, 98, 99, 100, 101, 93, 94, 95, 96] (by decide +kernel) (by decide +kernel)
set_option maxRecDepth 20000 in
theorem gX10_tenths_X9_tenthsFor_n164 : GoodIn wsX10_tenths (wsX9_tenthsFor) := ggX10_tenths_X9_tenthsFor
set_option maxRecDepth 20000 in
theorem ggX10_teach_X10_princeOf : GoodIn wsX10_teach wsX10_princeOf := goodIn_r _ [7, 2, 8, 113, 114, 115, 116, 117, 118, 119, 120, 121, 122, 123, 124, 125, 126, 127, 128, 129, 130, 131, 132] (by decide +kernel) (by decide +kernel)
set_option maxRecDepth 20000 in
theorem gX10_teach_X10_princeOf : GoodIn wsX10_teach (wsV RX10 127 RX10 yX10_princeOf wsX10_princeOf) := goodIn_app (goodIn_of _ (by decide +kernel)) ggX10_teach_X10_princeOf
set_option maxRecDepth 20000 in
theorem ggX10_teach_X9_has : GoodIn wsX10_teach wsX9_has := goodIn_r _ [12, 13, 133, 134, 135, 136] (by decide +kernel) (by decide +kernel)
set_option maxRecDepth 20000 in
theorem gX10_teach_X9_has_n92 : GoodIn wsX10_teach (wsX9_has) := ggX10_teach_X9_has
set_option maxRecDepth 20000 in
theorem ggX10_teach_X8_fondOfHisBoy : GoodIn wsX10_teach wsX8_fondOfHisBoy := goodIn_r _ [17, 18, 19, 20, 15, 21, 22, 23, 6, 24, 25, 26, 27, 28, 29, 124, 125, 126, 127, 128, 129, 130, 131, 132] (by decide +kernel) (by decide +kernel)
set_option maxRecDepth 20000 in
theorem gX10_teach_X8_fondOfHisBoy_n140 : GoodIn wsX10_teach (wsX8_fondOfHisBoy) := ggX10_teach_X8_fondOfHisBoy
set_option maxRecDepth 20000 in
theorem ggX10_teach_X9_tenthsFor : GoodIn wsX10_teach wsX9_tenthsFor := goodIn_r _ [32, 33, 34, 35, 36, 37, 38, 39, 40, 41, 42, 43, 44, 45, 46, 47, 48, 49, 50, 51, 52, 53, 54, 55, 56, 57, 58, 59, 60, 61, 62, 63, 64, 65, 66, 67, 68, 69, 70, 10, 71, 72, 23, 6, 24, 137, 138, 139, 140, 141, 133, 134, 135, 136] (by decide +kernel) (by decide +kernel)
set_option maxRecDepth 20000 in
theorem gX10_teach_X9_tenthsFor_n164 : GoodIn wsX10_teach (wsX9_tenthsFor) := ggX10_teach_X9_tenthsFor
set_option maxRecDepth 20000 in
theorem ggX10_teach_X8_learntBy : GoodIn wsX10_teach wsX8_learntBy := goodIn_r _ [75, 76, 23, 6, 24, 124, 125, 126, 127, 128, 129, 130, 131, 132] (by decide +kernel) (by decide +kernel)
set_option maxRecDepth 20000 in
theorem gX10_teach_X8_learntBy_n146 : GoodIn wsX10_teach (wsX8_learntBy) := ggX10_teach_X8_learntBy
set_option maxRecDepth 20000 in
theorem ggX10_teach_X10_isIn : GoodIn wsX10_teach wsX10_isIn := goodIn_r _ [79] (by decide +kernel) (by decide +kernel)
set_option maxRecDepth 20000 in
theorem gX10_teach_X10_isIn : GoodIn wsX10_teach (va_wsS RX10 168 yX10_isIn wsX10_isIn) := goodIn_app (goodIn_of _ (by decide +kernel)) ggX10_teach_X10_isIn
set_option maxRecDepth 20000 in
theorem ggX10_teach_X10_canBe : GoodIn wsX10_teach wsX10_canBe := goodIn_r _ [82] (by decide +kernel) (by decide +kernel)
set_option maxRecDepth 20000 in
theorem gX10_teach_X10_canBe : GoodIn wsX10_teach (va_wsS RX10 172 yX10_canBe wsX10_canBe) := goodIn_app (goodIn_of _ (by decide +kernel)) ggX10_teach_X10_canBe
set_option maxRecDepth 20000 in
theorem ggX10_teach_X10_setLesson : GoodIn wsX10_teach wsX10_setLesson := goodIn_r _ [86, 1, 87, 15, 88, 89, 76, 90, 73, 74, 75, 23, 6, 24, 91, 92, 93, 10, 94, 95, 96, 97, 98, 99, 100, 18, 19, 20, 21, 22, 101, 102, 103, 104, 25, 26, 27, 28, 29, 105, 106, 107, 35, 36, 37, 108, 39, 40, 109, 110, 111, 112, 113, 114, 115, 116, 117, 118, 119, 120, 121, 122, 123, 133, 134, 135, 136, 124, 125, 126, 127, 128, 129, 130, 131, 132] (by decide +kernel) (by decide +kernel)
set_option maxRecDepth 20000 in
theorem gX10_teach_X10_setLesson : GoodIn wsX10_teach (wsV RX10 176 RX10 yX10_setLesson wsX10_setLesson) := goodIn_app (goodIn_of _ (by decide +kernel)) ggX10_teach_X10_setLesson
set_option maxRecDepth 20000 in
theorem ggX10_teach_X8_boyOf : GoodIn wsX10_teach wsX8_boyOf := goodIn_r _ [21, 22, 23, 6, 24, 124, 125, 126, 127, 128, 129, 130, 131, 132] (by decide +kernel) (by decide +kernel)
set_option maxRecDepth 20000 in
theorem gX10_teach_X8_boyOf_n137 : GoodIn wsX10_teach (wsX8_boyOf) := ggX10_teach_X8_boyOf
set_option maxRecDepth 20000 in
theorem ggX10_teach_X8_stripesOf : GoodIn wsX10_teach wsX8_stripesOf := goodIn_r _ [104, 100, 23, 6, 24, 124, 125, 126, 127, 128, 129, 130, 131, 132] (by decide +kernel) (by decide +kernel)
set_option maxRecDepth 20000 in
theorem gX10_teach_X8_stripesOf_n112 : GoodIn wsX10_teach (wsX8_stripesOf) := ggX10_teach_X8_stripesOf
set_option maxRecDepth 20000 in
theorem ggX10_order_X10_princeOf : GoodIn wsX10_order wsX10_princeOf := goodIn_r _ [12, 5, 13, 124, 125, 126, 127, 128, 129, 130, 131, 132, 133, 134, 140, 141, 142, 143, 144, 145, 146, 147, 148] (by decide +kernel) (by decide +kernel)
set_option maxRecDepth 20000 in
theorem gX10_order_X10_princeOf : GoodIn wsX10_order (wsV RX10 127 RX10 yX10_princeOf wsX10_princeOf) := goodIn_app (goodIn_of _ (by decide +kernel)) ggX10_order_X10_princeOf
set_option maxRecDepth 20000 in
theorem ggX10_order_X10_isMeanOrRow : GoodIn wsX10_order wsX10_isMeanOrRow := goodIn_r _ [16] (by decide +kernel) (by decide +kernel)
set_option maxRecDepth 20000 in
theorem gX10_order_X10_isMeanOrRow : GoodIn wsX10_order (va_wsS RX10 182 yX10_isMeanOrRow wsX10_isMeanOrRow) := goodIn_app (goodIn_of _ (by decide +kernel)) ggX10_order_X10_isMeanOrRow
set_option maxRecDepth 20000 in
theorem ggX10_order_X8_boyOf : GoodIn wsX10_order wsX8_boyOf := goodIn_r _ [20, 21, 22, 11, 23, 140, 141, 142, 143, 144, 145, 146, 147, 148] (by decide +kernel) (by decide +kernel)
set_option maxRecDepth 20000 in
theorem gX10_order_X8_boyOf_n137 : GoodIn wsX10_order (wsX8_boyOf) := ggX10_order_X8_boyOf
set_option maxRecDepth 20000 in
theorem ggX10_order_X8_learntBy : GoodIn wsX10_order wsX8_learntBy := goodIn_r _ [26, 27, 22, 11, 23, 140, 141, 142, 143, 144, 145, 146, 147, 148] (by decide +kernel) (by decide +kernel)
set_option maxRecDepth 20000 in
theorem gX10_order_X8_learntBy_n146 : GoodIn wsX10_order (wsX8_learntBy) := ggX10_order_X8_learntBy
set_option maxRecDepth 20000 in
theorem ggX10_order_X8_fondOf : GoodIn wsX10_order wsX8_fondOf := goodIn_r _ [30, 31, 22, 11, 23, 140, 141, 142, 143, 144, 145, 146, 147, 148] (by decide +kernel) (by decide +kernel)
set_option maxRecDepth 20000 in
theorem gX10_order_X8_fondOf_n149 : GoodIn wsX10_order (wsX8_fondOf) := ggX10_order_X8_fondOf
set_option maxRecDepth 20000 in
theorem ggX10_order_X8_stripesOf : GoodIn wsX10_order wsX8_stripesOf := goodIn_r _ [34, 35, 22, 11, 23, 140, 141, 142, 143, 144, 145, 146, 147, 148] (by decide +kernel) (by decide +kernel)
set_option maxRecDepth 20000 in
theorem gX10_order_X8_stripesOf_n112 : GoodIn wsX10_order (wsX8_stripesOf) := ggX10_order_X8_stripesOf
set_option maxRecDepth 20000 in
theorem ggX10_order_X4_find : GoodIn wsX10_order wsX4_find := goodIn_r _ [39, 40, 41, 42, 43, 44, 45, 11, 46, 47, 48, 49, 37, 50, 51, 52, 53, 54, 55, 56, 22, 23, 57, 58, 59, 60, 61, 62, 63, 64, 65, 66, 67, 68, 69, 70, 71, 72, 73, 74, 75, 76, 77, 78, 79, 80, 81, 82, 83, 84, 85, 86, 87, 88, 89, 90, 91, 92, 93, 94, 95, 96, 97, 98, 99, 100, 101, 102, 103, 104, 105, 106, 107, 108, 109, 110, 111, 112, 113, 114, 135, 136, 137, 138, 139, 149, 150, 151, 152, 153, 154, 155, 156, 157] (by decide +kernel) (by decide +kernel)
set_option maxRecDepth 20000 in
theorem gX10_order_X4_find_n189 : GoodIn wsX10_order (wsX4_find) := ggX10_order_X4_find
set_option maxRecDepth 20000 in
theorem ggX10_order_X4_lessonAt : GoodIn wsX10_order wsX4_lessonAt := goodIn_r _ [117, 40, 52, 22, 11, 23, 135, 136, 137, 138, 139] (by decide +kernel) (by decide +kernel)
set_option maxRecDepth 20000 in
theorem gX10_order_X4_lessonAt_n193 : GoodIn wsX10_order (wsX4_lessonAt) := ggX10_order_X4_lessonAt
set_option maxRecDepth 20000 in
theorem ggX10_order_X10_inLowestTerms : GoodIn wsX10_order wsX10_inLowestTerms := goodIn_r _ [120, 121, 122, 11, 123] (by decide +kernel) (by decide +kernel)
set_option maxRecDepth 20000 in
theorem gX10_order_X10_inLowestTerms : GoodIn wsX10_order (va_wsS RX10 203 yX10_inLowestTerms wsX10_inLowestTerms) := goodIn_app (goodIn_of _ (by decide +kernel)) ggX10_order_X10_inLowestTerms
set_option maxRecDepth 20000 in
theorem ggX10_match_X9_has : GoodIn wsX10_match wsX9_has := goodIn_r _ [8, 9, 108, 109, 110, 111] (by decide +kernel) (by decide +kernel)
set_option maxRecDepth 20000 in
theorem gX10_match_X9_has_n92 : GoodIn wsX10_match (wsX9_has) := ggX10_match_X9_has
set_option maxRecDepth 20000 in
theorem ggX10_match_X10_isMeanOrRow : GoodIn wsX10_match wsX10_isMeanOrRow := goodIn_r _ [13] (by decide +kernel) (by decide +kernel)
set_option maxRecDepth 20000 in
theorem gX10_match_X10_isMeanOrRow : GoodIn wsX10_match (va_wsS RX10 182 yX10_isMeanOrRow wsX10_isMeanOrRow) := goodIn_app (goodIn_of _ (by decide +kernel)) ggX10_match_X10_isMeanOrRow
set_option maxRecDepth 20000 in
theorem ggX10_match_X10_bestMatch : GoodIn wsX10_match wsX10_bestMatch := goodIn_r _ [17, 3, 18, 19, 20, 12, 21, 2, 1, 22, 23, 24, 25, 26, 27, 28, 29, 30, 31, 32, 33, 34, 35, 6, 36, 37, 38, 39, 40, 41, 42, 43, 44, 45, 46, 47, 48, 49, 50, 51, 52, 53, 54, 55, 56, 57, 58, 59, 60, 61, 62, 63, 64, 65, 66, 67, 68, 69, 70, 71, 72, 73, 74, 75, 76, 77, 88, 89, 90, 91, 92, 93, 94, 95, 96, 97, 98, 99, 100, 101, 102, 103, 104, 105, 106, 107, 112, 113, 114, 115, 116, 108, 109, 110, 111] (by decide +kernel) (by decide +kernel)
set_option maxRecDepth 20000 in
theorem gX10_match_X10_bestMatch : GoodIn wsX10_match (wsV RX10 207 RX10 yX10_bestMatch wsX10_bestMatch) := goodIn_app (goodIn_of _ (by decide +kernel)) ggX10_match_X10_bestMatch
set_option maxRecDepth 20000 in
theorem ggX10_match_X10_at : GoodIn wsX10_match wsX10_at := goodIn_r _ [29] (by decide +kernel) (by decide +kernel)
set_option maxRecDepth 20000 in
theorem gX10_match_X10_at : GoodIn wsX10_match (va_wsS RX10 214 yX10_at wsX10_at) := goodIn_app (goodIn_of _ (by decide +kernel)) ggX10_match_X10_at
set_option maxRecDepth 20000 in
theorem ggX10_match_X10_failTenths : GoodIn wsX10_match wsX10_failTenths := goodIn_r _ [21, 2, 3, 1, 22, 23, 24, 12, 25, 26, 27, 28, 29, 30, 31, 32, 33, 34, 35, 6, 36, 37, 38, 39, 40, 41, 42, 43, 44, 45, 46, 47, 48, 49, 50, 51, 52, 53, 54, 55, 56, 57, 58, 59, 60, 61, 62, 63, 64, 65, 66, 67, 68, 69, 70, 71, 72, 73, 74, 75, 76, 77, 88, 89, 90, 91, 92, 93, 94, 95, 96, 97, 98, 99, 100, 101, 102, 103, 104, 105, 106, 107, 112, 113, 114, 115, 116, 108, 109, 110, 111] (by decide +kernel) (by decide +kernel)
set_option maxRecDepth 20000 in
theorem gX10_match_X10_failTenths : GoodIn wsX10_match (wsV RX10 218 RX10 yX10_failTenths wsX10_failTenths) := goodIn_app (goodIn_of _ (by decide +kernel)) ggX10_match_X10_failTenths
set_option maxRecDepth 20000 in
theorem ggX10_match_X9_blowsOf : GoodIn wsX10_match wsX9_blowsOf := goodIn_r _ [80, 81, 28, 12, 29, 108, 109, 110, 111] (by decide +kernel) (by decide +kernel)
set_option maxRecDepth 20000 in
theorem gX10_match_X9_blowsOf_n100 : GoodIn wsX10_match (wsX9_blowsOf) := ggX10_match_X9_blowsOf
set_option maxRecDepth 20000 in
theorem ggX10_match_X10_inLowestTerms : GoodIn wsX10_match wsX10_inLowestTerms := goodIn_r _ [84, 85, 86, 12, 87] (by decide +kernel) (by decide +kernel)
set_option maxRecDepth 20000 in
theorem gX10_match_X10_inLowestTerms : GoodIn wsX10_match (va_wsS RX10 203 yX10_inLowestTerms wsX10_inLowestTerms) := goodIn_app (goodIn_of _ (by decide +kernel)) ggX10_match_X10_inLowestTerms
set_option maxRecDepth 20000 in
theorem ggX10_faults_X10_princeOf : GoodIn wsX10_faults wsX10_princeOf := goodIn_r _ [8, 1, 9, 97, 98, 99, 100, 101, 102, 103, 104, 105, 106, 107, 112, 113, 114, 115, 116, 117, 118, 119, 120] (by decide +kernel) (by decide +kernel)
set_option maxRecDepth 20000 in
theorem gX10_faults_X10_princeOf : GoodIn wsX10_faults (wsV RX10 127 RX10 yX10_princeOf wsX10_princeOf) := goodIn_app (goodIn_of _ (by decide +kernel)) ggX10_faults_X10_princeOf
set_option maxRecDepth 20000 in
theorem ggX10_faults_X8_boyOf : GoodIn wsX10_faults wsX8_boyOf := goodIn_r _ [13, 14, 15, 7, 16, 112, 113, 114, 115, 116, 117, 118, 119, 120] (by decide +kernel) (by decide +kernel)
set_option maxRecDepth 20000 in
theorem gX10_faults_X8_boyOf_n137 : GoodIn wsX10_faults (wsX8_boyOf) := ggX10_faults_X8_boyOf
set_option maxRecDepth 20000 in
theorem ggX10_faults_X8_stripesOf : GoodIn wsX10_faults wsX8_stripesOf := goodIn_r _ [19, 20, 15, 7, 16, 112, 113, 114, 115, 116, 117, 118, 119, 120] (by decide +kernel) (by decide +kernel)
set_option maxRecDepth 20000 in
theorem gX10_faults_X8_stripesOf_n112 : GoodIn wsX10_faults (wsX8_stripesOf) := ggX10_faults_X8_stripesOf
set_option maxRecDepth 20000 in
theorem ggX10_faults_X8_learntBy : GoodIn wsX10_faults wsX8_learntBy := goodIn_r _ [23, 24, 15, 7, 16, 112, 113, 114, 115, 116, 117, 118, 119, 120] (by decide +kernel) (by decide +kernel)
set_option maxRecDepth 20000 in
theorem gX10_faults_X8_learntBy_n146 : GoodIn wsX10_faults (wsX8_learntBy) := ggX10_faults_X8_learntBy
set_option maxRecDepth 20000 in
theorem ggX10_faults_X8_fondOf : GoodIn wsX10_faults wsX8_fondOf := goodIn_r _ [27, 28, 15, 7, 16, 112, 113, 114, 115, 116, 117, 118, 119, 120] (by decide +kernel) (by decide +kernel)
set_option maxRecDepth 20000 in
theorem gX10_faults_X8_fondOf_n149 : GoodIn wsX10_faults (wsX8_fondOf) := ggX10_faults_X8_fondOf
set_option maxRecDepth 20000 in
theorem ggX10_faults_X0_find : GoodIn wsX10_faults wsX0_find := goodIn_r _ [32, 33, 34, 35, 36, 37, 38, 39, 30, 40, 41, 7, 42, 43, 44, 45, 46, 47, 48, 49, 50, 51, 52, 53, 54, 55, 56, 57, 58, 59, 60, 61, 62, 63, 64, 65, 66, 67, 68, 69, 70, 71, 72, 73, 74, 75, 76, 77, 78, 79, 80, 81, 82, 83, 84, 85, 86, 15, 16, 87, 88, 89, 90, 91, 92, 93, 94, 95, 96, 108, 109, 110, 111, 121, 122, 123, 124, 125, 126, 127, 128, 129] (by decide +kernel) (by decide +kernel)
set_option maxRecDepth 20000 in
theorem gX10_faults_X0_find_n223 : GoodIn wsX10_faults (wsX0_find) := ggX10_faults_X0_find
set_option maxRecDepth 20000 in
theorem ggX10_hear_X10_princeOf : GoodIn wsX10_hear wsX10_princeOf := goodIn_r _ [7, 2, 8, 24, 25, 26, 27, 28, 29, 30, 31, 32, 33, 34, 35, 36, 37, 38, 39, 40, 41, 42, 43] (by decide +kernel) (by decide +kernel)
set_option maxRecDepth 20000 in
theorem gX10_hear_X10_princeOf : GoodIn wsX10_hear (wsV RX10 127 RX10 yX10_princeOf wsX10_princeOf) := goodIn_app (goodIn_of _ (by decide +kernel)) ggX10_hear_X10_princeOf
set_option maxRecDepth 20000 in
theorem ggX10_hear_X9_has : GoodIn wsX10_hear wsX9_has := goodIn_r _ [12, 13, 44, 45, 46, 47] (by decide +kernel) (by decide +kernel)
set_option maxRecDepth 20000 in
theorem gX10_hear_X9_has_n92 : GoodIn wsX10_hear (wsX9_has) := ggX10_hear_X9_has
set_option maxRecDepth 20000 in
theorem ggX10_hear_X8_addHeard : GoodIn wsX10_hear wsX8_addHeard := goodIn_r _ [17, 18, 19, 20, 21, 22, 6, 23, 35, 36, 37, 38, 39, 40, 41, 42, 43] (by decide +kernel) (by decide +kernel)
set_option maxRecDepth 20000 in
theorem gX10_hear_X8_addHeard_n235 : GoodIn wsX10_hear (wsX8_addHeard) := ggX10_hear_X8_addHeard
set_option maxRecDepth 20000 in
theorem ggX10_fondness_X10_princeOf : GoodIn wsX10_fondness wsX10_princeOf := goodIn_r _ [5, 6, 7, 63, 64, 65, 66, 67, 68, 69, 70, 71, 72, 73, 74, 75, 76, 77, 78, 79, 80, 81, 82] (by decide +kernel) (by decide +kernel)
set_option maxRecDepth 20000 in
theorem gX10_fondness_X10_princeOf : GoodIn wsX10_fondness (wsV RX10 127 RX10 yX10_princeOf wsX10_princeOf) := goodIn_app (goodIn_of _ (by decide +kernel)) ggX10_fondness_X10_princeOf
set_option maxRecDepth 20000 in
theorem ggX10_fondness_X10_agreesWithHeard : GoodIn wsX10_fondness wsX10_agreesWithHeard := goodIn_r _ [11, 6, 12, 13, 14, 4, 15, 16, 17, 18, 19, 20, 21, 22, 23, 24, 25, 26, 27, 28, 29, 30, 31, 32, 33, 34, 35, 36, 37, 38, 39, 40, 41, 42, 43, 44, 45, 46, 47, 48, 49, 50, 51, 52, 53, 54, 55, 56, 57, 58, 59, 60, 61, 62, 63, 64, 65, 66, 67, 68, 69, 70, 71, 72, 73, 74, 75, 76, 77, 78, 79, 80, 81, 82, 83, 84, 85, 86, 87, 88, 89, 90, 91] (by decide +kernel) (by decide +kernel)
set_option maxRecDepth 20000 in
theorem gX10_fondness_X10_agreesWithHeard : GoodIn wsX10_fondness (wsV RX10 239 RX10 yX10_agreesWithHeard wsX10_agreesWithHeard) := goodIn_app (goodIn_of _ (by decide +kernel)) ggX10_fondness_X10_agreesWithHeard
set_option maxRecDepth 20000 in
theorem ggX10_schools_X8_copyFrom : GoodIn wsX10_schools wsX8_copyFrom := goodIn_r _ [6, 7, 8, 9, 10, 11, 12, 13, 14, 15, 16, 17, 18, 154, 155, 156, 157, 158, 159, 160, 161, 162] (by decide +kernel) (by decide +kernel)
set_option maxRecDepth 20000 in
theorem gX10_schools_X8_copyFrom_n243 : GoodIn wsX10_schools (wsX8_copyFrom) := ggX10_schools_X8_copyFrom
set_option maxRecDepth 20000 in
theorem ggX10_schools_X10_drawLessons : GoodIn wsX10_schools wsX10_drawLessons := goodIn_r _ [22, 23, 2, 24, 25, 26, 27, 17, 28, 1, 29, 30, 4, 31, 32, 10, 33, 34, 35, 36, 37, 38, 39, 40, 41, 42, 43, 44, 45, 46, 47, 48, 49, 50, 9, 51, 52, 53, 54, 8, 55, 56, 57, 58, 59, 60, 61, 62, 63, 64, 65, 66, 67, 68, 69, 70, 71, 72, 73, 74, 75, 76, 77, 78, 79, 80, 81, 82, 83, 84, 85, 86, 87, 88, 89, 90, 91, 92, 93, 94, 95, 96, 97, 98, 99, 100, 101, 102, 103, 104, 105, 106, 107, 108, 109, 110, 111, 112, 113, 114, 115, 11, 116, 117, 118, 119, 120, 121, 122, 123, 124, 125, 126, 127, 143, 144, 145, 146, 147, 148, 149, 150, 151, 152, 153, 163, 164, 165, 166, 154, 155, 156, 157, 158, 159, 160, 161, 162, 167, 168, 169, 170, 171] (by decide +kernel) (by decide +kernel)
set_option maxRecDepth 20000 in
theorem gX10_schools_X10_drawLessons : GoodIn wsX10_schools (wsV RX10 247 RX10 yX10_drawLessons wsX10_drawLessons) := goodIn_app (goodIn_of _ (by decide +kernel)) ggX10_schools_X10_drawLessons
set_option maxRecDepth 20000 in
theorem ggX10_schools_X8_allStripes : GoodIn wsX10_schools wsX8_allStripes := goodIn_r _ [130, 11, 131, 17, 132, 154, 155, 156, 157, 158, 159, 160, 161, 162] (by decide +kernel) (by decide +kernel)
set_option maxRecDepth 20000 in
theorem gX10_schools_X8_allStripes_n250 : GoodIn wsX10_schools (wsX8_allStripes) := ggX10_schools_X8_allStripes
set_option maxRecDepth 20000 in
theorem ggX10_schools_X8_allLearnt : GoodIn wsX10_schools wsX8_allLearnt := goodIn_r _ [135, 7, 106, 30, 31, 4, 32, 10, 33, 17, 34, 136, 137, 138, 139, 140, 141, 142, 154, 155, 156, 157, 158, 159, 160, 161, 162] (by decide +kernel) (by decide +kernel)
set_option maxRecDepth 20000 in
theorem gX10_schools_X8_allLearnt_n253 : GoodIn wsX10_schools (wsX8_allLearnt) := ggX10_schools_X8_allLearnt
set_option maxRecDepth 20000 in
theorem ggX10_image_X9_isRead : GoodIn wsX10_image wsX9_isRead := goodIn_r _ [8, 9, 42, 43, 44, 45] (by decide +kernel) (by decide +kernel)
set_option maxRecDepth 20000 in
theorem gX10_image_X9_isRead_n106 : GoodIn wsX10_image (wsX9_isRead) := ggX10_image_X9_isRead
set_option maxRecDepth 20000 in
theorem ggX10_image_X8_copyFrom : GoodIn wsX10_image wsX8_copyFrom := goodIn_r _ [13, 14, 15, 16, 17, 18, 19, 20, 21, 22, 23, 24, 25, 46, 47, 48, 49, 50, 51, 52, 53, 54] (by decide +kernel) (by decide +kernel)
set_option maxRecDepth 20000 in
theorem gX10_image_X8_copyFrom_n243 : GoodIn wsX10_image (wsX8_copyFrom) := ggX10_image_X8_copyFrom
set_option maxRecDepth 20000 in
theorem ggX10_image_X8_allStripes : GoodIn wsX10_image wsX8_allStripes := goodIn_r _ [28, 18, 29, 24, 30, 46, 47, 48, 49, 50, 51, 52, 53, 54] (by decide +kernel) (by decide +kernel)
set_option maxRecDepth 20000 in
theorem gX10_image_X8_allStripes_n250 : GoodIn wsX10_image (wsX8_allStripes) := ggX10_image_X8_allStripes
set_option maxRecDepth 20000 in
theorem ggX10_restore_X8_copyFrom : GoodIn wsX10_restore wsX8_copyFrom := goodIn_r _ [7, 8, 9, 10, 11, 12, 13, 14, 15, 16, 17, 18, 19, 36, 37, 38, 39, 40, 41, 42, 43, 44] (by decide +kernel) (by decide +kernel)
set_option maxRecDepth 20000 in
theorem gX10_restore_X8_copyFrom_n243 : GoodIn wsX10_restore (wsX8_copyFrom) := ggX10_restore_X8_copyFrom
set_option maxRecDepth 20000 in
theorem ggX10_restore_X8_allStripes : GoodIn wsX10_restore wsX8_allStripes := goodIn_r _ [22, 12, 23, 18, 24, 36, 37, 38, 39, 40, 41, 42, 43, 44] (by decide +kernel) (by decide +kernel)
set_option maxRecDepth 20000 in
theorem gX10_restore_X8_allStripes_n250 : GoodIn wsX10_restore (wsX8_allStripes) := ggX10_restore_X8_allStripes
set_option maxRecDepth 20000 in
theorem ggX10_count_X8_allStripes : GoodIn wsX10_count wsX8_allStripes := goodIn_r _ [9, 10, 11, 12, 13, 47, 48, 49, 50, 51, 52, 53, 54, 55] (by decide +kernel) (by decide +kernel)
set_option maxRecDepth 20000 in
theorem gX10_count_X8_allStripes_n250 : GoodIn wsX10_count (wsX8_allStripes) := ggX10_count_X8_allStripes
set_option maxRecDepth 20000 in
theorem ggX10_count_X8_allLearnt : GoodIn wsX10_count wsX8_allLearnt := goodIn_r _ [16, 17, 18, 19, 20, 7, 21, 22, 23, 12, 24, 25, 26, 27, 28, 29, 30, 31, 47, 48, 49, 50, 51, 52, 53, 54, 55] (by decide +kernel) (by decide +kernel)
set_option maxRecDepth 20000 in
theorem gX10_count_X8_allLearnt_n253 : GoodIn wsX10_count (wsX8_allLearnt) := ggX10_count_X8_allLearnt
set_option maxRecDepth 20000 in
theorem ggX10_digest_X9_isRead : GoodIn wsX10_digest wsX9_isRead := goodIn_r _ [8, 9, 218, 219, 220, 221] (by decide +kernel) (by decide +kernel)
set_option maxRecDepth 20000 in
theorem gX10_digest_X9_isRead_n106 : GoodIn wsX10_digest (wsX9_isRead) := ggX10_digest_X9_isRead
set_option maxRecDepth 20000 in
theorem ggX10_digest_X10_stripes : GoodIn wsX10_digest wsX10_stripes := goodIn_r _ [14, 2, 3, 5, 6, 7, 8, 9, 15, 16, 13, 17, 18, 19, 20, 21, 22, 23, 24, 207, 208, 209, 210, 211, 212, 213, 214, 215, 216, 217, 218, 219, 220, 221, 222, 223, 224, 225, 226, 227, 228, 229, 230] (by decide +kernel) (by decide +kernel)
set_option maxRecDepth 20000 in
theorem gX10_digest_X10_stripes : GoodIn wsX10_digest (wsV RX10 261 RX10 yX10_stripes wsX10_stripes) := goodIn_app (goodIn_of _ (by decide +kernel)) ggX10_digest_X10_stripes
set_option maxRecDepth 20000 in
theorem ggX10_digest_X10_mix : GoodIn wsX10_digest wsX10_mix := goodIn_r _ [27, 28] (by decide +kernel) (by decide +kernel)
set_option maxRecDepth 20000 in
theorem gX10_digest_X10_mix : GoodIn wsX10_digest (va_wsS RX10 264 yX10_mix wsX10_mix) := goodIn_app (goodIn_of _ (by decide +kernel)) ggX10_digest_X10_mix
set_option maxRecDepth 20000 in
theorem ggX10_digest_X10_lesson : GoodIn wsX10_digest wsX10_lesson := goodIn_r _ [32, 2, 3, 33, 6, 34, 35, 9, 36, 37, 38, 39, 23, 13, 24, 40, 41, 42, 43, 44, 19, 45, 46, 47, 48, 49, 50, 51, 52, 53, 54, 207, 208, 209, 210, 211, 212, 213, 214, 215, 216, 217, 218, 219, 220, 221, 222, 223, 224, 225, 226, 227, 228, 229, 230] (by decide +kernel) (by decide +kernel)
set_option maxRecDepth 20000 in
theorem gX10_digest_X10_lesson : GoodIn wsX10_digest (wsV RX10 268 RX10 yX10_lesson wsX10_lesson) := goodIn_app (goodIn_of _ (by decide +kernel)) ggX10_digest_X10_lesson
set_option maxRecDepth 20000 in
theorem ggX10_digest_X10_match : GoodIn wsX10_digest wsX10_match := goodIn_r _ [58, 2, 3, 59, 60, 33, 6, 34, 35, 9, 61, 62, 13, 63, 64, 65, 66, 67, 68, 69, 70, 71, 72, 73, 74, 75, 76, 77, 23, 24, 78, 19, 79, 80, 81, 82, 83, 84, 85, 86, 87, 88, 89, 90, 91, 92, 93, 94, 95, 96, 97, 98, 99, 100, 101, 102, 103, 104, 105, 106, 107, 108, 109, 110, 111, 112, 113, 114, 115, 116, 117, 118, 119, 120, 36, 37, 38, 39, 40, 41, 42, 43, 121, 122, 123, 124, 125, 126, 207, 208, 209, 210, 211, 212, 213, 214, 215, 216, 217, 222, 223, 224, 225, 226, 227, 228, 229, 230, 218, 219, 220, 221, 233, 234, 235, 236, 237] (by decide +kernel) (by decide +kernel)
set_option maxRecDepth 20000 in
theorem gX10_digest_X10_match : GoodIn wsX10_digest (wsV RX10 271 RX10 yX10_match wsX10_match) := goodIn_app (goodIn_of _ (by decide +kernel)) ggX10_digest_X10_match
set_option maxRecDepth 20000 in
theorem ggX10_digest_X10_mixPrince : GoodIn wsX10_digest wsX10_mixPrince := goodIn_r _ [130, 2, 131, 132, 133, 13, 134, 135, 3, 72, 73, 74, 75, 76, 136, 137, 138, 139, 140, 98, 141, 142, 143, 144, 103, 145, 146, 147, 113, 148, 149, 150, 151, 118, 152, 153, 109, 154, 155, 19, 156, 157, 158, 23, 24, 159, 160, 161, 162, 163, 78, 79, 80, 81, 164, 94, 95, 96, 97, 99, 100, 101, 102, 104, 105, 106, 107, 108, 110, 111, 112, 114, 165, 116, 117, 119, 49, 50, 51, 52, 15, 16, 17, 25, 26, 27, 28, 166, 167, 168, 169, 33, 6, 34, 35, 9, 82, 83, 84, 85, 86, 87, 88, 89, 90, 91, 92, 93, 115, 120, 36, 37, 38, 39, 170, 171, 172, 173, 174, 175, 176, 177, 77, 178, 179, 180, 207, 208, 209, 210, 211, 212, 213, 214, 215, 216, 217, 218, 219, 220, 221, 233, 234, 235, 236, 237, 222, 223, 224, 225, 226, 227, 228, 229, 230] (by decide +kernel) (by decide +kernel)
set_option maxRecDepth 20000 in
theorem gX10_digest_X10_mixPrince : GoodIn wsX10_digest (wsV RX10 274 RX10 yX10_mixPrince wsX10_mixPrince) := goodIn_app (goodIn_of _ (by decide +kernel)) ggX10_digest_X10_mixPrince
set_option maxRecDepth 20000 in
theorem ggX10_digest_X5_codeAt : GoodIn wsX10_digest wsX5_codeAt := goodIn_r _ [184, 185, 23, 13, 24, 231, 232] (by decide +kernel) (by decide +kernel)
set_option maxRecDepth 20000 in
theorem gX10_digest_X5_codeAt_n278 : GoodIn wsX10_digest (wsX5_codeAt) := ggX10_digest_X5_codeAt
set_option maxRecDepth 20000 in
theorem ggX10_digest_X10_count : GoodIn wsX10_digest wsX10_count := goodIn_r _ [189, 2, 3, 4, 190, 191, 192, 19, 193, 194, 22, 195, 13, 196, 197, 198, 199, 47, 48, 49, 50, 51, 52, 23, 24, 200, 201, 202, 203, 204, 205, 206, 207, 208, 209, 210, 211, 212, 213, 214, 215, 216, 217, 218, 219, 220, 221, 222, 223, 224, 225, 226, 227, 228, 229, 230, 231, 232] (by decide +kernel) (by decide +kernel)
set_option maxRecDepth 20000 in
theorem gX10_digest_X10_count : GoodIn wsX10_digest (wsV RX10 281 RX10 yX10_count wsX10_count) := goodIn_app (goodIn_of _ (by decide +kernel)) ggX10_digest_X10_count
set_option maxRecDepth 20000 in
theorem ggX10_mixPrince_X10_about : GoodIn wsX10_mixPrince wsX10_about := goodIn_r _ [6, 7, 8, 9, 10, 11, 5, 12, 13, 14, 15, 16, 17, 18, 19, 20, 21, 22, 23, 24, 25, 26, 27, 28, 29, 30, 31, 32, 33, 34, 35, 36, 37, 38, 39, 40, 41, 42, 43, 44, 45, 46, 47, 48, 49, 50, 51, 52, 53, 54, 55, 56, 57, 58, 59, 60, 61, 62, 63, 64, 65, 66, 67, 68, 69, 70, 71, 72, 73, 74, 75, 76, 77, 78, 79, 80, 81, 82, 141, 142, 143, 144, 145, 126, 127, 128, 129, 130, 131, 132, 133, 134, 135, 136, 146, 147, 148, 149, 150, 151, 152, 153, 154] (by decide +kernel) (by decide +kernel)
