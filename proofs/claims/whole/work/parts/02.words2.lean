set_option maxRecDepth 20000 in
theorem gX10_mixPrince_X10_about : GoodIn wsX10_mixPrince (wsV RX10 284 RX10 yX10_about wsX10_about) := goodIn_app (goodIn_of _ (by decide +kernel)) ggX10_mixPrince_X10_about
set_option maxRecDepth 20000 in
theorem ggX10_mixPrince_X10_mix : GoodIn wsX10_mixPrince wsX10_mix := goodIn_r _ [85, 86] (by decide +kernel) (by decide +kernel)
set_option maxRecDepth 20000 in
theorem gX10_mixPrince_X10_mix : GoodIn wsX10_mixPrince (va_wsS RX10 264 yX10_mix wsX10_mix) := goodIn_app (goodIn_of _ (by decide +kernel)) ggX10_mixPrince_X10_mix
set_option maxRecDepth 20000 in
theorem ggX10_mixPrince_X10_tenths : GoodIn wsX10_mixPrince wsX10_tenths := goodIn_r _ [90, 1, 8, 9, 10, 11, 5, 12, 13, 91, 92, 93, 94, 95, 45, 39, 46, 47, 48, 38, 40, 41, 42, 43, 44, 49, 50, 51, 52, 53, 96, 97, 98, 99, 100, 101, 102, 103, 104, 105, 106, 107, 55, 56, 57, 58, 19, 59, 60, 61, 62, 24, 63, 64, 65, 66, 67, 36, 68, 69, 70, 28, 71, 108, 73, 74, 33, 75, 109, 110, 111, 112, 113, 126, 127, 128, 129, 130, 131, 132, 133, 134, 135, 136, 146, 147, 148, 149, 150, 151, 152, 153, 154, 137, 138, 139, 140, 141, 142, 143, 144, 145] (by decide +kernel) (by decide +kernel)
set_option maxRecDepth 20000 in
theorem gX10_mixPrince_X10_tenths : GoodIn wsX10_mixPrince (wsV RX10 287 RX10 yX10_tenths wsX10_tenths) := goodIn_app (goodIn_of _ (by decide +kernel)) ggX10_mixPrince_X10_tenths
set_option maxRecDepth 20000 in
theorem ggX10_mixPrince_X10_fondness : GoodIn wsX10_mixPrince wsX10_fondness := goodIn_r _ [117, 9, 10, 11, 5, 12, 8, 13, 118, 119, 120, 121, 1, 122, 43, 44, 96, 92, 97, 98, 99, 100, 101, 102, 103, 104, 105, 106, 107, 55, 56, 57, 58, 19, 59, 60, 61, 62, 24, 63, 64, 65, 66, 67, 36, 68, 69, 70, 28, 71, 108, 73, 74, 33, 75, 109, 110, 111, 112, 113, 123, 124, 125, 126, 127, 128, 129, 130, 131, 132, 133, 134, 135, 136, 146, 147, 148, 149, 150, 151, 152, 153, 154, 141, 142, 143, 144, 145, 137, 138, 139, 140] (by decide +kernel) (by decide +kernel)
set_option maxRecDepth 20000 in
theorem gX10_mixPrince_X10_fondness : GoodIn wsX10_mixPrince (wsV RX10 290 RX10 yX10_fondness wsX10_fondness) := goodIn_app (goodIn_of _ (by decide +kernel)) ggX10_mixPrince_X10_fondness
set_option maxRecDepth 20000 in
theorem ggX10_makePrince_X7_init : GoodIn wsX10_makePrince wsX7_init := goodIn_r _ [18, 19, 20, 15, 21, 22, 23, 24, 25, 40, 42, 41, 43, 39] (by decide +kernel) (by decide +kernel)
set_option maxRecDepth 20000 in
theorem gX10_makePrince_X7_init : GoodIn wsX10_makePrince (wsX7_init) := ggX10_makePrince_X7_init
set_option maxRecDepth 20000 in
theorem ggX10_makePrince_X1_init : GoodIn wsX10_makePrince wsX1_init := goodIn_r _ [28, 29, 20, 15, 21, 22, 23, 24, 25, 40, 42, 41, 43, 39] (by decide +kernel) (by decide +kernel)
set_option maxRecDepth 20000 in
theorem gX10_makePrince_X1_init : GoodIn wsX10_makePrince (wsX1_init) := ggX10_makePrince_X1_init
set_option maxRecDepth 20000 in
theorem ggX10_makePrince_X3_init : GoodIn wsX10_makePrince wsX3_init := goodIn_r _ [32, 33, 20, 15, 21, 22, 23, 24, 25, 40, 42, 41, 43, 39] (by decide +kernel) (by decide +kernel)
set_option maxRecDepth 20000 in
theorem gX10_makePrince_X3_init : GoodIn wsX10_makePrince (wsX3_init) := ggX10_makePrince_X3_init
set_option maxRecDepth 20000 in
theorem ggX10_makePrince_X2_init : GoodIn wsX10_makePrince wsX2_init := goodIn_r _ [36, 37, 17, 3, 18, 19, 20, 15, 21, 22, 23, 24, 25, 40, 42, 41, 43, 39] (by decide +kernel) (by decide +kernel)
set_option maxRecDepth 20000 in
theorem gX10_makePrince_X2_init : GoodIn wsX10_makePrince (wsX2_init) := ggX10_makePrince_X2_init
set_option maxRecDepth 20000 in
theorem ggX10_makePrince_X6_init : GoodIn wsX10_makePrince wsX6_init := goodIn_r _ [21, 22, 23, 24, 25, 40, 42, 41, 43, 39] (by decide +kernel) (by decide +kernel)
set_option maxRecDepth 20000 in
theorem gX10_makePrince_X6_init : GoodIn wsX10_makePrince (wsX6_init) := ggX10_makePrince_X6_init
set_option maxRecDepth 20000 in
theorem ggX10_setLesson_X8_learn : GoodIn wsX10_setLesson wsX8_learn := goodIn_r _ [5, 6, 7, 8, 9, 3, 10, 11, 12, 13, 14, 15, 67, 68, 69, 70, 71, 72, 73, 74, 75] (by decide +kernel) (by decide +kernel)
set_option maxRecDepth 20000 in
theorem gX10_setLesson_X8_learn_n317 : GoodIn wsX10_setLesson (wsX8_learn) := ggX10_setLesson_X8_learn
set_option maxRecDepth 20000 in
theorem ggX10_setLesson_X9_blowsOf : GoodIn wsX10_setLesson wsX9_blowsOf := goodIn_r _ [19, 20, 11, 12, 13, 63, 64, 65, 66] (by decide +kernel) (by decide +kernel)
set_option maxRecDepth 20000 in
theorem gX10_setLesson_X9_blowsOf_n100 : GoodIn wsX10_setLesson (wsX9_blowsOf) := ggX10_setLesson_X9_blowsOf
set_option maxRecDepth 20000 in
theorem ggX10_setLesson_X8_beat : GoodIn wsX10_setLesson wsX8_beat := goodIn_r _ [23, 24, 25, 26, 27, 3, 28, 29, 11, 12, 13, 30, 31, 32, 33, 14, 15, 34, 35, 36, 37, 38, 39, 40, 41, 42, 43, 44, 45, 46, 47, 48, 49, 50, 51, 67, 68, 69, 70, 71, 72, 73, 74, 75] (by decide +kernel) (by decide +kernel)
set_option maxRecDepth 20000 in
theorem gX10_setLesson_X8_beat_n320 : GoodIn wsX10_setLesson (wsX8_beat) := ggX10_setLesson_X8_beat
set_option maxRecDepth 20000 in
theorem ggX10_bestMatch_X10_failTenths : GoodIn wsX10_bestMatch wsX10_failTenths := goodIn_r _ [6, 7, 1, 8, 9, 10, 11, 5, 12, 13, 14, 15, 16, 17, 18, 19, 20, 21, 22, 23, 24, 25, 26, 27, 28, 29, 30, 31, 32, 33, 34, 35, 36, 37, 38, 39, 40, 41, 42, 43, 44, 45, 46, 47, 48, 49, 50, 51, 52, 53, 54, 55, 56, 57, 58, 59, 60, 61, 62, 63, 64, 65, 66, 67, 68, 69, 70, 71, 72, 73, 74, 75, 76, 77, 78, 79, 80, 81, 82, 83, 84, 85, 86, 87, 88, 89, 90, 91, 92, 93, 94] (by decide +kernel) (by decide +kernel)
set_option maxRecDepth 20000 in
theorem gX10_bestMatch_X10_failTenths : GoodIn wsX10_bestMatch (wsV RX10 218 RX10 yX10_failTenths wsX10_failTenths) := goodIn_app (goodIn_of _ (by decide +kernel)) ggX10_bestMatch_X10_failTenths
set_option maxRecDepth 20000 in
theorem ggX10_failTenths_X10_princeOf : GoodIn wsX10_failTenths wsX10_princeOf := goodIn_r _ [8, 1, 9, 62, 63, 64, 65, 66, 67, 68, 69, 70, 71, 72, 73, 74, 75, 76, 77, 78, 79, 80, 81] (by decide +kernel) (by decide +kernel)
set_option maxRecDepth 20000 in
theorem gX10_failTenths_X10_princeOf : GoodIn wsX10_failTenths (wsV RX10 127 RX10 yX10_princeOf wsX10_princeOf) := goodIn_app (goodIn_of _ (by decide +kernel)) ggX10_failTenths_X10_princeOf
set_option maxRecDepth 20000 in
theorem ggX10_failTenths_X10_at : GoodIn wsX10_failTenths wsX10_at := goodIn_r _ [12] (by decide +kernel) (by decide +kernel)
set_option maxRecDepth 20000 in
theorem gX10_failTenths_X10_at : GoodIn wsX10_failTenths (va_wsS RX10 214 yX10_at wsX10_at) := goodIn_app (goodIn_of _ (by decide +kernel)) ggX10_failTenths_X10_at
set_option maxRecDepth 20000 in
theorem ggX10_failTenths_X8_fondOf : GoodIn wsX10_failTenths wsX8_fondOf := goodIn_r _ [16, 17, 11, 7, 12, 73, 74, 75, 76, 77, 78, 79, 80, 81] (by decide +kernel) (by decide +kernel)
set_option maxRecDepth 20000 in
theorem gX10_failTenths_X8_fondOf_n149 : GoodIn wsX10_failTenths (wsX8_fondOf) := ggX10_failTenths_X8_fondOf
set_option maxRecDepth 20000 in
theorem ggX10_failTenths_X9_tenthsFor : GoodIn wsX10_failTenths wsX9_tenthsFor := goodIn_r _ [21, 22, 23, 24, 25, 26, 27, 28, 29, 30, 31, 32, 33, 34, 35, 36, 37, 38, 39, 40, 41, 42, 43, 44, 45, 46, 47, 48, 49, 50, 51, 52, 53, 54, 55, 56, 57, 58, 59, 19, 60, 61, 11, 7, 12, 82, 83, 84, 85, 86, 87, 88, 89, 90] (by decide +kernel) (by decide +kernel)
set_option maxRecDepth 20000 in
theorem gX10_failTenths_X9_tenthsFor_n164 : GoodIn wsX10_failTenths (wsX9_tenthsFor) := ggX10_failTenths_X9_tenthsFor
set_option maxRecDepth 20000 in
theorem ggX10_agreesWithHeard_X10_at : GoodIn wsX10_agreesWithHeard wsX10_at := goodIn_r _ [6] (by decide +kernel) (by decide +kernel)
set_option maxRecDepth 20000 in
theorem gX10_agreesWithHeard_X10_at : GoodIn wsX10_agreesWithHeard (va_wsS RX10 214 yX10_at wsX10_at) := goodIn_app (goodIn_of _ (by decide +kernel)) ggX10_agreesWithHeard_X10_at
set_option maxRecDepth 20000 in
theorem ggX10_agreesWithHeard_X9_tenthsFor : GoodIn wsX10_agreesWithHeard wsX9_tenthsFor := goodIn_r _ [10, 11, 12, 13, 14, 15, 16, 17, 18, 19, 20, 21, 22, 23, 24, 25, 26, 27, 28, 29, 30, 31, 32, 33, 34, 35, 36, 37, 38, 39, 40, 41, 42, 43, 44, 45, 46, 47, 48, 8, 49, 50, 4, 5, 6, 74, 75, 76, 77, 78, 79, 80, 81, 82] (by decide +kernel) (by decide +kernel)
set_option maxRecDepth 20000 in
theorem gX10_agreesWithHeard_X9_tenthsFor_n164 : GoodIn wsX10_agreesWithHeard (wsX9_tenthsFor) := ggX10_agreesWithHeard_X9_tenthsFor
set_option maxRecDepth 20000 in
theorem ggX10_agreesWithHeard_X10_canBe : GoodIn wsX10_agreesWithHeard wsX10_canBe := goodIn_r _ [53] (by decide +kernel) (by decide +kernel)
set_option maxRecDepth 20000 in
theorem gX10_agreesWithHeard_X10_canBe : GoodIn wsX10_agreesWithHeard (va_wsS RX10 172 yX10_canBe wsX10_canBe) := goodIn_app (goodIn_of _ (by decide +kernel)) ggX10_agreesWithHeard_X10_canBe
set_option maxRecDepth 20000 in
theorem ggX10_drawLessons_X10_princeOf : GoodIn wsX10_drawLessons wsX10_princeOf := goodIn_r _ [8, 9, 10, 114, 115, 116, 117, 118, 119, 120, 121, 122, 123, 124, 129, 130, 131, 132, 133, 134, 135, 136, 137] (by decide +kernel) (by decide +kernel)
set_option maxRecDepth 20000 in
theorem gX10_drawLessons_X10_princeOf : GoodIn wsX10_drawLessons (wsV RX10 127 RX10 yX10_princeOf wsX10_princeOf) := goodIn_app (goodIn_of _ (by decide +kernel)) ggX10_drawLessons_X10_princeOf
set_option maxRecDepth 20000 in
theorem ggX10_drawLessons_X8_learntBy : GoodIn wsX10_drawLessons wsX8_learntBy := goodIn_r _ [14, 15, 16, 7, 17, 129, 130, 131, 132, 133, 134, 135, 136, 137] (by decide +kernel) (by decide +kernel)
set_option maxRecDepth 20000 in
theorem gX10_drawLessons_X8_learntBy_n146 : GoodIn wsX10_drawLessons (wsX8_learntBy) := ggX10_drawLessons_X8_learntBy
set_option maxRecDepth 20000 in
theorem ggX10_drawLessons_X10_isIn : GoodIn wsX10_drawLessons wsX10_isIn := goodIn_r _ [20] (by decide +kernel) (by decide +kernel)
set_option maxRecDepth 20000 in
theorem gX10_drawLessons_X10_isIn : GoodIn wsX10_drawLessons (va_wsS RX10 168 yX10_isIn wsX10_isIn) := goodIn_app (goodIn_of _ (by decide +kernel)) ggX10_drawLessons_X10_isIn
set_option maxRecDepth 20000 in
theorem ggX10_drawLessons_X10_nextSeed : GoodIn wsX10_drawLessons wsX10_nextSeed := goodIn_r _ [23, 24, 25, 26] (by decide +kernel) (by decide +kernel)
set_option maxRecDepth 20000 in
theorem gX10_drawLessons_X10_nextSeed : GoodIn wsX10_drawLessons (va_wsS RX10 332 yX10_nextSeed wsX10_nextSeed) := goodIn_app (goodIn_of _ (by decide +kernel)) ggX10_drawLessons_X10_nextSeed
set_option maxRecDepth 20000 in
theorem ggX10_drawLessons_X8_fondOfHisBoy : GoodIn wsX10_drawLessons wsX8_fondOfHisBoy := goodIn_r _ [29, 30, 31, 32, 12, 33, 34, 16, 7, 17, 35, 36, 37, 38, 39, 129, 130, 131, 132, 133, 134, 135, 136, 137] (by decide +kernel) (by decide +kernel)
set_option maxRecDepth 20000 in
theorem gX10_drawLessons_X8_fondOfHisBoy_n140 : GoodIn wsX10_drawLessons (wsX8_fondOfHisBoy) := ggX10_drawLessons_X8_fondOfHisBoy
set_option maxRecDepth 20000 in
theorem ggX10_drawLessons_X9_tenthsFor : GoodIn wsX10_drawLessons wsX9_tenthsFor := goodIn_r _ [43, 44, 45, 46, 47, 48, 49, 50, 51, 52, 53, 54, 55, 56, 57, 58, 59, 60, 61, 62, 63, 64, 65, 66, 67, 68, 69, 70, 71, 72, 73, 74, 75, 76, 77, 78, 79, 80, 81, 41, 82, 83, 16, 7, 17, 138, 139, 140, 141, 142, 125, 126, 127, 128] (by decide +kernel) (by decide +kernel)
set_option maxRecDepth 20000 in
theorem gX10_drawLessons_X9_tenthsFor_n164 : GoodIn wsX10_drawLessons (wsX9_tenthsFor) := ggX10_drawLessons_X9_tenthsFor
set_option maxRecDepth 20000 in
theorem ggX10_drawLessons_X10_setLesson : GoodIn wsX10_drawLessons wsX10_setLesson := goodIn_r _ [87, 1, 88, 12, 89, 90, 15, 91, 11, 13, 14, 16, 7, 17, 92, 93, 94, 41, 95, 96, 97, 98, 99, 100, 101, 30, 31, 32, 33, 34, 102, 103, 104, 105, 35, 36, 37, 38, 39, 106, 107, 108, 46, 47, 48, 109, 50, 51, 110, 111, 112, 113, 114, 115, 116, 117, 118, 119, 120, 121, 122, 123, 124, 125, 126, 127, 128, 129, 130, 131, 132, 133, 134, 135, 136, 137] (by decide +kernel) (by decide +kernel)
set_option maxRecDepth 20000 in
theorem gX10_drawLessons_X10_setLesson : GoodIn wsX10_drawLessons (wsV RX10 176 RX10 yX10_setLesson wsX10_setLesson) := goodIn_app (goodIn_of _ (by decide +kernel)) ggX10_drawLessons_X10_setLesson
set_option maxRecDepth 20000 in
theorem ggX10_inLowestTerms_X10_commonDivisor : GoodIn wsX10_inLowestTerms wsX10_commonDivisor := goodIn_r _ [4] (by decide +kernel) (by decide +kernel)
set_option maxRecDepth 20000 in
theorem gX10_inLowestTerms_X10_commonDivisor : GoodIn wsX10_inLowestTerms (va_wsS RX10 342 yX10_commonDivisor wsX10_commonDivisor) := goodIn_app (goodIn_of _ (by decide +kernel)) ggX10_inLowestTerms_X10_commonDivisor
set_option maxRecDepth 20000 in
theorem ggX11_letter_X11_within : GoodIn wsX11_letter wsX11_within := goodIn_r _ [6] (by decide +kernel) (by decide +kernel)
set_option maxRecDepth 20000 in
theorem gX11_letter_X11_within : GoodIn wsX11_letter (va_wsS RX11 77 yX11_within wsX11_within) := goodIn_app (goodIn_of _ (by decide +kernel)) ggX11_letter_X11_within
set_option maxRecDepth 20000 in
theorem ggX11_isFigure_X11_within : GoodIn wsX11_isFigure wsX11_within := goodIn_r _ [6] (by decide +kernel) (by decide +kernel)
set_option maxRecDepth 20000 in
theorem gX11_isFigure_X11_within : GoodIn wsX11_isFigure (va_wsS RX11 77 yX11_within wsX11_within) := goodIn_app (goodIn_of _ (by decide +kernel)) ggX11_isFigure_X11_within
set_option maxRecDepth 20000 in
theorem ggX11_read_X11_isFigure : GoodIn wsX11_read wsX11_isFigure := goodIn_r _ [7, 8, 9, 10, 11, 6, 12, 21, 22, 23, 24, 25, 26, 27, 28, 29, 30, 31, 32, 33, 34, 35, 36, 37, 38, 39, 40, 41, 42, 43, 44, 45, 46, 47, 48, 49, 50, 51, 52, 53, 54, 55, 56, 57, 58, 59, 60] (by decide +kernel) (by decide +kernel)
set_option maxRecDepth 20000 in
theorem gX11_read_X11_isFigure : GoodIn wsX11_read (wsV RX11 92 RX11 yX11_isFigure wsX11_isFigure) := goodIn_app (goodIn_of _ (by decide +kernel)) ggX11_read_X11_isFigure
set_option maxRecDepth 20000 in
theorem ggX11_read_X11_isSign : GoodIn wsX11_read wsX11_isSign := goodIn_r _ [16, 8, 9, 21, 22, 23, 24, 25, 26, 27, 28, 29, 30, 31, 32, 33, 34, 35, 36, 37, 38, 39, 40, 41, 42, 43, 44, 45, 46, 47, 48, 49, 50, 51, 52, 53, 54, 55, 56, 57, 58, 59, 60] (by decide +kernel) (by decide +kernel)
set_option maxRecDepth 20000 in
theorem gX11_read_X11_isSign : GoodIn wsX11_read (wsV RX11 95 RX11 yX11_isSign wsX11_isSign) := goodIn_app (goodIn_of _ (by decide +kernel)) ggX11_read_X11_isSign
set_option maxRecDepth 20000 in
theorem ggX11_read_X11_readLimit : GoodIn wsX11_read wsX11_readLimit := goodIn_r _ [20, 8, 1, 3, 4, 5, 6, 7, 9, 10, 11, 12, 21, 22, 23, 24, 25, 26, 27, 28, 29, 30, 31, 32, 33, 34, 35, 36, 37, 38, 39, 40, 41, 42, 43, 44, 45, 46, 47, 48, 49, 50, 51, 52, 53, 54, 55, 56, 57, 58, 59, 60] (by decide +kernel) (by decide +kernel)
set_option maxRecDepth 20000 in
theorem gX11_read_X11_readLimit : GoodIn wsX11_read (wsV RX11 99 RX11 yX11_readLimit wsX11_readLimit) := goodIn_app (goodIn_of _ (by decide +kernel)) ggX11_read_X11_readLimit
set_option maxRecDepth 20000 in
theorem ggX11_readLimit_X11_isFigure : GoodIn wsX11_readLimit wsX11_isFigure := goodIn_r _ [7, 1, 8, 9, 10, 6, 11, 12, 13, 14, 15, 16, 17, 18, 19, 20, 21, 22, 23, 24, 25, 26, 27, 28, 29, 30, 31, 32, 33, 34, 35, 36, 37, 38, 39, 40, 41, 42, 43, 44, 45, 46, 47, 48, 49, 50, 51] (by decide +kernel) (by decide +kernel)
set_option maxRecDepth 20000 in
theorem gX11_readLimit_X11_isFigure : GoodIn wsX11_readLimit (wsV RX11 92 RX11 yX11_isFigure wsX11_isFigure) := goodIn_app (goodIn_of _ (by decide +kernel)) ggX11_readLimit_X11_isFigure
set_option maxRecDepth 20000 in
theorem ggX11_fault_X11_read : GoodIn wsX11_fault wsX11_read := goodIn_r _ [5, 6, 7, 8, 9, 10, 4, 11, 12, 13, 14, 15, 16, 17, 18, 19, 20, 21, 22, 23, 24, 25, 26, 27, 28, 29, 30, 31, 32, 33, 34, 35, 36, 37, 38, 39, 40, 41, 42, 43, 44, 45, 46, 47, 48, 49, 50, 51, 52, 53, 54, 55, 56, 57, 58, 59, 60, 61, 62, 63, 64] (by decide +kernel) (by decide +kernel)
set_option maxRecDepth 20000 in
theorem gX11_fault_X11_read : GoodIn wsX11_fault (wsV RX11 103 RX11 yX11_read wsX11_read) := goodIn_app (goodIn_of _ (by decide +kernel)) ggX11_fault_X11_read
set_option maxRecDepth 20000 in
theorem ggX11_school_X11_read : GoodIn wsX11_school wsX11_read := goodIn_r _ [17, 1, 2, 18, 19, 20, 16, 21, 12, 4, 22, 23, 24, 25, 26, 27, 28, 29, 30, 31, 32, 33, 34, 35, 36, 37, 38, 39, 40, 41, 42, 43, 44, 45, 46, 47, 48, 49, 50, 51, 52, 53, 54, 55, 56, 57, 58, 59, 60, 61, 62, 63, 64, 65, 66, 67, 68, 69, 70, 71, 72] (by decide +kernel) (by decide +kernel)
set_option maxRecDepth 20000 in
theorem gX11_school_X11_read : GoodIn wsX11_school (wsV RX11 103 RX11 yX11_read wsX11_read) := goodIn_app (goodIn_of _ (by decide +kernel)) ggX11_school_X11_read
set_option maxRecDepth 20000 in
theorem ggX11_isLesson_X11_within : GoodIn wsX11_isLesson wsX11_within := goodIn_r _ [5] (by decide +kernel) (by decide +kernel)
set_option maxRecDepth 20000 in
theorem gX11_isLesson_X11_within : GoodIn wsX11_isLesson (va_wsS RX11 77 yX11_within wsX11_within) := goodIn_app (goodIn_of _ (by decide +kernel)) ggX11_isLesson_X11_within
set_option maxRecDepth 20000 in
theorem ggX11_isBoy_X11_within : GoodIn wsX11_isBoy wsX11_within := goodIn_r _ [5] (by decide +kernel) (by decide +kernel)
set_option maxRecDepth 20000 in
theorem gX11_isBoy_X11_within : GoodIn wsX11_isBoy (va_wsS RX11 77 yX11_within wsX11_within) := goodIn_app (goodIn_of _ (by decide +kernel)) ggX11_isBoy_X11_within
set_option maxRecDepth 20000 in
theorem ggX11_isPrince_X11_within : GoodIn wsX11_isPrince wsX11_within := goodIn_r _ [5] (by decide +kernel) (by decide +kernel)
set_option maxRecDepth 20000 in
theorem gX11_isPrince_X11_within : GoodIn wsX11_isPrince (va_wsS RX11 77 yX11_within wsX11_within) := goodIn_app (goodIn_of _ (by decide +kernel)) ggX11_isPrince_X11_within
set_option maxRecDepth 20000 in
theorem ggX11_learntBy_X11_has : GoodIn wsX11_learntBy wsX11_has := goodIn_r _ [6] (by decide +kernel) (by decide +kernel)
set_option maxRecDepth 20000 in
theorem gX11_learntBy_X11_has : GoodIn wsX11_learntBy (va_wsS RX11 122 yX11_has wsX11_has) := goodIn_app (goodIn_of _ (by decide +kernel)) ggX11_learntBy_X11_has
set_option maxRecDepth 20000 in
theorem ggX11_lessonNow_X11_learntBy : GoodIn wsX11_lessonNow wsX11_learntBy := goodIn_r _ [7, 8, 9, 10, 11, 6, 12, 13, 14, 15, 16, 17, 18, 19, 20, 21, 22, 23, 24, 25, 26, 27, 28, 29, 30, 31, 32, 33, 34, 35, 36, 37, 38, 39, 40, 41, 42, 43, 44, 45, 46, 47, 48, 49, 50, 51, 52] (by decide +kernel) (by decide +kernel)
set_option maxRecDepth 20000 in
theorem gX11_lessonNow_X11_learntBy : GoodIn wsX11_lessonNow (wsV RX11 125 RX11 yX11_learntBy wsX11_learntBy) := goodIn_app (goodIn_of _ (by decide +kernel)) ggX11_lessonNow_X11_learntBy
set_option maxRecDepth 20000 in
theorem ggX11_lesson_X11_isLesson : GoodIn wsX11_lesson wsX11_isLesson := goodIn_r _ [5, 6, 7, 8, 4, 9, 25, 26, 27, 28, 29, 30, 31, 32, 33, 34, 35, 36, 37, 38, 39, 40, 41, 42, 43, 44, 45, 46, 47, 48, 49, 50, 51, 52, 53, 54, 55, 56, 57, 58, 59, 60, 61, 62, 63, 64] (by decide +kernel) (by decide +kernel)
set_option maxRecDepth 20000 in
theorem gX11_lesson_X11_isLesson : GoodIn wsX11_lesson (wsV RX11 128 RX11 yX11_isLesson wsX11_isLesson) := goodIn_app (goodIn_of _ (by decide +kernel)) ggX11_lesson_X11_isLesson
set_option maxRecDepth 20000 in
theorem ggX11_lesson_X11_within : GoodIn wsX11_lesson wsX11_within := goodIn_r _ [9] (by decide +kernel) (by decide +kernel)
set_option maxRecDepth 20000 in
theorem gX11_lesson_X11_within : GoodIn wsX11_lesson (va_wsS RX11 77 yX11_within wsX11_within) := goodIn_app (goodIn_of _ (by decide +kernel)) ggX11_lesson_X11_within
set_option maxRecDepth 20000 in
theorem ggX11_lesson_X11_lessonNow : GoodIn wsX11_lesson wsX11_lessonNow := goodIn_r _ [13, 14, 15, 16, 17, 18, 4, 19, 20, 21, 22, 23, 24, 25, 26, 27, 28, 29, 30, 31, 32, 33, 34, 35, 36, 37, 38, 39, 40, 41, 42, 43, 44, 45, 46, 47, 48, 49, 50, 51, 52, 53, 54, 55, 56, 57, 58, 59, 60, 61, 62, 63, 64] (by decide +kernel) (by decide +kernel)
set_option maxRecDepth 20000 in
theorem gX11_lesson_X11_lessonNow : GoodIn wsX11_lesson (wsV RX11 132 RX11 yX11_lessonNow wsX11_lessonNow) := goodIn_app (goodIn_of _ (by decide +kernel)) ggX11_lesson_X11_lessonNow
set_option maxRecDepth 20000 in
theorem ggX11_stripes_X11_isBoy : GoodIn wsX11_stripes wsX11_isBoy := goodIn_r _ [6, 7, 8, 9, 5, 10, 11, 12, 13, 14, 15, 16, 17, 18, 19, 20, 21, 22, 23, 24, 25, 26, 27, 28, 29, 30, 31, 32, 33, 34, 35, 36, 37, 38, 39, 40, 41, 42, 43, 44, 45, 46, 47, 48, 49, 50] (by decide +kernel) (by decide +kernel)
set_option maxRecDepth 20000 in
theorem gX11_stripes_X11_isBoy : GoodIn wsX11_stripes (wsV RX11 136 RX11 yX11_isBoy wsX11_isBoy) := goodIn_app (goodIn_of _ (by decide +kernel)) ggX11_stripes_X11_isBoy
set_option maxRecDepth 20000 in
theorem ggX11_prince_X11_within : GoodIn wsX11_prince wsX11_within := goodIn_r _ [11] (by decide +kernel) (by decide +kernel)
set_option maxRecDepth 20000 in
theorem gX11_prince_X11_within : GoodIn wsX11_prince (va_wsS RX11 77 yX11_within wsX11_within) := goodIn_app (goodIn_of _ (by decide +kernel)) ggX11_prince_X11_within
set_option maxRecDepth 20000 in
theorem ggX11_feelsNow_X11_feels : GoodIn wsX11_feelsNow wsX11_feels := goodIn_r _ [7] (by decide +kernel) (by decide +kernel)
set_option maxRecDepth 20000 in
theorem gX11_feelsNow_X11_feels : GoodIn wsX11_feelsNow (va_wsS RX11 139 yX11_feels wsX11_feels) := goodIn_app (goodIn_of _ (by decide +kernel)) ggX11_feelsNow_X11_feels
set_option maxRecDepth 20000 in
theorem ggX11_tenthsBy_X11_feels : GoodIn wsX11_tenthsBy wsX11_feels := goodIn_r _ [7] (by decide +kernel) (by decide +kernel)
set_option maxRecDepth 20000 in
theorem gX11_tenthsBy_X11_feels : GoodIn wsX11_tenthsBy (va_wsS RX11 139 yX11_feels wsX11_feels) := goodIn_app (goodIn_of _ (by decide +kernel)) ggX11_tenthsBy_X11_feels
set_option maxRecDepth 20000 in
theorem ggX11_tenthsNow_X11_tenthsBy : GoodIn wsX11_tenthsNow wsX11_tenthsBy := goodIn_r _ [7, 8, 9, 10, 11, 12, 6, 13, 14, 15, 16, 17, 18, 19, 20, 21, 22, 23, 24, 25, 26, 27, 28, 29, 30, 31, 32, 33, 34, 35, 36, 37, 38, 39, 40, 41, 42, 43, 44, 45, 46, 47, 48, 49, 50, 51, 52, 53] (by decide +kernel) (by decide +kernel)
set_option maxRecDepth 20000 in
theorem gX11_tenthsNow_X11_tenthsBy : GoodIn wsX11_tenthsNow (wsV RX11 142 RX11 yX11_tenthsBy wsX11_tenthsBy) := goodIn_app (goodIn_of _ (by decide +kernel)) ggX11_tenthsNow_X11_tenthsBy
set_option maxRecDepth 20000 in
theorem ggX11_princeNow_X11_feelsNow : GoodIn wsX11_princeNow wsX11_feelsNow := goodIn_r _ [10, 1, 5, 3, 11, 12, 9, 13, 14, 15, 16, 17, 18, 19, 20, 21, 22, 23, 24, 25, 26, 27, 28, 29, 30, 31, 32, 33, 34, 35, 36, 37, 38, 39, 40, 41, 42, 43, 44, 45, 46, 47, 48, 49, 50, 51, 52, 53] (by decide +kernel) (by decide +kernel)
set_option maxRecDepth 20000 in
theorem gX11_princeNow_X11_feelsNow : GoodIn wsX11_princeNow (wsV RX11 146 RX11 yX11_feelsNow wsX11_feelsNow) := goodIn_app (goodIn_of _ (by decide +kernel)) ggX11_princeNow_X11_feelsNow
set_option maxRecDepth 20000 in
theorem ggX11_about_X11_isPrince : GoodIn wsX11_about wsX11_isPrince := goodIn_r _ [5, 6, 7, 8, 4, 9, 26, 27, 28, 29, 30, 31, 32, 33, 34, 35, 36, 37, 38, 39, 40, 41, 42, 43, 44, 45, 46, 47, 48, 49, 50, 51, 52, 53, 54, 55, 56, 57, 58, 59, 60, 61, 62, 63, 64, 65] (by decide +kernel) (by decide +kernel)
set_option maxRecDepth 20000 in
theorem gX11_about_X11_isPrince : GoodIn wsX11_about (wsV RX11 149 RX11 yX11_isPrince wsX11_isPrince) := goodIn_app (goodIn_of _ (by decide +kernel)) ggX11_about_X11_isPrince
set_option maxRecDepth 20000 in
theorem ggX11_about_X11_within : GoodIn wsX11_about wsX11_within := goodIn_r _ [9] (by decide +kernel) (by decide +kernel)
set_option maxRecDepth 20000 in
theorem gX11_about_X11_within : GoodIn wsX11_about (va_wsS RX11 77 yX11_within wsX11_within) := goodIn_app (goodIn_of _ (by decide +kernel)) ggX11_about_X11_within
set_option maxRecDepth 20000 in
theorem ggX11_about_X11_princeNow : GoodIn wsX11_about wsX11_princeNow := goodIn_r _ [13, 14, 15, 16, 17, 18, 19, 20, 21, 4, 22, 23, 24, 25, 26, 27, 28, 29, 30, 31, 32, 33, 34, 35, 36, 37, 38, 39, 40, 41, 42, 43, 44, 45, 46, 47, 48, 49, 50, 51, 52, 53, 54, 55, 56, 57, 58, 59, 60, 61, 62, 63, 64, 65] (by decide +kernel) (by decide +kernel)
set_option maxRecDepth 20000 in
theorem gX11_about_X11_princeNow : GoodIn wsX11_about (wsV RX11 152 RX11 yX11_princeNow wsX11_princeNow) := goodIn_app (goodIn_of _ (by decide +kernel)) ggX11_about_X11_princeNow
set_option maxRecDepth 20000 in
theorem ggX11_as_X11_isPrince : GoodIn wsX11_as wsX11_isPrince := goodIn_r _ [6, 7, 8, 9, 5, 10, 11, 12, 13, 14, 15, 16, 17, 18, 19, 20, 21, 22, 23, 24, 25, 26, 27, 28, 29, 30, 31, 32, 33, 34, 35, 36, 37, 38, 39, 40, 41, 42, 43, 44, 45, 46, 47, 48, 49, 50] (by decide +kernel) (by decide +kernel)
set_option maxRecDepth 20000 in
theorem gX11_as_X11_isPrince : GoodIn wsX11_as (wsV RX11 149 RX11 yX11_isPrince wsX11_isPrince) := goodIn_app (goodIn_of _ (by decide +kernel)) ggX11_as_X11_isPrince
set_option maxRecDepth 20000 in
theorem ggX11_as_X11_within : GoodIn wsX11_as wsX11_within := goodIn_r _ [10] (by decide +kernel) (by decide +kernel)
set_option maxRecDepth 20000 in
theorem gX11_as_X11_within : GoodIn wsX11_as (va_wsS RX11 77 yX11_within wsX11_within) := goodIn_app (goodIn_of _ (by decide +kernel)) ggX11_as_X11_within
set_option maxRecDepth 20000 in
theorem ggX11_give_X11_isPrince : GoodIn wsX11_give wsX11_isPrince := goodIn_r _ [6, 7, 8, 9, 5, 10, 16, 17, 18, 19, 20, 21, 22, 23, 24, 25, 26, 27, 28, 29, 30, 31, 32, 33, 34, 35, 36, 37, 38, 39, 40, 41, 42, 43, 44, 45, 46, 47, 48, 49, 50, 51, 52, 53, 54, 55] (by decide +kernel) (by decide +kernel)
set_option maxRecDepth 20000 in
theorem gX11_give_X11_isPrince : GoodIn wsX11_give (wsV RX11 149 RX11 yX11_isPrince wsX11_isPrince) := goodIn_app (goodIn_of _ (by decide +kernel)) ggX11_give_X11_isPrince
set_option maxRecDepth 20000 in
theorem ggX11_give_X11_isBoy : GoodIn wsX11_give wsX11_isBoy := goodIn_r _ [14, 15, 8, 9, 5, 10, 16, 17, 18, 19, 20, 21, 22, 23, 24, 25, 26, 27, 28, 29, 30, 31, 32, 33, 34, 35, 36, 37, 38, 39, 40, 41, 42, 43, 44, 45, 46, 47, 48, 49, 50, 51, 52, 53, 54, 55] (by decide +kernel) (by decide +kernel)
set_option maxRecDepth 20000 in
theorem gX11_give_X11_isBoy : GoodIn wsX11_give (wsV RX11 136 RX11 yX11_isBoy wsX11_isBoy) := goodIn_app (goodIn_of _ (by decide +kernel)) ggX11_give_X11_isBoy
set_option maxRecDepth 20000 in
theorem ggX11_fond_X11_isPrince : GoodIn wsX11_fond wsX11_isPrince := goodIn_r _ [6, 7, 8, 9, 5, 10, 16, 17, 18, 19, 20, 21, 22, 23, 24, 25, 26, 27, 28, 29, 30, 31, 32, 33, 34, 35, 36, 37, 38, 39, 40, 41, 42, 43, 44, 45, 46, 47, 48, 49, 50, 51, 52, 53, 54, 55] (by decide +kernel) (by decide +kernel)
set_option maxRecDepth 20000 in
theorem gX11_fond_X11_isPrince : GoodIn wsX11_fond (wsV RX11 149 RX11 yX11_isPrince wsX11_isPrince) := goodIn_app (goodIn_of _ (by decide +kernel)) ggX11_fond_X11_isPrince
set_option maxRecDepth 20000 in
theorem ggX11_fond_X11_isBoy : GoodIn wsX11_fond wsX11_isBoy := goodIn_r _ [14, 15, 8, 9, 5, 10, 16, 17, 18, 19, 20, 21, 22, 23, 24, 25, 26, 27, 28, 29, 30, 31, 32, 33, 34, 35, 36, 37, 38, 39, 40, 41, 42, 43, 44, 45, 46, 47, 48, 49, 50, 51, 52, 53, 54, 55] (by decide +kernel) (by decide +kernel)
set_option maxRecDepth 20000 in
theorem gX11_fond_X11_isBoy : GoodIn wsX11_fond (wsV RX11 136 RX11 yX11_isBoy wsX11_isBoy) := goodIn_app (goodIn_of _ (by decide +kernel)) ggX11_fond_X11_isBoy
set_option maxRecDepth 20000 in
theorem ggX11_fond_X11_within : GoodIn wsX11_fond wsX11_within := goodIn_r _ [10] (by decide +kernel) (by decide +kernel)
set_option maxRecDepth 20000 in
theorem gX11_fond_X11_within : GoodIn wsX11_fond (va_wsS RX11 77 yX11_within wsX11_within) := goodIn_app (goodIn_of _ (by decide +kernel)) ggX11_fond_X11_within
set_option maxRecDepth 20000 in
theorem ggX11_tenths_X11_isPrince : GoodIn wsX11_tenths wsX11_isPrince := goodIn_r _ [5, 6, 7, 8, 4, 9, 31, 32, 33, 34, 35, 36, 37, 38, 39, 40, 41, 42, 43, 44, 45, 46, 47, 48, 49, 50, 51, 52, 53, 54, 55, 56, 57, 58, 59, 60, 61, 62, 63, 64, 65, 66, 67, 68, 69, 70] (by decide +kernel) (by decide +kernel)
set_option maxRecDepth 20000 in
theorem gX11_tenths_X11_isPrince : GoodIn wsX11_tenths (wsV RX11 149 RX11 yX11_isPrince wsX11_isPrince) := goodIn_app (goodIn_of _ (by decide +kernel)) ggX11_tenths_X11_isPrince
set_option maxRecDepth 20000 in
theorem ggX11_tenths_X11_isLesson : GoodIn wsX11_tenths wsX11_isLesson := goodIn_r _ [13, 14, 7, 8, 4, 9, 31, 32, 33, 34, 35, 36, 37, 38, 39, 40, 41, 42, 43, 44, 45, 46, 47, 48, 49, 50, 51, 52, 53, 54, 55, 56, 57, 58, 59, 60, 61, 62, 63, 64, 65, 66, 67, 68, 69, 70] (by decide +kernel) (by decide +kernel)
set_option maxRecDepth 20000 in
theorem gX11_tenths_X11_isLesson : GoodIn wsX11_tenths (wsV RX11 128 RX11 yX11_isLesson wsX11_isLesson) := goodIn_app (goodIn_of _ (by decide +kernel)) ggX11_tenths_X11_isLesson
set_option maxRecDepth 20000 in
theorem ggX11_tenths_X11_tenthsNow : GoodIn wsX11_tenths wsX11_tenthsNow := goodIn_r _ [18, 19, 20, 21, 22, 23, 4, 24, 25, 26, 27, 28, 29, 30, 31, 32, 33, 34, 35, 36, 37, 38, 39, 40, 41, 42, 43, 44, 45, 46, 47, 48, 49, 50, 51, 52, 53, 54, 55, 56, 57, 58, 59, 60, 61, 62, 63, 64, 65, 66, 67, 68, 69, 70] (by decide +kernel) (by decide +kernel)
set_option maxRecDepth 20000 in
theorem gX11_tenths_X11_tenthsNow : GoodIn wsX11_tenths (wsV RX11 155 RX11 yX11_tenthsNow wsX11_tenthsNow) := goodIn_app (goodIn_of _ (by decide +kernel)) ggX11_tenths_X11_tenthsNow
set_option maxRecDepth 20000 in
theorem ggX11_teach_X11_isPrince : GoodIn wsX11_teach wsX11_isPrince := goodIn_r _ [8, 9, 10, 11, 7, 12, 42, 43, 44, 45, 46, 47, 48, 49, 50, 51, 52, 53, 54, 55, 56, 57, 58, 59, 60, 61, 62, 63, 64, 65, 66, 67, 68, 69, 70, 71, 72, 73, 74, 75, 76, 77, 78, 79, 80, 81] (by decide +kernel) (by decide +kernel)
set_option maxRecDepth 20000 in
theorem gX11_teach_X11_isPrince : GoodIn wsX11_teach (wsV RX11 149 RX11 yX11_isPrince wsX11_isPrince) := goodIn_app (goodIn_of _ (by decide +kernel)) ggX11_teach_X11_isPrince
set_option maxRecDepth 20000 in
theorem ggX11_teach_X11_isLesson : GoodIn wsX11_teach wsX11_isLesson := goodIn_r _ [16, 17, 10, 11, 7, 12, 42, 43, 44, 45, 46, 47, 48, 49, 50, 51, 52, 53, 54, 55, 56, 57, 58, 59, 60, 61, 62, 63, 64, 65, 66, 67, 68, 69, 70, 71, 72, 73, 74, 75, 76, 77, 78, 79, 80, 81] (by decide +kernel) (by decide +kernel)
set_option maxRecDepth 20000 in
theorem gX11_teach_X11_isLesson : GoodIn wsX11_teach (wsV RX11 128 RX11 yX11_isLesson wsX11_isLesson) := goodIn_app (goodIn_of _ (by decide +kernel)) ggX11_teach_X11_isLesson
set_option maxRecDepth 20000 in
theorem ggX11_teach_X11_has : GoodIn wsX11_teach wsX11_has := goodIn_r _ [20] (by decide +kernel) (by decide +kernel)
set_option maxRecDepth 20000 in
theorem gX11_teach_X11_has : GoodIn wsX11_teach (va_wsS RX11 122 yX11_has wsX11_has) := goodIn_app (goodIn_of _ (by decide +kernel)) ggX11_teach_X11_has
set_option maxRecDepth 20000 in
theorem ggX11_teach_X11_tenthsNow : GoodIn wsX11_teach wsX11_tenthsNow := goodIn_r _ [24, 25, 3, 26, 27, 28, 7, 29, 30, 31, 32, 33, 34, 35, 42, 43, 44, 45, 46, 47, 48, 49, 50, 51, 52, 53, 54, 55, 56, 57, 58, 59, 60, 61, 62, 63, 64, 65, 66, 67, 68, 69, 70, 71, 72, 73, 74, 75, 76, 77, 78, 79, 80, 81] (by decide +kernel) (by decide +kernel)
set_option maxRecDepth 20000 in
theorem gX11_teach_X11_tenthsNow : GoodIn wsX11_teach (wsV RX11 155 RX11 yX11_tenthsNow wsX11_tenthsNow) := goodIn_app (goodIn_of _ (by decide +kernel)) ggX11_teach_X11_tenthsNow
set_option maxRecDepth 20000 in
theorem ggX11_teach_X11_fails : GoodIn wsX11_teach wsX11_fails := goodIn_r _ [39, 3, 2, 40, 25, 41, 42, 43, 44, 45, 46, 47, 48, 49, 50, 51, 52, 53, 54, 55, 56, 57, 58, 59, 60, 61, 62, 63, 64, 65, 66, 67, 68, 69, 70, 71, 72, 73, 74, 75, 76, 77, 78, 79, 80, 81] (by decide +kernel) (by decide +kernel)
set_option maxRecDepth 20000 in
theorem gX11_teach_X11_fails : GoodIn wsX11_teach (wsV RX11 158 RX11 yX11_fails wsX11_fails) := goodIn_app (goodIn_of _ (by decide +kernel)) ggX11_teach_X11_fails
set_option maxRecDepth 20000 in
theorem ggX11_layLeft_X11_has : GoodIn wsX11_layLeft wsX11_has := goodIn_r _ [8] (by decide +kernel) (by decide +kernel)
set_option maxRecDepth 20000 in
theorem gX11_layLeft_X11_has : GoodIn wsX11_layLeft (va_wsS RX11 122 yX11_has wsX11_has) := goodIn_app (goodIn_of _ (by decide +kernel)) ggX11_layLeft_X11_has
set_option maxRecDepth 20000 in
theorem ggX11_layOrder_X11_has : GoodIn wsX11_layOrder wsX11_has := goodIn_r _ [7] (by decide +kernel) (by decide +kernel)
set_option maxRecDepth 20000 in
theorem gX11_layOrder_X11_has : GoodIn wsX11_layOrder (va_wsS RX11 122 yX11_has wsX11_has) := goodIn_app (goodIn_of _ (by decide +kernel)) ggX11_layOrder_X11_has
set_option maxRecDepth 20000 in
theorem ggX11_meanBy_X11_save : GoodIn wsX11_meanBy wsX11_save := goodIn_r _ [8, 9, 10, 11, 12, 13, 40, 41, 42, 43, 44, 45, 46, 47, 48, 49, 50, 51, 52, 53, 54, 55, 56, 57, 58, 59, 60, 61, 62, 63, 64, 65, 66, 67, 68, 69, 70, 71, 72, 73, 74, 75, 76, 77, 78, 79] (by decide +kernel) (by decide +kernel)
set_option maxRecDepth 20000 in
theorem gX11_meanBy_X11_save : GoodIn wsX11_meanBy (wsV RX11 171 RX11 yX11_save wsX11_save) := goodIn_app (goodIn_of _ (by decide +kernel)) ggX11_meanBy_X11_save
set_option maxRecDepth 20000 in
theorem ggX11_meanBy_X11_tenthsNow : GoodIn wsX11_meanBy wsX11_tenthsNow := goodIn_r _ [17, 12, 10, 18, 19, 20, 7, 21, 22, 23, 24, 25, 26, 27, 40, 41, 42, 43, 44, 45, 46, 47, 48, 49, 50, 51, 52, 53, 54, 55, 56, 57, 58, 59, 60, 61, 62, 63, 64, 65, 66, 67, 68, 69, 70, 71, 72, 73, 74, 75, 76, 77, 78, 79] (by decide +kernel) (by decide +kernel)
set_option maxRecDepth 20000 in
theorem gX11_meanBy_X11_tenthsNow : GoodIn wsX11_meanBy (wsV RX11 155 RX11 yX11_tenthsNow wsX11_tenthsNow) := goodIn_app (goodIn_of _ (by decide +kernel)) ggX11_meanBy_X11_tenthsNow
set_option maxRecDepth 20000 in
theorem ggX11_meanBy_X11_has : GoodIn wsX11_meanBy wsX11_has := goodIn_r _ [30] (by decide +kernel) (by decide +kernel)
set_option maxRecDepth 20000 in
theorem gX11_meanBy_X11_has : GoodIn wsX11_meanBy (va_wsS RX11 122 yX11_has wsX11_has) := goodIn_app (goodIn_of _ (by decide +kernel)) ggX11_meanBy_X11_has
set_option maxRecDepth 20000 in
theorem ggX11_meanBy_X11_fails : GoodIn wsX11_meanBy wsX11_fails := goodIn_r _ [34, 10, 9, 3, 12, 35, 40, 41, 42, 43, 44, 45, 46, 47, 48, 49, 50, 51, 52, 53, 54, 55, 56, 57, 58, 59, 60, 61, 62, 63, 64, 65, 66, 67, 68, 69, 70, 71, 72, 73, 74, 75, 76, 77, 78, 79] (by decide +kernel) (by decide +kernel)
set_option maxRecDepth 20000 in
theorem gX11_meanBy_X11_fails : GoodIn wsX11_meanBy (wsV RX11 158 RX11 yX11_fails wsX11_fails) := goodIn_app (goodIn_of _ (by decide +kernel)) ggX11_meanBy_X11_fails
set_option maxRecDepth 20000 in
theorem ggX11_meanBy_X11_load : GoodIn wsX11_meanBy wsX11_load := goodIn_r _ [39, 9, 10, 11, 12, 13, 40, 41, 42, 43, 44, 45, 46, 47, 48, 49, 50, 51, 52, 53, 54, 55, 56, 57, 58, 59, 60, 61, 62, 63, 64, 65, 66, 67, 68, 69, 70, 71, 72, 73, 74, 75, 76, 77, 78, 79] (by decide +kernel) (by decide +kernel)
set_option maxRecDepth 20000 in
theorem gX11_meanBy_X11_load : GoodIn wsX11_meanBy (wsV RX11 175 RX11 yX11_load wsX11_load) := goodIn_app (goodIn_of _ (by decide +kernel)) ggX11_meanBy_X11_load
set_option maxRecDepth 20000 in
theorem ggX11_meanOf_X11_meanBy : GoodIn wsX11_meanOf wsX11_meanBy := goodIn_r _ [6, 1, 7, 8, 9, 10, 11, 5, 12, 13, 14, 15, 16, 17, 18, 19, 20, 21, 22, 23, 24, 25, 26, 27, 28, 29, 30, 31, 32, 33, 34, 35, 36, 37, 38, 39, 40, 41, 42, 43, 44, 45, 46, 47, 48, 49, 50, 51, 52, 53, 54, 55, 56, 57, 58, 59, 60, 61, 62, 63, 64, 65, 66, 67, 68, 69, 70, 71, 72, 73, 74, 75, 76, 77, 78, 79, 80, 81, 82, 83] (by decide +kernel) (by decide +kernel)
set_option maxRecDepth 20000 in
theorem gX11_meanOf_X11_meanBy : GoodIn wsX11_meanOf (wsV RX11 178 RX11 yX11_meanBy wsX11_meanBy) := goodIn_app (goodIn_of _ (by decide +kernel)) ggX11_meanOf_X11_meanBy
set_option maxRecDepth 20000 in
theorem ggX11_orderNow_X11_layLeft : GoodIn wsX11_orderNow wsX11_layLeft := goodIn_r _ [9, 1, 10, 11, 12, 13, 14, 8, 15, 64, 65, 66, 67, 68, 69, 70, 71, 72, 73, 74, 75, 76, 77, 78, 79, 80, 81, 82, 83, 84, 85, 86, 87, 88, 89, 90, 91, 92, 93, 94, 95, 96, 97, 98, 99, 100, 101, 102, 103] (by decide +kernel) (by decide +kernel)
set_option maxRecDepth 20000 in
theorem gX11_orderNow_X11_layLeft : GoodIn wsX11_orderNow (wsV RX11 182 RX11 yX11_layLeft wsX11_layLeft) := goodIn_app (goodIn_of _ (by decide +kernel)) ggX11_orderNow_X11_layLeft
set_option maxRecDepth 20000 in
theorem ggX11_orderNow_X11_layOrder : GoodIn wsX11_orderNow wsX11_layOrder := goodIn_r _ [19, 1, 3, 12, 13, 14, 8, 15, 64, 65, 66, 67, 68, 69, 70, 71, 72, 73, 74, 75, 76, 77, 78, 79, 80, 81, 82, 83, 84, 85, 86, 87, 88, 89, 90, 91, 92, 93, 94, 95, 96, 97, 98, 99, 100, 101, 102, 103] (by decide +kernel) (by decide +kernel)
set_option maxRecDepth 20000 in
theorem gX11_orderNow_X11_layOrder : GoodIn wsX11_orderNow (wsV RX11 187 RX11 yX11_layOrder wsX11_layOrder) := goodIn_app (goodIn_of _ (by decide +kernel)) ggX11_orderNow_X11_layOrder
set_option maxRecDepth 20000 in
theorem ggX11_orderNow_X11_meanOf : GoodIn wsX11_orderNow wsX11_meanOf := goodIn_r _ [23, 1, 24, 25, 26, 8, 27, 3, 28, 29, 30, 31, 32, 33, 34, 35, 36, 37, 38, 39, 40, 41, 42, 43, 44, 45, 46, 47, 48, 49, 50, 51, 13, 14, 15, 52, 53, 54, 55, 56, 57, 58, 59, 60, 64, 65, 66, 67, 68, 69, 70, 71, 72, 73, 74, 75, 76, 77, 78, 79, 80, 81, 82, 83, 84, 85, 86, 87, 88, 89, 90, 91, 92, 93, 94, 95, 96, 97, 98, 99, 100, 101, 102, 103] (by decide +kernel) (by decide +kernel)
set_option maxRecDepth 20000 in
theorem gX11_orderNow_X11_meanOf : GoodIn wsX11_orderNow (wsV RX11 190 RX11 yX11_meanOf wsX11_meanOf) := goodIn_app (goodIn_of _ (by decide +kernel)) ggX11_orderNow_X11_meanOf
set_option maxRecDepth 20000 in
theorem ggX11_orderNow_X11_lowest : GoodIn wsX11_orderNow wsX11_lowest := goodIn_r _ [63] (by decide +kernel) (by decide +kernel)
set_option maxRecDepth 20000 in
theorem gX11_orderNow_X11_lowest : GoodIn wsX11_orderNow (va_wsS RX11 194 yX11_lowest wsX11_lowest) := goodIn_app (goodIn_of _ (by decide +kernel)) ggX11_orderNow_X11_lowest
set_option maxRecDepth 20000 in
theorem ggX11_order_X11_isPrince : GoodIn wsX11_order wsX11_isPrince := goodIn_r _ [9, 10, 11, 12, 8, 13, 80, 81, 82, 83, 84, 85, 86, 87, 88, 89, 90, 91, 92, 93, 94, 95, 96, 97, 98, 99, 100, 101, 102, 103, 104, 105, 106, 107, 108, 109, 110, 111, 112, 113, 114, 115, 116, 117, 118, 119] (by decide +kernel) (by decide +kernel)
set_option maxRecDepth 20000 in
theorem gX11_order_X11_isPrince : GoodIn wsX11_order (wsV RX11 149 RX11 yX11_isPrince wsX11_isPrince) := goodIn_app (goodIn_of _ (by decide +kernel)) ggX11_order_X11_isPrince
set_option maxRecDepth 20000 in
theorem ggX11_order_X11_within : GoodIn wsX11_order wsX11_within := goodIn_r _ [13] (by decide +kernel) (by decide +kernel)
set_option maxRecDepth 20000 in
theorem gX11_order_X11_within : GoodIn wsX11_order (va_wsS RX11 77 yX11_within wsX11_within) := goodIn_app (goodIn_of _ (by decide +kernel)) ggX11_order_X11_within
set_option maxRecDepth 20000 in
theorem ggX11_order_X11_orderNow : GoodIn wsX11_order wsX11_orderNow := goodIn_r _ [17, 18, 19, 20, 21, 22, 23, 24, 8, 25, 26, 27, 28, 29, 30, 31, 32, 33, 34, 35, 36, 37, 38, 39, 40, 41, 42, 43, 44, 45, 46, 47, 48, 49, 50, 51, 52, 53, 54, 55, 56, 57, 58, 59, 60, 61, 62, 63, 64, 65, 66, 67, 68, 69, 70, 71, 72, 73, 74, 75, 76, 77, 78, 79, 80, 81, 82, 83, 84, 85, 86, 87, 88, 89, 90, 91, 92, 93, 94, 95, 96, 97, 98, 99, 100, 101, 102, 103, 104, 105, 106, 107, 108, 109, 110, 111, 112, 113, 114, 115, 116, 117, 118, 119] (by decide +kernel) (by decide +kernel)
set_option maxRecDepth 20000 in
theorem gX11_order_X11_orderNow : GoodIn wsX11_order (wsV RX11 209 RX11 yX11_orderNow wsX11_orderNow) := goodIn_app (goodIn_of _ (by decide +kernel)) ggX11_order_X11_orderNow
set_option maxRecDepth 20000 in
theorem ggX11_matchBy_X11_boyBy : GoodIn wsX11_matchBy wsX11_boyBy := goodIn_r _ [9, 1, 23, 24, 25, 26, 27, 28, 29, 30, 31, 32, 33, 34, 35, 36, 37, 38, 39, 40, 41, 42, 43, 44, 45, 46, 47, 48, 49, 50, 51, 52, 53, 54, 55, 56, 57, 58, 59, 60, 61, 62] (by decide +kernel) (by decide +kernel)
set_option maxRecDepth 20000 in
theorem gX11_matchBy_X11_boyBy : GoodIn wsX11_matchBy (wsV RX11 212 RX11 yX11_boyBy wsX11_boyBy) := goodIn_app (goodIn_of _ (by decide +kernel)) ggX11_matchBy_X11_boyBy
set_option maxRecDepth 20000 in
theorem ggX11_matchBy_X11_has : GoodIn wsX11_matchBy wsX11_has := goodIn_r _ [12] (by decide +kernel) (by decide +kernel)
set_option maxRecDepth 20000 in
theorem gX11_matchBy_X11_has : GoodIn wsX11_matchBy (va_wsS RX11 122 yX11_has wsX11_has) := goodIn_app (goodIn_of _ (by decide +kernel)) ggX11_matchBy_X11_has
set_option maxRecDepth 20000 in
theorem ggX11_matchBy_X11_tenthsBy : GoodIn wsX11_matchBy wsX11_tenthsBy := goodIn_r _ [16, 17, 18, 19, 20, 21, 8, 22, 23, 24, 25, 26, 27, 28, 29, 30, 31, 32, 33, 34, 35, 36, 37, 38, 39, 40, 41, 42, 43, 44, 45, 46, 47, 48, 49, 50, 51, 52, 53, 54, 55, 56, 57, 58, 59, 60, 61, 62] (by decide +kernel) (by decide +kernel)
set_option maxRecDepth 20000 in
theorem gX11_matchBy_X11_tenthsBy : GoodIn wsX11_matchBy (wsV RX11 142 RX11 yX11_tenthsBy wsX11_tenthsBy) := goodIn_app (goodIn_of _ (by decide +kernel)) ggX11_matchBy_X11_tenthsBy
set_option maxRecDepth 20000 in
theorem ggX11_matchNow_X11_matchBy : GoodIn wsX11_matchNow wsX11_matchBy := goodIn_r _ [8, 1, 2, 9, 10, 11, 12, 13, 7, 14, 15, 16, 17, 18, 19, 20, 21, 22, 23, 24, 25, 26, 27, 38, 39, 40, 41, 42, 43, 44, 45, 46, 47, 48, 49, 50, 51, 52, 53, 54, 55, 56, 57, 58, 59, 60, 61, 62, 63, 64, 65, 66, 67, 68, 69, 70, 71, 72, 73, 74, 75, 76, 77] (by decide +kernel) (by decide +kernel)
set_option maxRecDepth 20000 in
theorem gX11_matchNow_X11_matchBy : GoodIn wsX11_matchNow (wsV RX11 216 RX11 yX11_matchBy wsX11_matchBy) := goodIn_app (goodIn_of _ (by decide +kernel)) ggX11_matchNow_X11_matchBy
set_option maxRecDepth 20000 in
theorem ggX11_matchNow_X11_lowest : GoodIn wsX11_matchNow wsX11_lowest := goodIn_r _ [30] (by decide +kernel) (by decide +kernel)
set_option maxRecDepth 20000 in
theorem gX11_matchNow_X11_lowest : GoodIn wsX11_matchNow (va_wsS RX11 194 yX11_lowest wsX11_lowest) := goodIn_app (goodIn_of _ (by decide +kernel)) ggX11_matchNow_X11_lowest
set_option maxRecDepth 20000 in
theorem ggX11_matchNow_X11_isPrince : GoodIn wsX11_matchNow wsX11_isPrince := goodIn_r _ [34, 1, 35, 36, 7, 37, 38, 39, 40, 41, 42, 43, 44, 45, 46, 47, 48, 49, 50, 51, 52, 53, 54, 55, 56, 57, 58, 59, 60, 61, 62, 63, 64, 65, 66, 67, 68, 69, 70, 71, 72, 73, 74, 75, 76, 77] (by decide +kernel) (by decide +kernel)
set_option maxRecDepth 20000 in
theorem gX11_matchNow_X11_isPrince : GoodIn wsX11_matchNow (wsV RX11 149 RX11 yX11_isPrince wsX11_isPrince) := goodIn_app (goodIn_of _ (by decide +kernel)) ggX11_matchNow_X11_isPrince
set_option maxRecDepth 20000 in
theorem ggX11_matchNow_X11_boyBy : GoodIn wsX11_matchNow wsX11_boyBy := goodIn_r _ [14, 1, 38, 39, 40, 41, 42, 43, 44, 45, 46, 47, 48, 49, 50, 51, 52, 53, 54, 55, 56, 57, 58, 59, 60, 61, 62, 63, 64, 65, 66, 67, 68, 69, 70, 71, 72, 73, 74, 75, 76, 77] (by decide +kernel) (by decide +kernel)
set_option maxRecDepth 20000 in
theorem gX11_matchNow_X11_boyBy : GoodIn wsX11_matchNow (wsV RX11 212 RX11 yX11_boyBy wsX11_boyBy) := goodIn_app (goodIn_of _ (by decide +kernel)) ggX11_matchNow_X11_boyBy
set_option maxRecDepth 20000 in
theorem ggX11_match_X11_isLesson : GoodIn wsX11_match wsX11_isLesson := goodIn_r _ [5, 6, 7, 8, 4, 9, 47, 48, 49, 50, 51, 52, 53, 54, 55, 56, 57, 58, 59, 60, 61, 62, 63, 64, 65, 66, 67, 68, 69, 70, 71, 72, 73, 74, 75, 76, 77, 78, 79, 80, 81, 82, 83, 84, 85, 86] (by decide +kernel) (by decide +kernel)
set_option maxRecDepth 20000 in
theorem gX11_match_X11_isLesson : GoodIn wsX11_match (wsV RX11 128 RX11 yX11_isLesson wsX11_isLesson) := goodIn_app (goodIn_of _ (by decide +kernel)) ggX11_match_X11_isLesson
set_option maxRecDepth 20000 in
theorem ggX11_match_X11_within : GoodIn wsX11_match wsX11_within := goodIn_r _ [9] (by decide +kernel) (by decide +kernel)
set_option maxRecDepth 20000 in
theorem gX11_match_X11_within : GoodIn wsX11_match (va_wsS RX11 77 yX11_within wsX11_within) := goodIn_app (goodIn_of _ (by decide +kernel)) ggX11_match_X11_within
set_option maxRecDepth 20000 in
theorem ggX11_match_X11_matchNow : GoodIn wsX11_match wsX11_matchNow := goodIn_r _ [13, 14, 15, 16, 17, 18, 19, 4, 20, 21, 22, 23, 24, 25, 26, 27, 28, 29, 30, 31, 32, 33, 34, 35, 36, 37, 38, 39, 40, 41, 42, 43, 44, 45, 46, 7, 8, 9, 47, 48, 49, 50, 51, 52, 53, 54, 55, 56, 57, 58, 59, 60, 61, 62, 63, 64, 65, 66, 67, 68, 69, 70, 71, 72, 73, 74, 75, 76, 77, 78, 79, 80, 81, 82, 83, 84, 85, 86] (by decide +kernel) (by decide +kernel)
set_option maxRecDepth 20000 in
theorem gX11_match_X11_matchNow : GoodIn wsX11_match (wsV RX11 219 RX11 yX11_matchNow wsX11_matchNow) := goodIn_app (goodIn_of _ (by decide +kernel)) ggX11_match_X11_matchNow
set_option maxRecDepth 20000 in
theorem ggX11_couldFail_X11_save : GoodIn wsX11_couldFail wsX11_save := goodIn_r _ [8, 9, 10, 11, 12, 13, 40, 41, 42, 43, 44, 45, 46, 47, 48, 49, 50, 51, 52, 53, 54, 55, 56, 57, 58, 59, 60, 61, 62, 63, 64, 65, 66, 67, 68, 69, 70, 71, 72, 73, 74, 75, 76, 77, 78, 79] (by decide +kernel) (by decide +kernel)
set_option maxRecDepth 20000 in
theorem gX11_couldFail_X11_save : GoodIn wsX11_couldFail (wsV RX11 171 RX11 yX11_save wsX11_save) := goodIn_app (goodIn_of _ (by decide +kernel)) ggX11_couldFail_X11_save
set_option maxRecDepth 20000 in
theorem ggX11_couldFail_X11_has : GoodIn wsX11_couldFail wsX11_has := goodIn_r _ [16] (by decide +kernel) (by decide +kernel)
set_option maxRecDepth 20000 in
theorem gX11_couldFail_X11_has : GoodIn wsX11_couldFail (va_wsS RX11 122 yX11_has wsX11_has) := goodIn_app (goodIn_of _ (by decide +kernel)) ggX11_couldFail_X11_has
set_option maxRecDepth 20000 in
theorem ggX11_couldFail_X11_tenthsNow : GoodIn wsX11_couldFail wsX11_tenthsNow := goodIn_r _ [20, 12, 10, 21, 22, 23, 7, 24, 25, 26, 27, 28, 29, 30, 40, 41, 42, 43, 44, 45, 46, 47, 48, 49, 50, 51, 52, 53, 54, 55, 56, 57, 58, 59, 60, 61, 62, 63, 64, 65, 66, 67, 68, 69, 70, 71, 72, 73, 74, 75, 76, 77, 78, 79] (by decide +kernel) (by decide +kernel)
set_option maxRecDepth 20000 in
theorem gX11_couldFail_X11_tenthsNow : GoodIn wsX11_couldFail (wsV RX11 155 RX11 yX11_tenthsNow wsX11_tenthsNow) := goodIn_app (goodIn_of _ (by decide +kernel)) ggX11_couldFail_X11_tenthsNow
set_option maxRecDepth 20000 in
theorem ggX11_couldFail_X11_fails : GoodIn wsX11_couldFail wsX11_fails := goodIn_r _ [34, 10, 9, 3, 12, 35, 40, 41, 42, 43, 44, 45, 46, 47, 48, 49, 50, 51, 52, 53, 54, 55, 56, 57, 58, 59, 60, 61, 62, 63, 64, 65, 66, 67, 68, 69, 70, 71, 72, 73, 74, 75, 76, 77, 78, 79] (by decide +kernel) (by decide +kernel)
set_option maxRecDepth 20000 in
theorem gX11_couldFail_X11_fails : GoodIn wsX11_couldFail (wsV RX11 158 RX11 yX11_fails wsX11_fails) := goodIn_app (goodIn_of _ (by decide +kernel)) ggX11_couldFail_X11_fails
set_option maxRecDepth 20000 in
theorem ggX11_couldFail_X11_load : GoodIn wsX11_couldFail wsX11_load := goodIn_r _ [39, 9, 10, 11, 12, 13, 40, 41, 42, 43, 44, 45, 46, 47, 48, 49, 50, 51, 52, 53, 54, 55, 56, 57, 58, 59, 60, 61, 62, 63, 64, 65, 66, 67, 68, 69, 70, 71, 72, 73, 74, 75, 76, 77, 78, 79] (by decide +kernel) (by decide +kernel)
set_option maxRecDepth 20000 in
theorem gX11_couldFail_X11_load : GoodIn wsX11_couldFail (wsV RX11 175 RX11 yX11_load wsX11_load) := goodIn_app (goodIn_of _ (by decide +kernel)) ggX11_couldFail_X11_load
set_option maxRecDepth 20000 in
theorem ggX11_faultsNow_X11_layLeft : GoodIn wsX11_faultsNow wsX11_layLeft := goodIn_r _ [7, 8, 1, 2, 9, 10, 11, 6, 12, 50, 51, 52, 53, 54, 55, 56, 57, 58, 59, 60, 61, 62, 63, 64, 65, 66, 67, 68, 69, 70, 71, 72, 73, 74, 75, 76, 77, 78, 79, 80, 81, 82, 83, 84, 85, 86, 87, 88, 89] (by decide +kernel) (by decide +kernel)
set_option maxRecDepth 20000 in
theorem gX11_faultsNow_X11_layLeft : GoodIn wsX11_faultsNow (wsV RX11 182 RX11 yX11_layLeft wsX11_layLeft) := goodIn_app (goodIn_of _ (by decide +kernel)) ggX11_faultsNow_X11_layLeft
set_option maxRecDepth 20000 in
theorem ggX11_faultsNow_X11_couldFail : GoodIn wsX11_faultsNow wsX11_couldFail := goodIn_r _ [16, 8, 9, 17, 18, 19, 20, 6, 21, 22, 23, 24, 25, 26, 10, 11, 12, 27, 28, 29, 30, 31, 32, 33, 34, 35, 36, 37, 38, 39, 40, 41, 42, 43, 44, 45, 46, 47, 48, 49, 50, 51, 52, 53, 54, 55, 56, 57, 58, 59, 60, 61, 62, 63, 64, 65, 66, 67, 68, 69, 70, 71, 72, 73, 74, 75, 76, 77, 78, 79, 80, 81, 82, 83, 84, 85, 86, 87, 88, 89] (by decide +kernel) (by decide +kernel)
set_option maxRecDepth 20000 in
theorem gX11_faultsNow_X11_couldFail : GoodIn wsX11_faultsNow (wsV RX11 222 RX11 yX11_couldFail wsX11_couldFail) := goodIn_app (goodIn_of _ (by decide +kernel)) ggX11_faultsNow_X11_couldFail
set_option maxRecDepth 20000 in
theorem ggX11_faults_X11_isPrince : GoodIn wsX11_faults wsX11_isPrince := goodIn_r _ [5, 6, 7, 8, 4, 9, 62, 63, 64, 65, 66, 67, 68, 69, 70, 71, 72, 73, 74, 75, 76, 77, 78, 79, 80, 81, 82, 83, 84, 85, 86, 87, 88, 89, 90, 91, 92, 93, 94, 95, 96, 97, 98, 99, 100, 101] (by decide +kernel) (by decide +kernel)
set_option maxRecDepth 20000 in
theorem gX11_faults_X11_isPrince : GoodIn wsX11_faults (wsV RX11 149 RX11 yX11_isPrince wsX11_isPrince) := goodIn_app (goodIn_of _ (by decide +kernel)) ggX11_faults_X11_isPrince
set_option maxRecDepth 20000 in
theorem ggX11_faults_X11_within : GoodIn wsX11_faults wsX11_within := goodIn_r _ [9] (by decide +kernel) (by decide +kernel)
set_option maxRecDepth 20000 in
theorem gX11_faults_X11_within : GoodIn wsX11_faults (va_wsS RX11 77 yX11_within wsX11_within) := goodIn_app (goodIn_of _ (by decide +kernel)) ggX11_faults_X11_within
set_option maxRecDepth 20000 in
theorem ggX11_faults_X11_faultsNow : GoodIn wsX11_faults wsX11_faultsNow := goodIn_r _ [13, 14, 15, 16, 17, 18, 4, 19, 20, 21, 22, 23, 24, 25, 26, 27, 28, 29, 30, 31, 32, 33, 34, 35, 36, 37, 38, 39, 40, 41, 42, 43, 44, 45, 46, 47, 48, 49, 50, 51, 52, 53, 54, 55, 56, 57, 58, 59, 60, 61, 62, 63, 64, 65, 66, 67, 68, 69, 70, 71, 72, 73, 74, 75, 76, 77, 78, 79, 80, 81, 82, 83, 84, 85, 86, 87, 88, 89, 90, 91, 92, 93, 94, 95, 96, 97, 98, 99, 100, 101] (by decide +kernel) (by decide +kernel)
set_option maxRecDepth 20000 in
theorem gX11_faults_X11_faultsNow : GoodIn wsX11_faults (wsV RX11 225 RX11 yX11_faultsNow wsX11_faultsNow) := goodIn_app (goodIn_of _ (by decide +kernel)) ggX11_faults_X11_faultsNow
set_option maxRecDepth 20000 in
theorem ggX11_hear_X11_isPrince : GoodIn wsX11_hear wsX11_isPrince := goodIn_r _ [9, 10, 11, 12, 8, 13, 19, 20, 21, 22, 23, 24, 25, 26, 27, 28, 29, 30, 31, 32, 33, 34, 35, 36, 37, 38, 39, 40, 41, 42, 43, 44, 45, 46, 47, 48, 49, 50, 51, 52, 53, 54, 55, 56, 57, 58] (by decide +kernel) (by decide +kernel)
set_option maxRecDepth 20000 in
theorem gX11_hear_X11_isPrince : GoodIn wsX11_hear (wsV RX11 149 RX11 yX11_isPrince wsX11_isPrince) := goodIn_app (goodIn_of _ (by decide +kernel)) ggX11_hear_X11_isPrince
set_option maxRecDepth 20000 in
theorem ggX11_hear_X11_isLesson : GoodIn wsX11_hear wsX11_isLesson := goodIn_r _ [17, 18, 11, 12, 8, 13, 19, 20, 21, 22, 23, 24, 25, 26, 27, 28, 29, 30, 31, 32, 33, 34, 35, 36, 37, 38, 39, 40, 41, 42, 43, 44, 45, 46, 47, 48, 49, 50, 51, 52, 53, 54, 55, 56, 57, 58] (by decide +kernel) (by decide +kernel)
set_option maxRecDepth 20000 in
theorem gX11_hear_X11_isLesson : GoodIn wsX11_hear (wsV RX11 128 RX11 yX11_isLesson wsX11_isLesson) := goodIn_app (goodIn_of _ (by decide +kernel)) ggX11_hear_X11_isLesson
set_option maxRecDepth 20000 in
theorem ggX11_couldBe_X11_tenthsBy : GoodIn wsX11_couldBe wsX11_tenthsBy := goodIn_r _ [9, 10, 11, 12, 13, 14, 8, 15, 16, 17, 18, 19, 20, 21, 22, 23, 24, 25, 26, 27, 28, 29, 30, 31, 32, 33, 34, 35, 36, 37, 38, 39, 40, 41, 42, 43, 44, 45, 46, 47, 48, 49, 50, 51, 52, 53, 54, 55] (by decide +kernel) (by decide +kernel)
set_option maxRecDepth 20000 in
theorem gX11_couldBe_X11_tenthsBy : GoodIn wsX11_couldBe (wsV RX11 142 RX11 yX11_tenthsBy wsX11_tenthsBy) := goodIn_app (goodIn_of _ (by decide +kernel)) ggX11_couldBe_X11_tenthsBy
set_option maxRecDepth 20000 in
theorem ggX11_fondnessNow_X11_couldBe : GoodIn wsX11_fondnessNow wsX11_couldBe := goodIn_r _ [5, 6, 7, 8, 9, 10, 11, 12, 4, 13, 14, 15, 16, 17, 18, 19, 20, 21, 22, 23, 24, 25, 26, 27, 28, 29, 30, 31, 32, 33, 34, 35, 36, 37, 38, 39, 40, 41, 42, 43, 44, 45, 46, 47, 48, 49, 50, 51, 52, 53, 54, 55, 56, 57, 58, 59] (by decide +kernel) (by decide +kernel)
set_option maxRecDepth 20000 in
theorem gX11_fondnessNow_X11_couldBe : GoodIn wsX11_fondnessNow (wsV RX11 228 RX11 yX11_couldBe wsX11_couldBe) := goodIn_app (goodIn_of _ (by decide +kernel)) ggX11_fondnessNow_X11_couldBe
set_option maxRecDepth 20000 in
theorem ggX11_fondness_X11_isPrince : GoodIn wsX11_fondness wsX11_isPrince := goodIn_r _ [5, 6, 7, 8, 4, 9, 32, 33, 34, 35, 36, 37, 38, 39, 40, 41, 42, 43, 44, 45, 46, 47, 48, 49, 50, 51, 52, 53, 54, 55, 56, 57, 58, 59, 60, 61, 62, 63, 64, 65, 66, 67, 68, 69, 70, 71] (by decide +kernel) (by decide +kernel)
set_option maxRecDepth 20000 in
theorem gX11_fondness_X11_isPrince : GoodIn wsX11_fondness (wsV RX11 149 RX11 yX11_isPrince wsX11_isPrince) := goodIn_app (goodIn_of _ (by decide +kernel)) ggX11_fondness_X11_isPrince
set_option maxRecDepth 20000 in
theorem ggX11_fondness_X11_fondnessNow : GoodIn wsX11_fondness wsX11_fondnessNow := goodIn_r _ [13, 14, 15, 16, 4, 17, 18, 19, 20, 21, 22, 23, 24, 25, 26, 27, 28, 29, 30, 31, 32, 33, 34, 35, 36, 37, 38, 39, 40, 41, 42, 43, 44, 45, 46, 47, 48, 49, 50, 51, 52, 53, 54, 55, 56, 57, 58, 59, 60, 61, 62, 63, 64, 65, 66, 67, 68, 69, 70, 71] (by decide +kernel) (by decide +kernel)
set_option maxRecDepth 20000 in
theorem gX11_fondness_X11_fondnessNow : GoodIn wsX11_fondness (wsV RX11 231 RX11 yX11_fondnessNow wsX11_fondnessNow) := goodIn_app (goodIn_of _ (by decide +kernel)) ggX11_fondness_X11_fondnessNow
set_option maxRecDepth 20000 in
theorem ggX11_goOne_X11_draw : GoodIn wsX11_goOne wsX11_draw := goodIn_r _ [7, 8, 9, 10, 11, 12, 35, 36, 37, 38, 39, 40, 41, 42, 43, 44, 45, 46, 47, 48, 49, 50, 51, 52, 53, 54, 55, 56, 57, 58, 59, 60, 61, 62, 63, 64, 65, 66, 67, 68, 69, 70, 71, 72, 73, 74] (by decide +kernel) (by decide +kernel)
set_option maxRecDepth 20000 in
theorem gX11_goOne_X11_draw : GoodIn wsX11_goOne (wsV RX11 246 RX11 yX11_draw wsX11_draw) := goodIn_app (goodIn_of _ (by decide +kernel)) ggX11_goOne_X11_draw
set_option maxRecDepth 20000 in
theorem ggX11_goOne_X11_tenthsNow : GoodIn wsX11_goOne wsX11_tenthsNow := goodIn_r _ [16, 17, 18, 19, 20, 21, 6, 22, 23, 24, 25, 26, 27, 28, 35, 36, 37, 38, 39, 40, 41, 42, 43, 44, 45, 46, 47, 48, 49, 50, 51, 52, 53, 54, 55, 56, 57, 58, 59, 60, 61, 62, 63, 64, 65, 66, 67, 68, 69, 70, 71, 72, 73, 74] (by decide +kernel) (by decide +kernel)
set_option maxRecDepth 20000 in
theorem gX11_goOne_X11_tenthsNow : GoodIn wsX11_goOne (wsV RX11 155 RX11 yX11_tenthsNow wsX11_tenthsNow) := goodIn_app (goodIn_of _ (by decide +kernel)) ggX11_goOne_X11_tenthsNow
set_option maxRecDepth 20000 in
theorem ggX11_goOne_X11_fails : GoodIn wsX11_goOne wsX11_fails := goodIn_r _ [32, 18, 33, 2, 17, 34, 35, 36, 37, 38, 39, 40, 41, 42, 43, 44, 45, 46, 47, 48, 49, 50, 51, 52, 53, 54, 55, 56, 57, 58, 59, 60, 61, 62, 63, 64, 65, 66, 67, 68, 69, 70, 71, 72, 73, 74] (by decide +kernel) (by decide +kernel)
set_option maxRecDepth 20000 in
theorem gX11_goOne_X11_fails : GoodIn wsX11_goOne (wsV RX11 158 RX11 yX11_fails wsX11_fails) := goodIn_app (goodIn_of _ (by decide +kernel)) ggX11_goOne_X11_fails
set_option maxRecDepth 20000 in
theorem ggX11_learntAll_X11_size : GoodIn wsX11_learntAll wsX11_size := goodIn_r _ [6] (by decide +kernel) (by decide +kernel)
set_option maxRecDepth 20000 in
theorem gX11_learntAll_X11_size : GoodIn wsX11_learntAll (va_wsS RX11 249 yX11_size wsX11_size) := goodIn_app (goodIn_of _ (by decide +kernel)) ggX11_learntAll_X11_size
set_option maxRecDepth 20000 in
theorem ggX11_schoolsNow_X11_saveAll : GoodIn wsX11_schoolsNow wsX11_saveAll := goodIn_r _ [9, 10, 11, 12, 4, 60, 61, 62, 63, 64, 65, 66, 67, 68, 69, 70, 71, 72, 73, 74, 75, 76, 77, 78, 79, 80, 81, 82, 83, 84, 85, 86, 87, 88, 89, 90, 91, 92, 93, 94, 95, 96, 97, 98, 99] (by decide +kernel) (by decide +kernel)
set_option maxRecDepth 20000 in
theorem gX11_schoolsNow_X11_saveAll : GoodIn wsX11_schoolsNow (wsV RX11 252 RX11 yX11_saveAll wsX11_saveAll) := goodIn_app (goodIn_of _ (by decide +kernel)) ggX11_schoolsNow_X11_saveAll
set_option maxRecDepth 20000 in
theorem ggX11_schoolsNow_X11_has : GoodIn wsX11_schoolsNow wsX11_has := goodIn_r _ [15] (by decide +kernel) (by decide +kernel)
set_option maxRecDepth 20000 in
theorem gX11_schoolsNow_X11_has : GoodIn wsX11_schoolsNow (va_wsS RX11 122 yX11_has wsX11_has) := goodIn_app (goodIn_of _ (by decide +kernel)) ggX11_schoolsNow_X11_has
set_option maxRecDepth 20000 in
theorem ggX11_schoolsNow_X11_goOne : GoodIn wsX11_schoolsNow wsX11_goOne := goodIn_r _ [19, 4, 20, 21, 22, 23, 8, 24, 25, 1, 26, 27, 28, 29, 30, 31, 32, 11, 33, 34, 35, 36, 37, 38, 39, 40, 41, 42, 43, 44, 45, 46, 47, 12, 48, 60, 61, 62, 63, 64, 65, 66, 67, 68, 69, 70, 71, 72, 73, 74, 75, 76, 77, 78, 79, 80, 81, 82, 83, 84, 85, 86, 87, 88, 89, 90, 91, 92, 93, 94, 95, 96, 97, 98, 99] (by decide +kernel) (by decide +kernel)
set_option maxRecDepth 20000 in
theorem gX11_schoolsNow_X11_goOne : GoodIn wsX11_schoolsNow (wsV RX11 255 RX11 yX11_goOne wsX11_goOne) := goodIn_app (goodIn_of _ (by decide +kernel)) ggX11_schoolsNow_X11_goOne
set_option maxRecDepth 20000 in
theorem ggX11_schoolsNow_X11_learntAll : GoodIn wsX11_schoolsNow wsX11_learntAll := goodIn_r _ [52, 2, 4, 53, 54, 8, 55, 60, 61, 62, 63, 64, 65, 66, 67, 68, 69, 70, 71, 72, 73, 74, 75, 76, 77, 78, 79, 80, 81, 82, 83, 84, 85, 86, 87, 88, 89, 90, 91, 92, 93, 94, 95, 96, 97, 98, 99] (by decide +kernel) (by decide +kernel)
set_option maxRecDepth 20000 in
theorem gX11_schoolsNow_X11_learntAll : GoodIn wsX11_schoolsNow (wsV RX11 258 RX11 yX11_learntAll wsX11_learntAll) := goodIn_app (goodIn_of _ (by decide +kernel)) ggX11_schoolsNow_X11_learntAll
set_option maxRecDepth 20000 in
theorem ggX11_schoolsNow_X11_loadAll : GoodIn wsX11_schoolsNow wsX11_loadAll := goodIn_r _ [59, 11, 10, 12, 4, 60, 61, 62, 63, 64, 65, 66, 67, 68, 69, 70, 71, 72, 73, 74, 75, 76, 77, 78, 79, 80, 81, 82, 83, 84, 85, 86, 87, 88, 89, 90, 91, 92, 93, 94, 95, 96, 97, 98, 99] (by decide +kernel) (by decide +kernel)
set_option maxRecDepth 20000 in
theorem gX11_schoolsNow_X11_loadAll : GoodIn wsX11_schoolsNow (wsV RX11 261 RX11 yX11_loadAll wsX11_loadAll) := goodIn_app (goodIn_of _ (by decide +kernel)) ggX11_schoolsNow_X11_loadAll
set_option maxRecDepth 20000 in
theorem ggX11_schools_X11_within : GoodIn wsX11_schools wsX11_within := goodIn_r _ [5] (by decide +kernel) (by decide +kernel)
set_option maxRecDepth 20000 in
theorem gX11_schools_X11_within : GoodIn wsX11_schools (va_wsS RX11 77 yX11_within wsX11_within) := goodIn_app (goodIn_of _ (by decide +kernel)) ggX11_schools_X11_within
set_option maxRecDepth 20000 in
theorem ggX11_schools_X11_schoolsNow : GoodIn wsX11_schools wsX11_schoolsNow := goodIn_r _ [9, 10, 1, 11, 12, 13, 14, 15, 4, 16, 17, 18, 19, 20, 21, 22, 23, 24, 25, 26, 27, 28, 29, 30, 31, 32, 33, 34, 35, 36, 37, 38, 39, 40, 41, 42, 43, 44, 45, 46, 47, 48, 49, 50, 51, 52, 53, 54, 55, 56, 57, 58, 59, 60, 61, 62, 63, 64, 65, 66, 67, 68, 69, 70, 71, 72, 73, 74, 75, 76, 77, 78, 79, 80, 81, 82, 83, 84, 85, 86, 87, 88, 89, 90, 91, 92, 93, 94, 95, 96, 97, 98, 99, 100, 101, 102, 103, 104, 105, 106] (by decide +kernel) (by decide +kernel)
set_option maxRecDepth 20000 in
theorem gX11_schools_X11_schoolsNow : GoodIn wsX11_schools (wsV RX11 264 RX11 yX11_schoolsNow wsX11_schoolsNow) := goodIn_app (goodIn_of _ (by decide +kernel)) ggX11_schools_X11_schoolsNow
set_option maxRecDepth 20000 in
theorem ggX11_image_X11_stripesAll : GoodIn wsX11_image wsX11_stripesAll := goodIn_r _ [27, 12, 28, 29, 30, 31, 32, 33, 34, 35, 36, 37, 38, 39, 40, 41, 42, 43, 44, 45, 46, 47, 48, 49, 50, 51, 52, 53, 54, 55, 56, 57, 58, 59, 60, 61, 62, 63, 64, 65, 66, 67] (by decide +kernel) (by decide +kernel)
set_option maxRecDepth 20000 in
theorem gX11_image_X11_stripesAll : GoodIn wsX11_image (wsV RX11 279 RX11 yX11_stripesAll wsX11_stripesAll) := goodIn_app (goodIn_of _ (by decide +kernel)) ggX11_image_X11_stripesAll
set_option maxRecDepth 20000 in
theorem ggX11_restore_X11_stripesAll : GoodIn wsX11_restore wsX11_stripesAll := goodIn_r _ [26, 10, 27, 28, 29, 30, 31, 32, 33, 34, 35, 36, 37, 38, 39, 40, 41, 42, 43, 44, 45, 46, 47, 48, 49, 50, 51, 52, 53, 54, 55, 56, 57, 58, 59, 60, 61, 62, 63, 64, 65, 66] (by decide +kernel) (by decide +kernel)
set_option maxRecDepth 20000 in
theorem gX11_restore_X11_stripesAll : GoodIn wsX11_restore (wsV RX11 279 RX11 yX11_stripesAll wsX11_stripesAll) := goodIn_app (goodIn_of _ (by decide +kernel)) ggX11_restore_X11_stripesAll
set_option maxRecDepth 20000 in
theorem ggX11_howMany_X11_stripesAll : GoodIn wsX11_howMany wsX11_stripesAll := goodIn_r _ [12, 13, 22, 23, 24, 25, 26, 27, 28, 29, 30, 31, 32, 33, 34, 35, 36, 37, 38, 39, 40, 41, 42, 43, 44, 45, 46, 47, 48, 49, 50, 51, 52, 53, 54, 55, 56, 57, 58, 59, 60, 61] (by decide +kernel) (by decide +kernel)
set_option maxRecDepth 20000 in
theorem gX11_howMany_X11_stripesAll : GoodIn wsX11_howMany (wsV RX11 279 RX11 yX11_stripesAll wsX11_stripesAll) := goodIn_app (goodIn_of _ (by decide +kernel)) ggX11_howMany_X11_stripesAll
set_option maxRecDepth 20000 in
theorem ggX11_howMany_X11_learntAll : GoodIn wsX11_howMany wsX11_learntAll := goodIn_r _ [17, 3, 18, 19, 20, 11, 21, 22, 23, 24, 25, 26, 27, 28, 29, 30, 31, 32, 33, 34, 35, 36, 37, 38, 39, 40, 41, 42, 43, 44, 45, 46, 47, 48, 49, 50, 51, 52, 53, 54, 55, 56, 57, 58, 59, 60, 61] (by decide +kernel) (by decide +kernel)
set_option maxRecDepth 20000 in
theorem gX11_howMany_X11_learntAll : GoodIn wsX11_howMany (wsV RX11 258 RX11 yX11_learntAll wsX11_learntAll) := goodIn_app (goodIn_of _ (by decide +kernel)) ggX11_howMany_X11_learntAll
set_option maxRecDepth 20000 in
theorem ggX11_count_X11_howMany : GoodIn wsX11_count wsX11_howMany := goodIn_r _ [5, 6, 7, 8, 9, 10, 11, 12, 13, 14, 15, 4, 16, 17, 18, 19, 20, 21, 22, 23, 24, 25, 26, 27, 28, 29, 30, 31, 32, 33, 34, 35, 36, 37, 38, 39, 40, 41, 42, 43, 44, 45, 46, 47, 48, 49, 50, 51, 52, 53, 54, 55, 56, 57, 58, 59, 60, 61, 62, 63, 64, 65] (by decide +kernel) (by decide +kernel)
set_option maxRecDepth 20000 in
theorem gX11_count_X11_howMany : GoodIn wsX11_count (wsV RX11 282 RX11 yX11_howMany wsX11_howMany) := goodIn_app (goodIn_of _ (by decide +kernel)) ggX11_count_X11_howMany
set_option maxRecDepth 20000 in
theorem ggX11_mixLesson_X11_lessonNow : GoodIn wsX11_mixLesson wsX11_lessonNow := goodIn_r _ [5, 6, 7, 8, 9, 10, 4, 11, 12, 13, 14, 15, 16, 57, 58, 59, 60, 61, 62, 63, 64, 65, 66, 67, 68, 69, 70, 71, 72, 73, 74, 75, 76, 77, 78, 79, 80, 81, 82, 83, 84, 85, 86, 87, 88, 89, 90, 91, 92, 93, 94, 95, 96] (by decide +kernel) (by decide +kernel)
set_option maxRecDepth 20000 in
theorem gX11_mixLesson_X11_lessonNow : GoodIn wsX11_mixLesson (wsV RX11 132 RX11 yX11_lessonNow wsX11_lessonNow) := goodIn_app (goodIn_of _ (by decide +kernel)) ggX11_mixLesson_X11_lessonNow
set_option maxRecDepth 20000 in
theorem ggX11_mixLesson_X11_mix : GoodIn wsX11_mixLesson wsX11_mix := goodIn_r _ [20, 21, 22, 57, 58, 59, 60, 61, 62, 63, 64, 65, 66, 67, 68, 69, 70, 71, 72, 73, 74, 75, 76, 77, 78, 79, 80, 81, 82, 83, 84, 85, 86, 87, 88, 89, 90, 91, 92, 93, 94, 95, 96] (by decide +kernel) (by decide +kernel)
set_option maxRecDepth 20000 in
theorem gX11_mixLesson_X11_mix : GoodIn wsX11_mixLesson (wsV RX11 290 RX11 yX11_mix wsX11_mix) := goodIn_app (goodIn_of _ (by decide +kernel)) ggX11_mixLesson_X11_mix
set_option maxRecDepth 20000 in
theorem ggX11_mixLesson_X11_matchNow : GoodIn wsX11_mixLesson wsX11_matchNow := goodIn_r _ [26, 12, 27, 28, 29, 30, 31, 4, 32, 33, 7, 34, 35, 36, 37, 14, 15, 16, 38, 39, 40, 41, 42, 43, 6, 44, 45, 46, 47, 48, 49, 50, 51, 52, 53, 54, 55, 56, 57, 58, 59, 60, 61, 62, 63, 64, 65, 66, 67, 68, 69, 70, 71, 72, 73, 74, 75, 76, 77, 78, 79, 80, 81, 82, 83, 84, 85, 86, 87, 88, 89, 90, 91, 92, 93, 94, 95, 96] (by decide +kernel) (by decide +kernel)
set_option maxRecDepth 20000 in
theorem gX11_mixLesson_X11_matchNow : GoodIn wsX11_mixLesson (wsV RX11 219 RX11 yX11_matchNow wsX11_matchNow) := goodIn_app (goodIn_of _ (by decide +kernel)) ggX11_mixLesson_X11_matchNow
set_option maxRecDepth 20000 in
theorem ggX11_mixPrince_X11_princeNow : GoodIn wsX11_mixPrince wsX11_princeNow := goodIn_r _ [6, 7, 8, 9, 10, 11, 12, 13, 14, 5, 15, 16, 17, 18, 46, 47, 48, 49, 50, 51, 52, 53, 54, 55, 56, 57, 58, 59, 60, 61, 62, 63, 64, 65, 66, 67, 68, 69, 70, 71, 72, 73, 74, 75, 76, 77, 78, 79, 80, 81, 82, 83, 84, 85] (by decide +kernel) (by decide +kernel)
set_option maxRecDepth 20000 in
theorem gX11_mixPrince_X11_princeNow : GoodIn wsX11_mixPrince (wsV RX11 152 RX11 yX11_princeNow wsX11_princeNow) := goodIn_app (goodIn_of _ (by decide +kernel)) ggX11_mixPrince_X11_princeNow
set_option maxRecDepth 20000 in
theorem ggX11_mixPrince_X11_mix : GoodIn wsX11_mixPrince wsX11_mix := goodIn_r _ [22, 23, 24, 46, 47, 48, 49, 50, 51, 52, 53, 54, 55, 56, 57, 58, 59, 60, 61, 62, 63, 64, 65, 66, 67, 68, 69, 70, 71, 72, 73, 74, 75, 76, 77, 78, 79, 80, 81, 82, 83, 84, 85] (by decide +kernel) (by decide +kernel)
set_option maxRecDepth 20000 in
theorem gX11_mixPrince_X11_mix : GoodIn wsX11_mixPrince (wsV RX11 290 RX11 yX11_mix wsX11_mix) := goodIn_app (goodIn_of _ (by decide +kernel)) ggX11_mixPrince_X11_mix
set_option maxRecDepth 20000 in
theorem ggX11_mixPrince_X11_tenthsNow : GoodIn wsX11_mixPrince wsX11_tenthsNow := goodIn_r _ [28, 11, 9, 29, 30, 31, 5, 32, 8, 7, 33, 16, 17, 18, 46, 47, 48, 49, 50, 51, 52, 53, 54, 55, 56, 57, 58, 59, 60, 61, 62, 63, 64, 65, 66, 67, 68, 69, 70, 71, 72, 73, 74, 75, 76, 77, 78, 79, 80, 81, 82, 83, 84, 85] (by decide +kernel) (by decide +kernel)
set_option maxRecDepth 20000 in
theorem gX11_mixPrince_X11_tenthsNow : GoodIn wsX11_mixPrince (wsV RX11 155 RX11 yX11_tenthsNow wsX11_tenthsNow) := goodIn_app (goodIn_of _ (by decide +kernel)) ggX11_mixPrince_X11_tenthsNow
set_option maxRecDepth 20000 in
theorem ggX11_mixPrince_X11_fondnessNow : GoodIn wsX11_mixPrince wsX11_fondnessNow := goodIn_r _ [37, 38, 39, 40, 5, 41, 42, 43, 44, 45, 29, 30, 31, 32, 8, 7, 33, 16, 17, 18, 46, 47, 48, 49, 50, 51, 52, 53, 54, 55, 56, 57, 58, 59, 60, 61, 62, 63, 64, 65, 66, 67, 68, 69, 70, 71, 72, 73, 74, 75, 76, 77, 78, 79, 80, 81, 82, 83, 84, 85] (by decide +kernel) (by decide +kernel)
set_option maxRecDepth 20000 in
theorem gX11_mixPrince_X11_fondnessNow : GoodIn wsX11_mixPrince (wsV RX11 231 RX11 yX11_fondnessNow wsX11_fondnessNow) := goodIn_app (goodIn_of _ (by decide +kernel)) ggX11_mixPrince_X11_fondnessNow
set_option maxRecDepth 20000 in
theorem ggX11_digest_X11_mix : GoodIn wsX11_digest wsX11_mix := goodIn_r _ [12, 13, 2, 113, 114, 115, 116, 117, 118, 119, 120, 121, 122, 123, 124, 125, 126, 127, 128, 129, 130, 131, 132, 133, 134, 135, 136, 137, 138, 139, 140, 141, 142, 143, 144, 145, 146, 147, 148, 149, 150, 151, 152] (by decide +kernel) (by decide +kernel)
set_option maxRecDepth 20000 in
theorem gX11_digest_X11_mix : GoodIn wsX11_digest (wsV RX11 290 RX11 yX11_mix wsX11_mix) := goodIn_app (goodIn_of _ (by decide +kernel)) ggX11_digest_X11_mix
set_option maxRecDepth 20000 in
theorem ggX11_digest_X11_mixLesson : GoodIn wsX11_digest wsX11_mixLesson := goodIn_r _ [17, 18, 19, 20, 11, 21, 22, 23, 24, 25, 26, 27, 5, 28, 29, 30, 31, 8, 9, 10, 12, 13, 2, 32, 33, 34, 35, 36, 37, 38, 39, 40, 41, 42, 43, 44, 45, 46, 47, 48, 49, 50, 51, 52, 53, 54, 55, 56, 57, 58, 59, 60, 61, 62, 63, 64, 65, 113, 114, 115, 116, 117, 118, 119, 120, 121, 122, 123, 124, 125, 126, 127, 128, 129, 130, 131, 132, 133, 134, 135, 136, 137, 138, 139, 140, 141, 142, 143, 144, 145, 146, 147, 148, 149, 150, 151, 152] (by decide +kernel) (by decide +kernel)
set_option maxRecDepth 20000 in
theorem gX11_digest_X11_mixLesson : GoodIn wsX11_digest (wsV RX11 296 RX11 yX11_mixLesson wsX11_mixLesson) := goodIn_app (goodIn_of _ (by decide +kernel)) ggX11_digest_X11_mixLesson
set_option maxRecDepth 20000 in
theorem ggX11_digest_X11_mixPrince : GoodIn wsX11_digest wsX11_mixPrince := goodIn_r _ [69, 3, 70, 71, 72, 11, 73, 52, 51, 74, 28, 42, 75, 76, 77, 78, 53, 54, 55, 8, 9, 10, 12, 13, 2, 79, 80, 81, 82, 47, 48, 49, 50, 22, 83, 84, 85, 86, 87, 88, 89, 90, 91, 92, 93, 94, 113, 114, 115, 116, 117, 118, 119, 120, 121, 122, 123, 124, 125, 126, 127, 128, 129, 130, 131, 132, 133, 134, 135, 136, 137, 138, 139, 140, 141, 142, 143, 144, 145, 146, 147, 148, 149, 150, 151, 152] (by decide +kernel) (by decide +kernel)
set_option maxRecDepth 20000 in
theorem gX11_digest_X11_mixPrince : GoodIn wsX11_digest (wsV RX11 299 RX11 yX11_mixPrince wsX11_mixPrince) := goodIn_app (goodIn_of _ (by decide +kernel)) ggX11_digest_X11_mixPrince
set_option maxRecDepth 20000 in
theorem ggX11_digest_X11_howMany : GoodIn wsX11_digest wsX11_howMany := goodIn_r _ [98, 3, 99, 5, 91, 6, 100, 101, 102, 103, 104, 11, 105, 4, 106, 107, 108, 109, 28, 110, 111, 112, 113, 114, 115, 116, 117, 118, 119, 120, 121, 122, 123, 124, 125, 126, 127, 128, 129, 130, 131, 132, 133, 134, 135, 136, 137, 138, 139, 140, 141, 142, 143, 144, 145, 146, 147, 148, 149, 150, 151, 152] (by decide +kernel) (by decide +kernel)
set_option maxRecDepth 20000 in
theorem gX11_digest_X11_howMany : GoodIn wsX11_digest (wsV RX11 282 RX11 yX11_howMany wsX11_howMany) := goodIn_app (goodIn_of _ (by decide +kernel)) ggX11_digest_X11_howMany
set_option maxRecDepth 20000 in
theorem ggL_law_X10_init : GoodIn wsL_law wsX10_init := goodIn_r _ [8, 9, 10, 11, 12, 13, 14, 15, 16, 17, 18, 19, 20, 21, 22, 23, 24, 25, 26, 27, 28, 29, 30, 31, 32, 33, 34, 35, 36, 37, 38, 39, 40, 41, 42, 43, 44, 45, 46, 47, 48, 49, 50, 51, 52, 53, 54, 55, 56, 57, 58, 59, 60, 61, 62, 63, 64, 65, 66, 67, 68, 69, 70, 71, 72, 73, 74, 75, 76, 77, 78, 875, 876, 824, 825, 826, 827, 828, 829, 830, 831, 832, 833, 834, 877, 878, 879, 880, 881, 882, 883, 884, 885, 886, 887, 888, 889, 890, 891, 892, 893, 894, 895, 896, 897, 898] (by decide +kernel) (by decide +kernel)
set_option maxRecDepth 20000 in
theorem gL_law_X10_init : GoodIn wsL_law (wsX10_init) := ggL_law_X10_init
set_option maxRecDepth 20000 in
theorem ggL_law_X11_init : GoodIn wsL_law wsX11_init := goodIn_r _ [81, 82, 10, 11, 42, 83, 84, 85, 86, 87, 88, 89, 90, 91, 92, 93, 94, 95, 96, 97, 98, 99, 100, 101, 102, 103, 104, 105, 835, 836, 837, 838, 839, 840, 841, 842, 843, 844, 845, 846, 847, 848, 849, 850, 851, 852, 853, 854, 855, 856, 857, 858, 859, 860, 861, 862, 863, 864, 865, 866, 867, 868, 869, 870, 871, 872, 873, 874] (by decide +kernel) (by decide +kernel)
set_option maxRecDepth 20000 in
theorem gL_law_X11_init : GoodIn wsL_law (wsX11_init) := ggL_law_X11_init
set_option maxRecDepth 20000 in
theorem ggL_law_X10_letter : GoodIn wsL_law wsX10_letter := goodIn_r _ [109, 15, 110, 14, 111, 112, 43, 44, 113, 2, 114, 824, 825, 826, 827, 828, 829, 830, 831, 832, 833, 834, 875, 876] (by decide +kernel) (by decide +kernel)
set_option maxRecDepth 20000 in
theorem gL_law_X10_letter : GoodIn wsL_law (wsV RL 13 RX10 yX10_letter wsX10_letter) := goodIn_app (goodIn_of _ (by decide +kernel)) ggL_law_X10_letter
set_option maxRecDepth 20000 in
theorem ggL_law_X11_letter : GoodIn wsL_law wsX11_letter := goodIn_r _ [118, 119, 95, 120, 121, 5, 122, 835, 836, 837, 838, 839, 840, 841, 842, 843, 844, 845, 846, 847, 848, 849, 850, 851, 852, 853, 854, 855, 856, 857, 858, 859, 860, 861, 862, 863, 864, 865, 866, 867, 868, 869, 870, 871, 872, 873, 874] (by decide +kernel) (by decide +kernel)
set_option maxRecDepth 20000 in
theorem gL_law_X11_letter : GoodIn wsL_law (wsV RL 17 RX11 yX11_letter wsX11_letter) := goodIn_app (goodIn_of _ (by decide +kernel)) ggL_law_X11_letter
set_option maxRecDepth 20000 in
theorem ggL_law_X10_blank : GoodIn wsL_law wsX10_blank := goodIn_r _ [126, 15, 824, 825, 826, 827, 828, 829, 830, 831, 832, 833, 834, 875, 876] (by decide +kernel) (by decide +kernel)
set_option maxRecDepth 20000 in
theorem gL_law_X10_blank : GoodIn wsL_law (wsV RL 18 RX10 yX10_blank wsX10_blank) := goodIn_app (goodIn_of _ (by decide +kernel)) ggL_law_X10_blank
set_option maxRecDepth 20000 in
theorem ggL_law_X11_blank : GoodIn wsL_law wsX11_blank := goodIn_r _ [130, 119, 835, 836, 837, 838, 839, 840, 841, 842, 843, 844, 845, 846, 847, 848, 849, 850, 851, 852, 853, 854, 855, 856, 857, 858, 859, 860, 861, 862, 863, 864, 865, 866, 867, 868, 869, 870, 871, 872, 873, 874] (by decide +kernel) (by decide +kernel)
set_option maxRecDepth 20000 in
theorem gL_law_X11_blank : GoodIn wsL_law (wsV RL 22 RX11 yX11_blank wsX11_blank) := goodIn_app (goodIn_of _ (by decide +kernel)) ggL_law_X11_blank
set_option maxRecDepth 20000 in
theorem ggL_law_X10_fault : GoodIn wsL_law wsX10_fault := goodIn_r _ [134, 15, 135, 14, 136, 137, 44, 138, 139, 140, 141, 142, 143, 144, 145, 146, 147, 148, 149, 43, 150, 2, 151, 152, 153, 154, 155, 156, 157, 158, 159, 824, 825, 826, 827, 828, 829, 830, 831, 832, 833, 834, 875, 876] (by decide +kernel) (by decide +kernel)
set_option maxRecDepth 20000 in
theorem gL_law_X10_fault : GoodIn wsL_law (wsV RL 23 RX10 yX10_fault wsX10_fault) := goodIn_app (goodIn_of _ (by decide +kernel)) ggL_law_X10_fault
set_option maxRecDepth 20000 in
theorem ggL_law_X11_fault : GoodIn wsL_law wsX11_fault := goodIn_r _ [163, 164, 165, 166, 5, 167, 168, 169, 170, 171, 172, 173, 119, 95, 120, 121, 122, 174, 175, 176, 177, 178, 179, 180, 181, 835, 836, 837, 838, 839, 840, 841, 842, 843, 844, 845, 846, 847, 848, 849, 850, 851, 852, 853, 854, 855, 856, 857, 858, 859, 860, 861, 862, 863, 864, 865, 866, 867, 868, 869, 870, 871, 872, 873, 874] (by decide +kernel) (by decide +kernel)
set_option maxRecDepth 20000 in
theorem gL_law_X11_fault : GoodIn wsL_law (wsV RL 26 RX11 yX11_fault wsX11_fault) := goodIn_app (goodIn_of _ (by decide +kernel)) ggL_law_X11_fault
set_option maxRecDepth 20000 in
theorem ggL_law_X10_school : GoodIn wsL_law wsX10_school := goodIn_r _ [185, 15, 19, 25, 36, 37, 186, 14, 187, 188, 44, 189, 135, 136, 137, 138, 139, 140, 141, 142, 143, 144, 145, 146, 147, 148, 149, 43, 150, 2, 151, 152, 153, 154, 155, 156, 157, 158, 159, 190, 18, 191, 192, 50, 48, 49, 51, 113, 114, 193, 24, 194, 195, 55, 60, 59, 196, 197, 824, 825, 826, 827, 828, 829, 830, 831, 832, 833, 834, 875, 876, 877, 878, 879, 880, 881, 882, 883, 884, 885, 886, 887, 888, 889] (by decide +kernel) (by decide +kernel)
set_option maxRecDepth 20000 in
theorem gL_law_X10_school : GoodIn wsL_law (wsV RL 27 RX10 yX10_school wsX10_school) := goodIn_app (goodIn_of _ (by decide +kernel)) ggL_law_X10_school
set_option maxRecDepth 20000 in
theorem ggL_law_X11_school : GoodIn wsL_law wsX11_school := goodIn_r _ [201, 168, 169, 202, 95, 203, 83, 84, 85, 204, 205, 206, 119, 164, 165, 166, 5, 167, 170, 171, 172, 173, 120, 121, 122, 174, 175, 176, 177, 178, 179, 180, 181, 835, 836, 837, 838, 839, 840, 841, 842, 843, 844, 845, 846, 847, 848, 849, 850, 851, 852, 853, 854, 855, 856, 857, 858, 859, 860, 861, 862, 863, 864, 865, 866, 867, 868, 869, 870, 871, 872, 873, 874] (by decide +kernel) (by decide +kernel)
set_option maxRecDepth 20000 in
theorem gL_law_X11_school : GoodIn wsL_law (wsV RL 30 RX11 yX11_school wsX11_school) := goodIn_app (goodIn_of _ (by decide +kernel)) ggL_law_X11_school
set_option maxRecDepth 20000 in
theorem ggL_law_X10_lesson : GoodIn wsL_law wsX10_lesson := goodIn_r _ [210, 19, 25, 211, 18, 212, 213, 50, 214, 215, 216, 48, 150, 2, 151, 217, 218, 219, 49, 220, 24, 221, 222, 55, 223, 224, 225, 226, 58, 227, 228, 824, 825, 826, 827, 828, 829, 830, 831, 832, 833, 834, 877, 878, 879, 880, 881, 882, 883, 884, 885, 886, 887, 888, 889] (by decide +kernel) (by decide +kernel)
set_option maxRecDepth 20000 in
theorem gL_law_X10_lesson : GoodIn wsL_law (wsV RL 31 RX10 yX10_lesson wsX10_lesson) := goodIn_app (goodIn_of _ (by decide +kernel)) ggL_law_X10_lesson
set_option maxRecDepth 20000 in
theorem ggL_law_X11_lesson : GoodIn wsL_law wsX11_lesson := goodIn_r _ [232, 233, 234, 235, 5, 236, 202, 120, 121, 122, 237, 238, 239, 240, 83, 84, 241, 242, 243, 244, 205, 89, 245, 246, 247, 835, 836, 837, 838, 839, 840, 841, 842, 843, 844, 845, 846, 847, 848, 849, 850, 851, 852, 853, 854, 855, 856, 857, 858, 859, 860, 861, 862, 863, 864, 865, 866, 867, 868, 869, 870, 871, 872, 873, 874] (by decide +kernel) (by decide +kernel)
set_option maxRecDepth 20000 in
theorem gL_law_X11_lesson : GoodIn wsL_law (wsV RL 35 RX11 yX11_lesson wsX11_lesson) := goodIn_app (goodIn_of _ (by decide +kernel)) ggL_law_X11_lesson
set_option maxRecDepth 20000 in
theorem ggL_law_X10_stripes : GoodIn wsL_law wsX10_stripes := goodIn_r _ [251, 19, 25, 252, 18, 253, 254, 50, 255, 256, 2, 257, 258, 24, 259, 260, 59, 150, 151, 824, 825, 826, 827, 828, 829, 830, 831, 832, 833, 834, 877, 878, 879, 880, 881, 882, 883, 884, 885, 886, 887, 888, 889] (by decide +kernel) (by decide +kernel)
set_option maxRecDepth 20000 in
theorem gL_law_X10_stripes : GoodIn wsL_law (wsV RL 36 RX10 yX10_stripes wsX10_stripes) := goodIn_app (goodIn_of _ (by decide +kernel)) ggL_law_X10_stripes
set_option maxRecDepth 20000 in
theorem ggL_law_X11_stripes : GoodIn wsL_law wsX11_stripes := goodIn_r _ [264, 85, 265, 266, 267, 5, 268, 202, 120, 121, 122, 835, 836, 837, 838, 839, 840, 841, 842, 843, 844, 845, 846, 847, 848, 849, 850, 851, 852, 853, 854, 855, 856, 857, 858, 859, 860, 861, 862, 863, 864, 865, 866, 867, 868, 869, 870, 871, 872, 873, 874] (by decide +kernel) (by decide +kernel)
set_option maxRecDepth 20000 in
theorem gL_law_X11_stripes : GoodIn wsL_law (wsV RL 39 RX11 yX11_stripes wsX11_stripes) := goodIn_app (goodIn_of _ (by decide +kernel)) ggL_law_X11_stripes
set_option maxRecDepth 20000 in
theorem ggL_law_X10_prince : GoodIn wsL_law wsX10_prince := goodIn_r _ [272, 19, 25, 21, 273, 274, 2, 275, 252, 18, 253, 254, 50, 276, 277, 278, 279, 280, 281, 282, 283, 284, 285, 286, 287, 288, 289, 290, 20, 291, 292, 293, 294, 295, 296, 297, 298, 299, 10, 11, 300, 301, 302, 303, 304, 305, 306, 307, 308, 309, 310, 311, 312, 313, 314, 24, 315, 316, 55, 58, 317, 318, 319, 320, 56, 113, 114, 321, 322, 323, 324, 57, 824, 825, 826, 827, 828, 829, 830, 831, 832, 833, 834, 881, 882, 883, 884, 885, 886, 887, 888, 889, 877, 878, 879, 880, 899, 900, 901, 902, 903] (by decide +kernel) (by decide +kernel)
set_option maxRecDepth 20000 in
theorem gL_law_X10_prince : GoodIn wsL_law (wsV RL 40 RX10 yX10_prince wsX10_prince) := goodIn_app (goodIn_of _ (by decide +kernel)) ggL_law_X10_prince
set_option maxRecDepth 20000 in
theorem ggL_law_X11_prince : GoodIn wsL_law wsX11_prince := goodIn_r _ [328, 202, 205, 86, 87, 88, 89, 90, 120, 121, 5, 122, 835, 836, 837, 838, 839, 840, 841, 842, 843, 844, 845, 846, 847, 848, 849, 850, 851, 852, 853, 854, 855, 856, 857, 858, 859, 860, 861, 862, 863, 864, 865, 866, 867, 868, 869, 870, 871, 872, 873, 874] (by decide +kernel) (by decide +kernel)
set_option maxRecDepth 20000 in
theorem gL_law_X11_prince : GoodIn wsL_law (wsV RL 43 RX11 yX11_prince wsX11_prince) := goodIn_app (goodIn_of _ (by decide +kernel)) ggL_law_X11_prince
set_option maxRecDepth 20000 in
theorem ggL_law_X10_about : GoodIn wsL_law wsX10_about := goodIn_r _ [332, 333, 25, 334, 335, 336, 2, 337, 21, 338, 339, 340, 341, 342, 284, 343, 344, 345, 346, 290, 347, 348, 349, 287, 350, 351, 352, 353, 292, 354, 355, 281, 356, 357, 24, 358, 359, 57, 150, 151, 360, 361, 362, 363, 364, 365, 366, 367, 56, 368, 369, 370, 371, 372, 373, 374, 375, 376, 377, 378, 379, 380, 381, 382, 383, 384, 385, 386, 387, 388, 389, 224, 225, 226, 58, 255, 256, 257, 900, 902, 901, 903, 899, 824, 825, 826, 827, 828, 829, 830, 831, 832, 833, 834, 881, 882, 883, 884, 885, 886, 887, 888, 889] (by decide +kernel) (by decide +kernel)
set_option maxRecDepth 20000 in
theorem gL_law_X10_about : GoodIn wsL_law (wsV RL 44 RX10 yX10_about wsX10_about) := goodIn_app (goodIn_of _ (by decide +kernel)) ggL_law_X10_about
set_option maxRecDepth 20000 in
theorem ggL_law_X11_about : GoodIn wsL_law wsX11_about := goodIn_r _ [393, 394, 395, 396, 5, 397, 205, 120, 121, 122, 398, 399, 400, 401, 86, 87, 88, 89, 90, 402, 403, 404, 405, 406, 407, 408, 835, 836, 837, 838, 839, 840, 841, 842, 843, 844, 845, 846, 847, 848, 849, 850, 851, 852, 853, 854, 855, 856, 857, 858, 859, 860, 861, 862, 863, 864, 865, 866, 867, 868, 869, 870, 871, 872, 873, 874] (by decide +kernel) (by decide +kernel)
set_option maxRecDepth 20000 in
theorem gL_law_X11_about : GoodIn wsL_law (wsV RL 47 RX11 yX11_about wsX11_about) := goodIn_app (goodIn_of _ (by decide +kernel)) ggL_law_X11_about
set_option maxRecDepth 20000 in
theorem ggL_law_X10_as : GoodIn wsL_law wsX10_as := goodIn_r _ [412, 334, 335, 336, 2, 337, 25, 21, 273, 274, 275, 413, 414, 415, 416, 292, 417, 418, 419, 420, 421, 422, 423, 424, 425, 426, 824, 825, 826, 827, 828, 829, 830, 831, 832, 833, 834, 881, 882, 883, 884, 885, 886, 887, 888, 889] (by decide +kernel) (by decide +kernel)
set_option maxRecDepth 20000 in
theorem gL_law_X10_as : GoodIn wsL_law (wsV RL 48 RX10 yX10_as wsX10_as) := goodIn_app (goodIn_of _ (by decide +kernel)) ggL_law_X10_as
set_option maxRecDepth 20000 in
theorem ggL_law_X11_as : GoodIn wsL_law wsX11_as := goodIn_r _ [430, 86, 394, 395, 396, 5, 397, 205, 120, 121, 122, 835, 836, 837, 838, 839, 840, 841, 842, 843, 844, 845, 846, 847, 848, 849, 850, 851, 852, 853, 854, 855, 856, 857, 858, 859, 860, 861, 862, 863, 864, 865, 866, 867, 868, 869, 870, 871, 872, 873, 874] (by decide +kernel) (by decide +kernel)
set_option maxRecDepth 20000 in
theorem gL_law_X11_as : GoodIn wsL_law (wsV RL 51 RX11 yX11_as wsX11_as) := goodIn_app (goodIn_of _ (by decide +kernel)) ggL_law_X11_as
set_option maxRecDepth 20000 in
theorem ggL_law_X10_give : GoodIn wsL_law wsX10_give := goodIn_r _ [434, 25, 334, 335, 336, 2, 337, 21, 255, 256, 257, 357, 24, 358, 359, 57, 150, 151, 322, 323, 324, 113, 114, 824, 825, 826, 827, 828, 829, 830, 831, 832, 833, 834, 881, 882, 883, 884, 885, 886, 887, 888, 889] (by decide +kernel) (by decide +kernel)
set_option maxRecDepth 20000 in
theorem gL_law_X10_give : GoodIn wsL_law (wsV RL 52 RX10 yX10_give wsX10_give) := goodIn_app (goodIn_of _ (by decide +kernel)) ggL_law_X10_give
set_option maxRecDepth 20000 in
theorem ggL_law_X11_give : GoodIn wsL_law wsX11_give := goodIn_r _ [438, 88, 394, 395, 396, 5, 397, 205, 120, 121, 122, 265, 266, 267, 268, 202, 835, 836, 837, 838, 839, 840, 841, 842, 843, 844, 845, 846, 847, 848, 849, 850, 851, 852, 853, 854, 855, 856, 857, 858, 859, 860, 861, 862, 863, 864, 865, 866, 867, 868, 869, 870, 871, 872, 873, 874] (by decide +kernel) (by decide +kernel)
set_option maxRecDepth 20000 in
theorem gL_law_X11_give : GoodIn wsL_law (wsV RL 55 RX11 yX11_give wsX11_give) := goodIn_app (goodIn_of _ (by decide +kernel)) ggL_law_X11_give
set_option maxRecDepth 20000 in
theorem ggL_law_X10_fond : GoodIn wsL_law wsX10_fond := goodIn_r _ [442, 25, 334, 335, 336, 2, 337, 21, 255, 256, 257, 365, 24, 366, 367, 56, 150, 151, 318, 319, 320, 113, 114, 824, 825, 826, 827, 828, 829, 830, 831, 832, 833, 834, 881, 882, 883, 884, 885, 886, 887, 888, 889] (by decide +kernel) (by decide +kernel)
set_option maxRecDepth 20000 in
theorem gL_law_X10_fond : GoodIn wsL_law (wsV RL 56 RX10 yX10_fond wsX10_fond) := goodIn_app (goodIn_of _ (by decide +kernel)) ggL_law_X10_fond
set_option maxRecDepth 20000 in
theorem ggL_law_X11_fond : GoodIn wsL_law wsX11_fond := goodIn_r _ [446, 90, 394, 395, 396, 5, 397, 205, 120, 121, 122, 265, 266, 267, 268, 202, 835, 836, 837, 838, 839, 840, 841, 842, 843, 844, 845, 846, 847, 848, 849, 850, 851, 852, 853, 854, 855, 856, 857, 858, 859, 860, 861, 862, 863, 864, 865, 866, 867, 868, 869, 870, 871, 872, 873, 874] (by decide +kernel) (by decide +kernel)
set_option maxRecDepth 20000 in
theorem gL_law_X11_fond : GoodIn wsL_law (wsV RL 60 RX11 yX11_fond wsX11_fond) := goodIn_app (goodIn_of _ (by decide +kernel)) ggL_law_X11_fond
set_option maxRecDepth 20000 in
theorem ggL_law_X10_tenths : GoodIn wsL_law wsX10_tenths := goodIn_r _ [450, 19, 25, 334, 335, 336, 2, 337, 21, 211, 18, 212, 213, 50, 360, 24, 361, 362, 363, 357, 358, 359, 57, 150, 151, 364, 365, 366, 367, 56, 451, 452, 453, 454, 455, 456, 457, 458, 459, 460, 461, 462, 369, 370, 371, 372, 284, 373, 374, 375, 376, 290, 377, 378, 379, 380, 381, 281, 382, 383, 384, 287, 385, 463, 387, 388, 292, 389, 464, 214, 215, 216, 48, 824, 825, 826, 827, 828, 829, 830, 831, 832, 833, 834, 881, 882, 883, 884, 885, 886, 887, 888, 889, 877, 878, 879, 880, 900, 902, 901, 903, 899] (by decide +kernel) (by decide +kernel)
set_option maxRecDepth 20000 in
theorem gL_law_X10_tenths : GoodIn wsL_law (wsV RL 61 RX10 yX10_tenths wsX10_tenths) := goodIn_app (goodIn_of _ (by decide +kernel)) ggL_law_X10_tenths
set_option maxRecDepth 20000 in
theorem ggL_law_X11_tenths : GoodIn wsL_law wsX11_tenths := goodIn_r _ [468, 394, 395, 396, 5, 397, 205, 120, 121, 122, 233, 234, 235, 236, 202, 469, 470, 471, 472, 90, 88, 473, 474, 475, 476, 87, 86, 83, 406, 407, 408, 835, 836, 837, 838, 839, 840, 841, 842, 843, 844, 845, 846, 847, 848, 849, 850, 851, 852, 853, 854, 855, 856, 857, 858, 859, 860, 861, 862, 863, 864, 865, 866, 867, 868, 869, 870, 871, 872, 873, 874] (by decide +kernel) (by decide +kernel)
set_option maxRecDepth 20000 in
theorem gL_law_X11_tenths : GoodIn wsL_law (wsV RL 64 RX11 yX11_tenths wsX11_tenths) := goodIn_app (goodIn_of _ (by decide +kernel)) ggL_law_X11_tenths
set_option maxRecDepth 20000 in
theorem ggL_law_X10_teach : GoodIn wsL_law wsX10_teach := goodIn_r _ [480, 19, 25, 334, 335, 336, 2, 337, 21, 211, 18, 212, 213, 50, 360, 24, 361, 362, 363, 357, 358, 359, 57, 150, 151, 364, 365, 366, 367, 56, 451, 452, 453, 454, 455, 456, 457, 458, 459, 460, 461, 462, 369, 370, 371, 372, 284, 373, 374, 375, 376, 290, 377, 378, 379, 380, 381, 281, 382, 383, 384, 287, 385, 463, 387, 388, 292, 389, 464, 214, 215, 216, 48, 224, 225, 226, 58, 481, 227, 228, 482, 483, 484, 485, 486, 487, 488, 489, 490, 491, 223, 113, 114, 217, 218, 219, 49, 492, 493, 494, 59, 495, 258, 259, 260, 496, 497, 498, 499, 317, 318, 319, 320, 824, 825, 826, 827, 828, 829, 830, 831, 832, 833, 834, 881, 882, 883, 884, 885, 886, 887, 888, 889, 877, 878, 879, 880, 900, 902, 901, 903, 899] (by decide +kernel) (by decide +kernel)
set_option maxRecDepth 20000 in
theorem gL_law_X10_teach : GoodIn wsL_law (wsV RL 65 RX10 yX10_teach wsX10_teach) := goodIn_app (goodIn_of _ (by decide +kernel)) ggL_law_X10_teach
set_option maxRecDepth 20000 in
theorem ggL_law_X11_teach : GoodIn wsL_law wsX11_teach := goodIn_r _ [503, 89, 85, 88, 394, 395, 396, 5, 397, 205, 120, 121, 122, 233, 234, 235, 236, 202, 245, 246, 247, 469, 470, 471, 472, 90, 473, 474, 475, 476, 87, 86, 83, 406, 407, 408, 504, 505, 506, 507, 84, 203, 835, 836, 837, 838, 839, 840, 841, 842, 843, 844, 845, 846, 847, 848, 849, 850, 851, 852, 853, 854, 855, 856, 857, 858, 859, 860, 861, 862, 863, 864, 865, 866, 867, 868, 869, 870, 871, 872, 873, 874] (by decide +kernel) (by decide +kernel)
set_option maxRecDepth 20000 in
theorem gL_law_X11_teach : GoodIn wsL_law (wsV RL 69 RX11 yX11_teach wsX11_teach) := goodIn_app (goodIn_of _ (by decide +kernel)) ggL_law_X11_teach
set_option maxRecDepth 20000 in
theorem ggL_law_X10_order : GoodIn wsL_law wsX10_order := goodIn_r _ [511, 512, 513, 38, 514, 25, 31, 19, 334, 335, 336, 2, 337, 21, 515, 516, 517, 357, 24, 358, 359, 57, 150, 151, 224, 225, 226, 58, 365, 366, 367, 56, 258, 259, 260, 59, 518, 30, 519, 520, 69, 70, 521, 522, 71, 227, 228, 523, 524, 525, 526, 67, 68, 527, 528, 529, 530, 451, 18, 452, 453, 454, 455, 456, 457, 458, 459, 460, 461, 462, 369, 370, 371, 372, 284, 373, 374, 375, 376, 290, 377, 378, 379, 380, 381, 281, 382, 383, 384, 287, 385, 463, 387, 388, 292, 389, 464, 214, 215, 216, 48, 483, 484, 217, 218, 219, 49, 496, 497, 498, 499, 531, 532, 113, 114, 533, 534, 535, 536, 537, 538, 539, 540, 541, 824, 825, 826, 827, 828, 829, 830, 831, 832, 833, 834, 890, 891, 892, 893, 894, 881, 882, 883, 884, 885, 886, 887, 888, 889, 877, 878, 879, 880, 900, 902, 901, 903, 899] (by decide +kernel) (by decide +kernel)
set_option maxRecDepth 20000 in
theorem gL_law_X10_order : GoodIn wsL_law (wsV RL 70 RX10 yX10_order wsX10_order) := goodIn_app (goodIn_of _ (by decide +kernel)) ggL_law_X10_order
set_option maxRecDepth 20000 in
theorem ggL_law_X11_order : GoodIn wsL_law wsX11_order := goodIn_r _ [545, 546, 547, 548, 549, 394, 395, 396, 5, 397, 205, 120, 121, 122, 550, 551, 552, 553, 554, 555, 97, 556, 557, 558, 559, 560, 202, 89, 96, 245, 246, 247, 561, 562, 563, 564, 565, 566, 567, 568, 569, 570, 571, 572, 84, 573, 574, 575, 576, 85, 88, 577, 90, 578, 469, 470, 471, 472, 473, 474, 475, 476, 87, 86, 83, 406, 407, 408, 504, 505, 506, 507, 203, 579, 580, 581, 582, 583, 584, 585, 835, 836, 837, 838, 839, 840, 841, 842, 843, 844, 845, 846, 847, 848, 849, 850, 851, 852, 853, 854, 855, 856, 857, 858, 859, 860, 861, 862, 863, 864, 865, 866, 867, 868, 869, 870, 871, 872, 873, 874] (by decide +kernel) (by decide +kernel)
set_option maxRecDepth 20000 in
theorem gL_law_X11_order : GoodIn wsL_law (wsV RL 74 RX11 yX11_order wsX11_order) := goodIn_app (goodIn_of _ (by decide +kernel)) ggL_law_X11_order
set_option maxRecDepth 20000 in
theorem ggL_law_X10_match : GoodIn wsL_law wsX10_match := goodIn_r _ [589, 19, 25, 590, 591, 211, 18, 212, 213, 50, 515, 516, 2, 517, 592, 593, 594, 595, 596, 597, 598, 599, 334, 335, 336, 337, 21, 600, 150, 151, 365, 24, 366, 367, 56, 451, 452, 453, 454, 455, 456, 457, 458, 459, 460, 461, 462, 369, 370, 371, 372, 284, 373, 374, 375, 376, 290, 377, 378, 379, 380, 381, 281, 382, 383, 384, 287, 385, 463, 387, 388, 292, 389, 464, 214, 215, 216, 48, 217, 218, 219, 49, 536, 537, 538, 539, 540, 541, 824, 825, 826, 827, 828, 829, 830, 831, 832, 833, 834, 881, 882, 883, 884, 885, 886, 887, 888, 889, 877, 878, 879, 880, 900, 902, 901, 903, 899] (by decide +kernel) (by decide +kernel)
set_option maxRecDepth 20000 in
theorem gL_law_X10_match : GoodIn wsL_law (wsV RL 75 RX10 yX10_match wsX10_match) := goodIn_app (goodIn_of _ (by decide +kernel)) ggL_law_X10_match
set_option maxRecDepth 20000 in
theorem ggL_law_X11_match : GoodIn wsL_law wsX11_match := goodIn_r _ [604, 233, 234, 235, 5, 236, 202, 120, 121, 122, 605, 606, 607, 608, 205, 609, 555, 610, 611, 612, 613, 90, 84, 614, 615, 616, 617, 245, 246, 247, 473, 474, 475, 476, 87, 86, 83, 406, 407, 408, 583, 584, 585, 394, 395, 396, 397, 835, 836, 837, 838, 839, 840, 841, 842, 843, 844, 845, 846, 847, 848, 849, 850, 851, 852, 853, 854, 855, 856, 857, 858, 859, 860, 861, 862, 863, 864, 865, 866, 867, 868, 869, 870, 871, 872, 873, 874] (by decide +kernel) (by decide +kernel)
set_option maxRecDepth 20000 in
theorem gL_law_X11_match : GoodIn wsL_law (wsV RL 78 RX11 yX11_match wsX11_match) := goodIn_app (goodIn_of _ (by decide +kernel)) ggL_law_X11_match
set_option maxRecDepth 20000 in
theorem ggL_law_X10_faults : GoodIn wsL_law wsX10_faults := goodIn_r _ [621, 25, 35, 19, 334, 335, 336, 2, 337, 21, 357, 24, 358, 359, 57, 150, 151, 258, 259, 260, 59, 224, 225, 226, 58, 365, 366, 367, 56, 622, 34, 623, 624, 75, 76, 77, 78, 625, 626, 627, 628, 227, 228, 451, 18, 452, 453, 454, 455, 456, 457, 458, 459, 460, 461, 462, 369, 370, 371, 372, 284, 373, 374, 375, 376, 290, 377, 378, 379, 380, 381, 281, 382, 383, 384, 287, 385, 463, 387, 388, 292, 389, 464, 214, 215, 216, 48, 483, 484, 217, 218, 219, 49, 496, 497, 498, 499, 824, 825, 826, 827, 828, 829, 830, 831, 832, 833, 834, 895, 896, 897, 898, 881, 882, 883, 884, 885, 886, 887, 888, 889, 877, 878, 879, 880, 900, 902, 901, 903, 899] (by decide +kernel) (by decide +kernel)
set_option maxRecDepth 20000 in
theorem gL_law_X10_faults : GoodIn wsL_law (wsV RL 79 RX10 yX10_faults wsX10_faults) := goodIn_app (goodIn_of _ (by decide +kernel)) ggL_law_X10_faults
set_option maxRecDepth 20000 in
theorem ggL_law_X11_faults : GoodIn wsL_law wsX11_faults := goodIn_r _ [632, 394, 395, 396, 5, 397, 205, 120, 121, 122, 633, 634, 635, 636, 202, 89, 557, 558, 559, 560, 554, 96, 245, 246, 247, 637, 638, 639, 640, 84, 573, 574, 575, 576, 85, 88, 577, 90, 578, 469, 470, 471, 472, 473, 474, 475, 476, 87, 86, 83, 406, 407, 408, 504, 505, 506, 507, 203, 579, 580, 581, 582, 835, 836, 837, 838, 839, 840, 841, 842, 843, 844, 845, 846, 847, 848, 849, 850, 851, 852, 853, 854, 855, 856, 857, 858, 859, 860, 861, 862, 863, 864, 865, 866, 867, 868, 869, 870, 871, 872, 873, 874] (by decide +kernel) (by decide +kernel)
set_option maxRecDepth 20000 in
theorem gL_law_X11_faults : GoodIn wsL_law (wsV RL 82 RX11 yX11_faults wsX11_faults) := goodIn_app (goodIn_of _ (by decide +kernel)) ggL_law_X11_faults
set_option maxRecDepth 20000 in
theorem ggL_law_X10_hear : GoodIn wsL_law wsX10_hear := goodIn_r _ [644, 19, 25, 334, 335, 336, 2, 337, 21, 211, 18, 212, 213, 50, 645, 24, 646, 647, 61, 60, 62, 63, 113, 114, 824, 825, 826, 827, 828, 829, 830, 831, 832, 833, 834, 881, 882, 883, 884, 885, 886, 887, 888, 889, 877, 878, 879, 880] (by decide +kernel) (by decide +kernel)
set_option maxRecDepth 20000 in
theorem gL_law_X10_hear : GoodIn wsL_law (wsV RL 83 RX10 yX10_hear wsX10_hear) := goodIn_app (goodIn_of _ (by decide +kernel)) ggL_law_X10_hear
set_option maxRecDepth 20000 in
theorem ggL_law_X11_hear : GoodIn wsL_law wsX11_hear := goodIn_r _ [651, 206, 91, 92, 93, 394, 395, 396, 5, 397, 205, 120, 121, 122, 233, 234, 235, 236, 202, 835, 836, 837, 838, 839, 840, 841, 842, 843, 844, 845, 846, 847, 848, 849, 850, 851, 852, 853, 854, 855, 856, 857, 858, 859, 860, 861, 862, 863, 864, 865, 866, 867, 868, 869, 870, 871, 872, 873, 874] (by decide +kernel) (by decide +kernel)
set_option maxRecDepth 20000 in
theorem gL_law_X11_hear : GoodIn wsL_law (wsV RL 86 RX11 yX11_hear wsX11_hear) := goodIn_app (goodIn_of _ (by decide +kernel)) ggL_law_X11_hear
set_option maxRecDepth 20000 in
theorem ggL_law_X10_forget : GoodIn wsL_law wsX10_forget := goodIn_r _ [655, 25, 824, 825, 826, 827, 828, 829, 830, 831, 832, 833, 834, 881, 882, 883, 884, 885, 886, 887, 888, 889] (by decide +kernel) (by decide +kernel)
set_option maxRecDepth 20000 in
theorem gL_law_X10_forget : GoodIn wsL_law (wsV RL 87 RX10 yX10_forget wsX10_forget) := goodIn_app (goodIn_of _ (by decide +kernel)) ggL_law_X10_forget
set_option maxRecDepth 20000 in
theorem ggL_law_X11_forget : GoodIn wsL_law wsX11_forget := goodIn_r _ [659, 206, 835, 836, 837, 838, 839, 840, 841, 842, 843, 844, 845, 846, 847, 848, 849, 850, 851, 852, 853, 854, 855, 856, 857, 858, 859, 860, 861, 862, 863, 864, 865, 866, 867, 868, 869, 870, 871, 872, 873, 874] (by decide +kernel) (by decide +kernel)
set_option maxRecDepth 20000 in
theorem gL_law_X11_forget : GoodIn wsL_law (wsV RL 90 RX11 yX11_forget wsX11_forget) := goodIn_app (goodIn_of _ (by decide +kernel)) ggL_law_X11_forget
set_option maxRecDepth 20000 in
theorem ggL_law_X10_fondness : GoodIn wsL_law wsX10_fondness := goodIn_r _ [663, 334, 335, 336, 2, 337, 25, 21, 664, 665, 666, 667, 19, 600, 150, 151, 451, 18, 452, 453, 454, 455, 456, 457, 458, 459, 460, 461, 462, 369, 370, 371, 372, 284, 373, 374, 375, 376, 290, 377, 378, 379, 380, 381, 281, 382, 383, 384, 287, 385, 463, 387, 388, 292, 389, 464, 214, 215, 216, 48, 482, 483, 484, 824, 825, 826, 827, 828, 829, 830, 831, 832, 833, 834, 881, 882, 883, 884, 885, 886, 887, 888, 889, 900, 902, 901, 903, 899, 877, 878, 879, 880] (by decide +kernel) (by decide +kernel)
set_option maxRecDepth 20000 in
theorem gL_law_X10_fondness : GoodIn wsL_law (wsV RL 91 RX10 yX10_fondness wsX10_fondness) := goodIn_app (goodIn_of _ (by decide +kernel)) ggL_law_X10_fondness
set_option maxRecDepth 20000 in
theorem ggL_law_X11_fondness : GoodIn wsL_law wsX11_fondness := goodIn_r _ [671, 394, 395, 396, 5, 397, 205, 120, 121, 122, 672, 673, 674, 675, 676, 677, 678, 679, 206, 91, 92, 93, 473, 474, 475, 476, 87, 86, 83, 406, 407, 408, 835, 836, 837, 838, 839, 840, 841, 842, 843, 844, 845, 846, 847, 848, 849, 850, 851, 852, 853, 854, 855, 856, 857, 858, 859, 860, 861, 862, 863, 864, 865, 866, 867, 868, 869, 870, 871, 872, 873, 874] (by decide +kernel) (by decide +kernel)
set_option maxRecDepth 20000 in
theorem gL_law_X11_fondness : GoodIn wsL_law (wsV RL 94 RX11 yX11_fondness wsX11_fondness) := goodIn_app (goodIn_of _ (by decide +kernel)) ggL_law_X11_fondness
set_option maxRecDepth 20000 in
theorem ggL_law_X10_schools : GoodIn wsL_law wsX10_schools := goodIn_r _ [683, 25, 27, 684, 24, 685, 686, 55, 56, 57, 58, 59, 60, 61, 62, 63, 531, 2, 532, 687, 688, 689, 690, 19, 691, 334, 335, 336, 337, 21, 224, 225, 226, 150, 151, 481, 227, 228, 692, 693, 694, 695, 696, 697, 360, 361, 362, 363, 357, 358, 359, 364, 365, 366, 367, 451, 18, 452, 453, 454, 455, 456, 457, 458, 459, 460, 461, 462, 369, 370, 371, 372, 284, 373, 374, 375, 376, 290, 377, 378, 379, 380, 381, 281, 382, 383, 384, 287, 385, 463, 387, 388, 292, 389, 464, 214, 215, 216, 48, 485, 486, 487, 488, 489, 490, 491, 223, 113, 114, 217, 218, 219, 49, 492, 493, 494, 495, 258, 259, 260, 496, 497, 498, 499, 317, 318, 319, 320, 698, 699, 700, 701, 702, 703, 704, 705, 706, 707, 708, 709, 710, 711, 712, 824, 825, 826, 827, 828, 829, 830, 831, 832, 833, 834, 881, 882, 883, 884, 885, 886, 887, 888, 889, 877, 878, 879, 880, 900, 902, 901, 903, 899] (by decide +kernel) (by decide +kernel)
set_option maxRecDepth 20000 in
theorem gL_law_X10_schools : GoodIn wsL_law (wsV RL 95 RX10 yX10_schools wsX10_schools) := goodIn_app (goodIn_of _ (by decide +kernel)) ggL_law_X10_schools
set_option maxRecDepth 20000 in
theorem ggL_law_X11_schools : GoodIn wsL_law wsX11_schools := goodIn_r _ [716, 205, 120, 121, 5, 122, 717, 718, 719, 720, 721, 202, 89, 722, 723, 724, 725, 98, 90, 85, 245, 246, 247, 726, 727, 728, 729, 84, 730, 731, 732, 733, 734, 735, 736, 737, 469, 470, 471, 472, 88, 473, 474, 475, 476, 87, 86, 83, 406, 407, 408, 504, 505, 506, 507, 203, 738, 739, 740, 741, 742, 743, 744, 745, 746, 747, 748, 835, 836, 837, 838, 839, 840, 841, 842, 843, 844, 845, 846, 847, 848, 849, 850, 851, 852, 853, 854, 855, 856, 857, 858, 859, 860, 861, 862, 863, 864, 865, 866, 867, 868, 869, 870, 871, 872, 873, 874] (by decide +kernel) (by decide +kernel)
set_option maxRecDepth 20000 in
theorem gL_law_X11_schools : GoodIn wsL_law (wsV RL 98 RX11 yX11_schools wsX11_schools) := goodIn_app (goodIn_of _ (by decide +kernel)) ggL_law_X11_schools
set_option maxRecDepth 20000 in
theorem ggL_law_X10_image : GoodIn wsL_law wsX10_image := goodIn_r _ [752, 19, 26, 25, 36, 252, 18, 253, 254, 50, 684, 24, 685, 686, 55, 56, 57, 58, 59, 60, 61, 62, 63, 531, 2, 532, 698, 699, 700, 701, 702, 824, 825, 826, 827, 828, 829, 830, 831, 832, 833, 834, 877, 878, 879, 880, 881, 882, 883, 884, 885, 886, 887, 888, 889] (by decide +kernel) (by decide +kernel)
set_option maxRecDepth 20000 in
theorem gL_law_X10_image : GoodIn wsL_law (wsV RL 99 RX10 yX10_image wsX10_image) := goodIn_app (goodIn_of _ (by decide +kernel)) ggL_law_X10_image
set_option maxRecDepth 20000 in
theorem ggL_law_X11_image : GoodIn wsL_law wsX11_image := goodIn_r _ [756, 202, 757, 204, 758, 205, 759, 206, 760, 99, 90, 100, 85, 101, 89, 102, 88, 103, 91, 104, 92, 105, 93, 761, 762, 763, 5, 764, 835, 836, 837, 838, 839, 840, 841, 842, 843, 844, 845, 846, 847, 848, 849, 850, 851, 852, 853, 854, 855, 856, 857, 858, 859, 860, 861, 862, 863, 864, 865, 866, 867, 868, 869, 870, 871, 872, 873, 874] (by decide +kernel) (by decide +kernel)
set_option maxRecDepth 20000 in
theorem gL_law_X11_image : GoodIn wsL_law (wsV RL 102 RX11 yX11_image wsX11_image) := goodIn_app (goodIn_of _ (by decide +kernel)) ggL_law_X11_image
set_option maxRecDepth 20000 in
theorem ggL_law_X10_restore : GoodIn wsL_law wsX10_restore := goodIn_r _ [768, 36, 25, 26, 684, 24, 685, 686, 55, 56, 57, 58, 59, 60, 61, 62, 63, 531, 2, 532, 698, 699, 700, 701, 702, 824, 825, 826, 827, 828, 829, 830, 831, 832, 833, 834, 881, 882, 883, 884, 885, 886, 887, 888, 889] (by decide +kernel) (by decide +kernel)
set_option maxRecDepth 20000 in
theorem gL_law_X10_restore : GoodIn wsL_law (wsV RL 103 RX10 yX10_restore wsX10_restore) := goodIn_app (goodIn_of _ (by decide +kernel)) ggL_law_X10_restore
set_option maxRecDepth 20000 in
theorem ggL_law_X11_restore : GoodIn wsL_law wsX11_restore := goodIn_r _ [772, 757, 758, 204, 759, 205, 760, 206, 90, 99, 85, 100, 89, 101, 88, 102, 91, 103, 92, 104, 93, 105, 761, 762, 763, 5, 764, 835, 836, 837, 838, 839, 840, 841, 842, 843, 844, 845, 846, 847, 848, 849, 850, 851, 852, 853, 854, 855, 856, 857, 858, 859, 860, 861, 862, 863, 864, 865, 866, 867, 868, 869, 870, 871, 872, 873, 874] (by decide +kernel) (by decide +kernel)
set_option maxRecDepth 20000 in
theorem gL_law_X11_restore : GoodIn wsL_law (wsV RL 106 RX11 yX11_restore wsX11_restore) := goodIn_app (goodIn_of _ (by decide +kernel)) ggL_law_X11_restore
set_option maxRecDepth 20000 in
theorem ggL_law_X10_count : GoodIn wsL_law wsX10_count := goodIn_r _ [776, 19, 25, 15, 37, 38, 698, 24, 699, 700, 59, 701, 2, 702, 703, 704, 705, 55, 223, 224, 225, 226, 58, 150, 151, 706, 707, 708, 709, 710, 711, 712, 824, 825, 826, 827, 828, 829, 830, 831, 832, 833, 834, 877, 878, 879, 880, 881, 882, 883, 884, 885, 886, 887, 888, 889, 875, 876] (by decide +kernel) (by decide +kernel)
set_option maxRecDepth 20000 in
theorem gL_law_X10_count : GoodIn wsL_law (wsV RL 107 RX10 yX10_count wsX10_count) := goodIn_app (goodIn_of _ (by decide +kernel)) ggL_law_X10_count
set_option maxRecDepth 20000 in
theorem ggL_law_X11_count : GoodIn wsL_law wsX11_count := goodIn_r _ [780, 781, 782, 783, 5, 784, 202, 203, 205, 206, 119, 204, 548, 761, 762, 763, 764, 85, 738, 739, 740, 741, 89, 742, 743, 744, 835, 836, 837, 838, 839, 840, 841, 842, 843, 844, 845, 846, 847, 848, 849, 850, 851, 852, 853, 854, 855, 856, 857, 858, 859, 860, 861, 862, 863, 864, 865, 866, 867, 868, 869, 870, 871, 872, 873, 874] (by decide +kernel) (by decide +kernel)
set_option maxRecDepth 20000 in
theorem gL_law_X11_count : GoodIn wsL_law (wsV RL 110 RX11 yX11_count wsX11_count) := goodIn_app (goodIn_of _ (by decide +kernel)) ggL_law_X11_count
set_option maxRecDepth 20000 in
theorem ggL_law_X10_digest : GoodIn wsL_law wsX10_digest := goodIn_r _ [788, 789, 19, 25, 15, 252, 18, 253, 254, 50, 790, 249, 250, 2, 251, 255, 256, 257, 258, 24, 259, 260, 59, 150, 151, 791, 792, 793, 794, 795, 208, 209, 210, 211, 212, 213, 214, 215, 216, 48, 217, 218, 219, 49, 220, 221, 222, 55, 223, 224, 225, 226, 58, 227, 228, 796, 587, 588, 589, 590, 591, 515, 516, 517, 592, 593, 594, 595, 596, 597, 598, 599, 334, 335, 336, 337, 21, 600, 365, 366, 367, 56, 451, 452, 453, 454, 455, 456, 457, 458, 459, 460, 461, 462, 369, 370, 371, 372, 284, 373, 374, 375, 376, 290, 377, 378, 379, 380, 381, 281, 382, 383, 384, 287, 385, 463, 387, 388, 292, 389, 464, 536, 537, 538, 539, 540, 541, 797, 798, 799, 800, 801, 330, 331, 332, 333, 338, 339, 340, 341, 342, 343, 344, 345, 346, 347, 348, 349, 350, 351, 352, 353, 354, 355, 356, 357, 358, 359, 57, 360, 361, 362, 363, 364, 368, 386, 802, 448, 449, 450, 803, 661, 662, 663, 664, 665, 666, 667, 482, 483, 484, 157, 14, 158, 159, 43, 804, 774, 775, 776, 37, 38, 698, 699, 700, 701, 702, 703, 704, 705, 706, 707, 708, 709, 710, 711, 712, 824, 825, 826, 827, 828, 829, 830, 831, 832, 833, 834, 877, 878, 879, 880, 881, 882, 883, 884, 885, 886, 887, 888, 889, 875, 876, 900, 902, 901, 903, 899] (by decide +kernel) (by decide +kernel)
set_option maxRecDepth 20000 in
theorem gL_law_X10_digest : GoodIn wsL_law (wsV RL 111 RX10 yX10_digest wsX10_digest) := goodIn_app (goodIn_of _ (by decide +kernel)) ggL_law_X10_digest
set_option maxRecDepth 20000 in
theorem ggL_law_X11_digest : GoodIn wsL_law wsX11_digest := goodIn_r _ [808, 809, 810, 202, 85, 205, 119, 95, 811, 812, 813, 5, 814, 815, 816, 817, 818, 819, 237, 238, 239, 240, 83, 84, 241, 242, 243, 244, 89, 245, 246, 247, 605, 606, 607, 608, 609, 555, 610, 611, 612, 613, 90, 614, 615, 616, 617, 473, 474, 475, 476, 87, 86, 406, 407, 408, 583, 584, 585, 394, 395, 396, 397, 120, 121, 122, 820, 821, 822, 823, 398, 399, 400, 401, 88, 402, 403, 404, 405, 469, 470, 471, 472, 672, 673, 674, 675, 676, 677, 678, 679, 206, 91, 92, 93, 781, 782, 783, 784, 203, 204, 548, 761, 762, 763, 764, 738, 739, 740, 741, 742, 743, 744, 835, 836, 837, 838, 839, 840, 841, 842, 843, 844, 845, 846, 847, 848, 849, 850, 851, 852, 853, 854, 855, 856, 857, 858, 859, 860, 861, 862, 863, 864, 865, 866, 867, 868, 869, 870, 871, 872, 873, 874] (by decide +kernel) (by decide +kernel)
set_option maxRecDepth 20000 in
theorem gL_law_X11_digest : GoodIn wsL_law (wsV RL 115 RX11 yX11_digest wsX11_digest) := goodIn_app (goodIn_of _ (by decide +kernel)) ggL_law_X11_digest
