set_option maxRecDepth 20000 in
theorem ggX12_rests_X12_guardGets : GoodIn wsX12_rests wsX12_guardGets := goodIn_r _ [8] (by decide +kernel) (by decide +kernel)
set_option maxRecDepth 20000 in
theorem gX12_rests_X12_guardGets : GoodIn wsX12_rests (va_wsS RX12 447 yX12_guardGets wsX12_guardGets) := goodIn_app (goodIn_of _ (by decide +kernel)) ggX12_rests_X12_guardGets
set_option maxRecDepth 20000 in
theorem ggX12_rests_X12_travellerGets : GoodIn wsX12_rests wsX12_travellerGets := goodIn_r _ [11] (by decide +kernel) (by decide +kernel)
set_option maxRecDepth 20000 in
theorem gX12_rests_X12_travellerGets : GoodIn wsX12_rests (va_wsS RX12 451 yX12_travellerGets wsX12_travellerGets) := goodIn_app (goodIn_of _ (by decide +kernel)) ggX12_rests_X12_travellerGets
set_option maxRecDepth 20000 in
theorem ggX12_livesWeek_X12_draws_c0 : GoodIn wsX12_livesWeek ((wsX12_draws).take 40) := goodIn_r _ [10, 11, 12, 13, 14, 15, 84, 85, 86, 87, 88, 89, 90, 91, 92, 93, 94, 95, 96, 97, 98, 99, 100, 101, 102, 103, 104, 105, 106, 107, 108, 109, 110, 111, 112, 113, 114, 115, 116, 117] (by decide +kernel) (by decide +kernel)
set_option maxRecDepth 20000 in
theorem ggX12_livesWeek_X12_draws_c1 : GoodIn wsX12_livesWeek ((wsX12_draws).drop 40) := goodIn_r _ [118, 119, 120, 121, 122, 123, 124, 125, 126, 127, 128, 129, 130, 131, 132, 133, 134, 135, 136, 137, 138, 139, 140] (by decide +kernel) (by decide +kernel)
set_option maxRecDepth 20000 in
theorem ggX12_livesWeek_X12_draws : GoodIn wsX12_livesWeek wsX12_draws := (zgi (wsX12_draws) 40 ggX12_livesWeek_X12_draws_c0 ggX12_livesWeek_X12_draws_c1)
set_option maxRecDepth 20000 in
theorem gX12_livesWeek_X12_draws : GoodIn wsX12_livesWeek (wsV RX12 465 RX12 yX12_draws wsX12_draws) := goodIn_app (goodIn_of _ (by decide +kernel)) ggX12_livesWeek_X12_draws
set_option maxRecDepth 20000 in
theorem ggX12_livesWeek_X12_canGo_c0 : GoodIn wsX12_livesWeek ((wsX12_canGo).take 40) := goodIn_r _ [19, 2, 3, 20, 21, 22, 9, 23, 24, 25, 26, 27, 28, 1, 29, 30, 31, 32, 33, 34, 35, 36, 37, 38, 39, 40, 41, 42, 43, 44, 45, 46, 47, 48, 49, 50, 51, 52, 53, 54] (by decide +kernel) (by decide +kernel)
set_option maxRecDepth 20000 in
theorem ggX12_livesWeek_X12_canGo_c1 : GoodIn wsX12_livesWeek (((wsX12_canGo).drop 40).take 40) := goodIn_r _ [55, 56, 57, 58, 59, 60, 61, 62, 63, 64, 65, 66, 67, 84, 85, 86, 87, 88, 89, 90, 91, 92, 93, 94, 95, 96, 97, 98, 99, 100, 101, 102, 103, 104, 105, 106, 107, 108, 109, 110] (by decide +kernel) (by decide +kernel)
set_option maxRecDepth 20000 in
theorem ggX12_livesWeek_X12_canGo_c2 : GoodIn wsX12_livesWeek (((wsX12_canGo).drop 40).drop 40) := goodIn_r _ [111, 112, 113, 114, 115, 116, 117, 118, 119, 120, 121, 122, 123, 124, 125, 126, 127, 128, 129, 130, 131, 132, 133, 134, 135, 136, 137, 138, 139, 140] (by decide +kernel) (by decide +kernel)
set_option maxRecDepth 20000 in
theorem ggX12_livesWeek_X12_canGo : GoodIn wsX12_livesWeek wsX12_canGo := (zgi (wsX12_canGo) 40 ggX12_livesWeek_X12_canGo_c0 (zgi ((wsX12_canGo).drop 40) 40 ggX12_livesWeek_X12_canGo_c1 ggX12_livesWeek_X12_canGo_c2))
set_option maxRecDepth 20000 in
theorem gX12_livesWeek_X12_canGo : GoodIn wsX12_livesWeek (wsV RX12 383 RX12 yX12_canGo wsX12_canGo) := goodIn_app (goodIn_of _ (by decide +kernel)) ggX12_livesWeek_X12_canGo
set_option maxRecDepth 20000 in
theorem ggX12_livesWeek_X12_goes_c0 : GoodIn wsX12_livesWeek ((wsX12_goes).take 40) := goodIn_r _ [71, 3, 84, 85, 86, 87, 88, 89, 90, 91, 92, 93, 94, 95, 96, 97, 98, 99, 100, 101, 102, 103, 104, 105, 106, 107, 108, 109, 110, 111, 112, 113, 114, 115, 116, 117, 118, 119, 120, 121] (by decide +kernel) (by decide +kernel)
set_option maxRecDepth 20000 in
theorem ggX12_livesWeek_X12_goes_c1 : GoodIn wsX12_livesWeek ((wsX12_goes).drop 40) := goodIn_r _ [122, 123, 124, 125, 126, 127, 128, 129, 130, 131, 132, 133, 134, 135, 136, 137, 138, 139, 140] (by decide +kernel) (by decide +kernel)
set_option maxRecDepth 20000 in
theorem ggX12_livesWeek_X12_goes : GoodIn wsX12_livesWeek wsX12_goes := (zgi (wsX12_goes) 40 ggX12_livesWeek_X12_goes_c0 ggX12_livesWeek_X12_goes_c1)
set_option maxRecDepth 20000 in
theorem gX12_livesWeek_X12_goes : GoodIn wsX12_livesWeek (wsV RX12 389 RX12 yX12_goes wsX12_goes) := goodIn_app (goodIn_of _ (by decide +kernel)) ggX12_livesWeek_X12_goes
set_option maxRecDepth 20000 in
theorem ggX12_livesWeek_X12_shaves_c0 : GoodIn wsX12_livesWeek ((wsX12_shaves).take 40) := goodIn_r _ [75, 3, 84, 85, 86, 87, 88, 89, 90, 91, 92, 93, 94, 95, 96, 97, 98, 99, 100, 101, 102, 103, 104, 105, 106, 107, 108, 109, 110, 111, 112, 113, 114, 115, 116, 117, 118, 119, 120, 121] (by decide +kernel) (by decide +kernel)
set_option maxRecDepth 20000 in
theorem ggX12_livesWeek_X12_shaves_c1 : GoodIn wsX12_livesWeek ((wsX12_shaves).drop 40) := goodIn_r _ [122, 123, 124, 125, 126, 127, 128, 129, 130, 131, 132, 133, 134, 135, 136, 137, 138, 139, 140] (by decide +kernel) (by decide +kernel)
set_option maxRecDepth 20000 in
theorem ggX12_livesWeek_X12_shaves : GoodIn wsX12_livesWeek wsX12_shaves := (zgi (wsX12_shaves) 40 ggX12_livesWeek_X12_shaves_c0 ggX12_livesWeek_X12_shaves_c1)
set_option maxRecDepth 20000 in
theorem gX12_livesWeek_X12_shaves : GoodIn wsX12_livesWeek (wsV RX12 398 RX12 yX12_shaves wsX12_shaves) := goodIn_app (goodIn_of _ (by decide +kernel)) ggX12_livesWeek_X12_shaves
set_option maxRecDepth 20000 in
theorem ggX12_livesWeek_X12_passes_c0 : GoodIn wsX12_livesWeek ((wsX12_passes).take 40) := goodIn_r _ [79, 1, 24, 3, 80, 81, 82, 83, 84, 85, 86, 87, 88, 89, 90, 91, 92, 93, 94, 95, 96, 97, 98, 99, 100, 101, 102, 103, 104, 105, 106, 107, 108, 109, 110, 111, 112, 113, 114, 115] (by decide +kernel) (by decide +kernel)
set_option maxRecDepth 20000 in
theorem ggX12_livesWeek_X12_passes_c1 : GoodIn wsX12_livesWeek ((wsX12_passes).drop 40) := goodIn_r _ [116, 117, 118, 119, 120, 121, 122, 123, 124, 125, 126, 127, 128, 129, 130, 131, 132, 133, 134, 135, 136, 137, 138, 139, 140] (by decide +kernel) (by decide +kernel)
set_option maxRecDepth 20000 in
theorem ggX12_livesWeek_X12_passes : GoodIn wsX12_livesWeek wsX12_passes := (zgi (wsX12_passes) 40 ggX12_livesWeek_X12_passes_c0 ggX12_livesWeek_X12_passes_c1)
set_option maxRecDepth 20000 in
theorem gX12_livesWeek_X12_passes : GoodIn wsX12_livesWeek (wsV RX12 401 RX12 yX12_passes wsX12_passes) := goodIn_app (goodIn_of _ (by decide +kernel)) ggX12_livesWeek_X12_passes
set_option maxRecDepth 20000 in
theorem ggX12_years_X12_within : GoodIn wsX12_years wsX12_within := goodIn_r _ [10] (by decide +kernel) (by decide +kernel)
set_option maxRecDepth 20000 in
theorem gX12_years_X12_within : GoodIn wsX12_years (va_wsS RX12 252 yX12_within wsX12_within) := goodIn_app (goodIn_of _ (by decide +kernel)) ggX12_years_X12_within
set_option maxRecDepth 20000 in
theorem ggX12_years_X12_copies : GoodIn wsX12_years wsX12_copies := goodIn_r _ [13] (by decide +kernel) (by decide +kernel)
set_option maxRecDepth 20000 in
theorem gX12_years_X12_copies : GoodIn wsX12_years (va_wsS RX12 379 yX12_copies wsX12_copies) := goodIn_app (goodIn_of _ (by decide +kernel)) ggX12_years_X12_copies
set_option maxRecDepth 20000 in
theorem ggX12_years_X12_livesWeek_c0 : GoodIn wsX12_years ((wsX12_livesWeek).take 40) := goodIn_r _ [17, 18, 19, 5, 3, 4, 20, 21, 22, 9, 23, 2, 24, 25, 26, 27, 28, 29, 30, 31, 32, 33, 34, 35, 36, 37, 38, 39, 40, 41, 42, 43, 44, 45, 46, 47, 48, 49, 50, 51] (by decide +kernel) (by decide +kernel)
set_option maxRecDepth 20000 in
theorem ggX12_years_X12_livesWeek_c1 : GoodIn wsX12_years (((wsX12_livesWeek).drop 40).take 40) := goodIn_r _ [52, 53, 54, 55, 56, 57, 58, 59, 60, 61, 62, 63, 64, 65, 66, 67, 68, 69, 70, 71, 72, 73, 74, 75, 76, 77, 78, 79, 80, 81, 82, 83, 84, 85, 86, 87, 88, 89, 90, 91] (by decide +kernel) (by decide +kernel)
set_option maxRecDepth 20000 in
theorem ggX12_years_X12_livesWeek_c2 : GoodIn wsX12_years ((((wsX12_livesWeek).drop 40).drop 40).take 40) := goodIn_r _ [92, 93, 94, 95, 100, 101, 102, 103, 104, 105, 106, 107, 108, 109, 110, 111, 112, 113, 114, 115, 116, 117, 118, 119, 120, 121, 122, 123, 124, 125, 126, 127, 128, 129, 130, 131, 132, 133, 134, 135] (by decide +kernel) (by decide +kernel)
set_option maxRecDepth 20000 in
theorem ggX12_years_X12_livesWeek_c3 : GoodIn wsX12_years ((((wsX12_livesWeek).drop 40).drop 40).drop 40) := goodIn_r _ [136, 137, 138, 139, 140, 141, 142, 143, 144, 145, 146, 147, 148, 149, 150, 151, 152, 153, 154, 155, 156] (by decide +kernel) (by decide +kernel)
set_option maxRecDepth 20000 in
theorem ggX12_years_X12_livesWeek : GoodIn wsX12_years wsX12_livesWeek := (zgi (wsX12_livesWeek) 40 ggX12_years_X12_livesWeek_c0 (zgi ((wsX12_livesWeek).drop 40) 40 ggX12_years_X12_livesWeek_c1 (zgi (((wsX12_livesWeek).drop 40).drop 40) 40 ggX12_years_X12_livesWeek_c2 ggX12_years_X12_livesWeek_c3)))
set_option maxRecDepth 20000 in
theorem gX12_years_X12_livesWeek : GoodIn wsX12_years (wsV RX12 474 RX12 yX12_livesWeek wsX12_livesWeek) := goodIn_app (goodIn_of _ (by decide +kernel)) ggX12_years_X12_livesWeek
set_option maxRecDepth 20000 in
theorem ggX12_years_X12_peopled_c0 : GoodIn wsX12_years ((wsX12_peopled).take 40) := goodIn_r _ [99, 18, 5, 100, 101, 102, 103, 104, 105, 106, 107, 108, 109, 110, 111, 112, 113, 114, 115, 116, 117, 118, 119, 120, 121, 122, 123, 124, 125, 126, 127, 128, 129, 130, 131, 132, 133, 134, 135, 136] (by decide +kernel) (by decide +kernel)
set_option maxRecDepth 20000 in
theorem ggX12_years_X12_peopled_c1 : GoodIn wsX12_years ((wsX12_peopled).drop 40) := goodIn_r _ [137, 138, 139, 140, 141, 142, 143, 144, 145, 146, 147, 148, 149, 150, 151, 152, 153, 154, 155, 156] (by decide +kernel) (by decide +kernel)
set_option maxRecDepth 20000 in
theorem ggX12_years_X12_peopled : GoodIn wsX12_years wsX12_peopled := (zgi (wsX12_peopled) 40 ggX12_years_X12_peopled_c0 ggX12_years_X12_peopled_c1)
set_option maxRecDepth 20000 in
theorem gX12_years_X12_peopled : GoodIn wsX12_years (wsV RX12 477 RX12 yX12_peopled wsX12_peopled) := goodIn_app (goodIn_of _ (by decide +kernel)) ggX12_years_X12_peopled
set_option maxRecDepth 20000 in
theorem ggX12_mark_X12_within : GoodIn wsX12_mark wsX12_within := goodIn_r _ [9] (by decide +kernel) (by decide +kernel)
set_option maxRecDepth 20000 in
theorem gX12_mark_X12_within : GoodIn wsX12_mark (va_wsS RX12 252 yX12_within wsX12_within) := goodIn_app (goodIn_of _ (by decide +kernel)) ggX12_mark_X12_within
set_option maxRecDepth 20000 in
theorem ggX12_mark_X12_laysLines_c0 : GoodIn wsX12_mark ((wsX12_laysLines).take 40) := goodIn_r _ [13, 14, 15, 16, 17, 28, 29, 30, 31, 32, 33, 34, 35, 36, 37, 38, 39, 40, 41, 42, 43, 44, 45, 46, 47, 48, 49, 50, 51, 52, 53, 54, 55, 56, 57, 58, 59, 60, 61, 62] (by decide +kernel) (by decide +kernel)
set_option maxRecDepth 20000 in
theorem ggX12_mark_X12_laysLines_c1 : GoodIn wsX12_mark ((wsX12_laysLines).drop 40) := goodIn_r _ [63, 64, 65, 66, 67, 68, 69, 70, 71, 72, 73, 74, 75, 76, 77, 78, 79, 80, 81, 82, 83, 84] (by decide +kernel) (by decide +kernel)
set_option maxRecDepth 20000 in
theorem ggX12_mark_X12_laysLines : GoodIn wsX12_mark wsX12_laysLines := (zgi (wsX12_laysLines) 40 ggX12_mark_X12_laysLines_c0 ggX12_mark_X12_laysLines_c1)
set_option maxRecDepth 20000 in
theorem gX12_mark_X12_laysLines : GoodIn wsX12_mark (wsV RX12 342 RX12 yX12_laysLines wsX12_laysLines) := goodIn_app (goodIn_of _ (by decide +kernel)) ggX12_mark_X12_laysLines
set_option maxRecDepth 20000 in
theorem ggX12_mark_X12_laysSeen_c0 : GoodIn wsX12_mark ((wsX12_laysSeen).take 40) := goodIn_r _ [21, 22, 23, 24, 28, 29, 30, 31, 32, 33, 34, 35, 36, 37, 38, 39, 40, 41, 42, 43, 44, 45, 46, 47, 48, 49, 50, 51, 52, 53, 54, 55, 56, 57, 58, 59, 60, 61, 62, 63] (by decide +kernel) (by decide +kernel)
set_option maxRecDepth 20000 in
theorem ggX12_mark_X12_laysSeen_c1 : GoodIn wsX12_mark ((wsX12_laysSeen).drop 40) := goodIn_r _ [64, 65, 66, 67, 68, 69, 70, 71, 72, 73, 74, 75, 76, 77, 78, 79, 80, 81, 82, 83, 84] (by decide +kernel) (by decide +kernel)
set_option maxRecDepth 20000 in
theorem ggX12_mark_X12_laysSeen : GoodIn wsX12_mark wsX12_laysSeen := (zgi (wsX12_laysSeen) 40 ggX12_mark_X12_laysSeen_c0 ggX12_mark_X12_laysSeen_c1)
set_option maxRecDepth 20000 in
theorem gX12_mark_X12_laysSeen : GoodIn wsX12_mark (wsV RX12 480 RX12 yX12_laysSeen wsX12_laysSeen) := goodIn_app (goodIn_of _ (by decide +kernel)) ggX12_mark_X12_laysSeen
set_option maxRecDepth 20000 in
theorem ggX12_mark_X12_copies : GoodIn wsX12_mark wsX12_copies := goodIn_r _ [27] (by decide +kernel) (by decide +kernel)
set_option maxRecDepth 20000 in
theorem gX12_mark_X12_copies : GoodIn wsX12_mark (va_wsS RX12 379 yX12_copies wsX12_copies) := goodIn_app (goodIn_of _ (by decide +kernel)) ggX12_mark_X12_copies
set_option maxRecDepth 20000 in
theorem ggX12_count_X12_within : GoodIn wsX12_count wsX12_within := goodIn_r _ [11] (by decide +kernel) (by decide +kernel)
set_option maxRecDepth 20000 in
theorem gX12_count_X12_within : GoodIn wsX12_count (va_wsS RX12 252 yX12_within wsX12_within) := goodIn_app (goodIn_of _ (by decide +kernel)) ggX12_count_X12_within
set_option maxRecDepth 20000 in
theorem ggX12_count_X12_peopled_c0 : GoodIn wsX12_count ((wsX12_peopled).take 40) := goodIn_r _ [15, 2, 3, 20, 21, 22, 23, 24, 25, 26, 27, 28, 29, 30, 31, 32, 33, 34, 35, 36, 37, 38, 39, 40, 41, 42, 43, 44, 45, 46, 47, 48, 49, 50, 51, 52, 53, 54, 55, 56] (by decide +kernel) (by decide +kernel)
set_option maxRecDepth 20000 in
theorem ggX12_count_X12_peopled_c1 : GoodIn wsX12_count ((wsX12_peopled).drop 40) := goodIn_r _ [57, 58, 59, 60, 61, 62, 63, 64, 65, 66, 67, 68, 69, 70, 71, 72, 73, 74, 75, 76] (by decide +kernel) (by decide +kernel)
set_option maxRecDepth 20000 in
theorem ggX12_count_X12_peopled : GoodIn wsX12_count wsX12_peopled := (zgi (wsX12_peopled) 40 ggX12_count_X12_peopled_c0 ggX12_count_X12_peopled_c1)
set_option maxRecDepth 20000 in
theorem gX12_count_X12_peopled : GoodIn wsX12_count (wsV RX12 477 RX12 yX12_peopled wsX12_peopled) := goodIn_app (goodIn_of _ (by decide +kernel)) ggX12_count_X12_peopled
set_option maxRecDepth 20000 in
theorem ggX12_count_X12_allOf_c0 : GoodIn wsX12_count ((wsX12_allOf).take 40) := goodIn_r _ [19, 3, 20, 21, 22, 23, 24, 25, 26, 27, 28, 29, 30, 31, 32, 33, 34, 35, 36, 37, 38, 39, 40, 41, 42, 43, 44, 45, 46, 47, 48, 49, 50, 51, 52, 53, 54, 55, 56, 57] (by decide +kernel) (by decide +kernel)
set_option maxRecDepth 20000 in
theorem ggX12_count_X12_allOf_c1 : GoodIn wsX12_count ((wsX12_allOf).drop 40) := goodIn_r _ [58, 59, 60, 61, 62, 63, 64, 65, 66, 67, 68, 69, 70, 71, 72, 73, 74, 75, 76] (by decide +kernel) (by decide +kernel)
set_option maxRecDepth 20000 in
theorem ggX12_count_X12_allOf : GoodIn wsX12_count wsX12_allOf := (zgi (wsX12_allOf) 40 ggX12_count_X12_allOf_c0 ggX12_count_X12_allOf_c1)
set_option maxRecDepth 20000 in
theorem gX12_count_X12_allOf : GoodIn wsX12_count (wsV RX12 407 RX12 yX12_allOf wsX12_allOf) := goodIn_app (goodIn_of _ (by decide +kernel)) ggX12_count_X12_allOf
