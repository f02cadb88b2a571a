set_option maxRecDepth 20000 in
theorem ggX12_when_X12_whenAt_c0 : GoodIn wsX12_when ((wsX12_whenAt).take 40) := goodIn_r _ [15, 16, 17, 18, 19, 5, 20, 21, 22, 23, 24, 25, 26, 27, 28, 7, 29, 30, 31, 32, 33, 34, 35, 36, 37, 38, 39, 40, 41, 42, 43, 44, 45, 46, 47, 48, 49, 50, 51, 52] (by decide +kernel) (by decide +kernel)
set_option maxRecDepth 20000 in
theorem ggX12_when_X12_whenAt_c1 : GoodIn wsX12_when (((wsX12_whenAt).drop 40).take 40) := goodIn_r _ [53, 54, 55, 56, 57, 58, 59, 60, 61, 62, 63, 64, 65, 66, 67, 68, 69, 70, 71, 72, 73, 74, 75, 76, 77, 78, 79, 80, 81, 82, 83, 84, 85, 86, 87, 88, 89, 90, 91, 92] (by decide +kernel) (by decide +kernel)
set_option maxRecDepth 20000 in
theorem ggX12_when_X12_whenAt_c2 : GoodIn wsX12_when ((((wsX12_whenAt).drop 40).drop 40).take 40) := goodIn_r _ [93, 94, 95, 96, 97, 98, 99, 100, 101, 102, 103, 104, 105, 106, 107, 108, 109, 110, 111, 112, 113, 114, 115, 116, 117, 118, 119, 120, 121, 122, 123, 124, 125, 126, 127, 128, 129, 130, 131, 132] (by decide +kernel) (by decide +kernel)
set_option maxRecDepth 20000 in
theorem ggX12_when_X12_whenAt_c3 : GoodIn wsX12_when ((((wsX12_whenAt).drop 40).drop 40).drop 40) := goodIn_r _ [133, 134, 135, 136, 137, 138, 139, 140, 141, 142] (by decide +kernel) (by decide +kernel)
set_option maxRecDepth 20000 in
theorem ggX12_when_X12_whenAt : GoodIn wsX12_when wsX12_whenAt := (zgi (wsX12_whenAt) 40 ggX12_when_X12_whenAt_c0 (zgi ((wsX12_whenAt).drop 40) 40 ggX12_when_X12_whenAt_c1 (zgi (((wsX12_whenAt).drop 40).drop 40) 40 ggX12_when_X12_whenAt_c2 ggX12_when_X12_whenAt_c3)))
set_option maxRecDepth 20000 in
theorem gX12_when_X12_whenAt : GoodIn wsX12_when (wsV RX12 426 RX12 yX12_whenAt wsX12_whenAt) := goodIn_app (goodIn_of _ (by decide +kernel)) ggX12_when_X12_whenAt
set_option maxRecDepth 20000 in
theorem ggX12_roams_X12_lets_c0 : GoodIn wsX12_roams ((wsX12_lets).take 40) := goodIn_r _ [8, 9, 10, 11, 12, 7, 13, 1, 14, 15, 16, 17, 18, 19, 20, 21, 22, 23, 24, 25, 26, 27, 28, 29, 30, 31, 32, 33, 34, 35, 36, 37, 38, 39, 40, 41, 42, 43, 44, 45] (by decide +kernel) (by decide +kernel)
set_option maxRecDepth 20000 in
theorem ggX12_roams_X12_lets_c1 : GoodIn wsX12_roams (((wsX12_lets).drop 40).take 40) := goodIn_r _ [46, 47, 48, 49, 50, 51, 52, 53, 54, 55, 56, 57, 58, 59, 60, 61, 62, 63, 64, 65, 66, 67, 68, 69, 70, 71, 72, 73, 74, 75, 76, 77, 78, 79, 80, 81, 82, 83, 84, 85] (by decide +kernel) (by decide +kernel)
set_option maxRecDepth 20000 in
theorem ggX12_roams_X12_lets_c2 : GoodIn wsX12_roams (((wsX12_lets).drop 40).drop 40) := goodIn_r _ [86, 87, 88, 89, 90, 91, 92, 93, 94, 95, 96, 97, 98, 99, 100, 101, 102, 103, 104, 105, 106, 107, 108, 109, 110] (by decide +kernel) (by decide +kernel)
set_option maxRecDepth 20000 in
theorem ggX12_roams_X12_lets : GoodIn wsX12_roams wsX12_lets := (zgi (wsX12_lets) 40 ggX12_roams_X12_lets_c0 (zgi ((wsX12_lets).drop 40) 40 ggX12_roams_X12_lets_c1 ggX12_roams_X12_lets_c2))
set_option maxRecDepth 20000 in
theorem gX12_roams_X12_lets : GoodIn wsX12_roams (wsV RX12 362 RX12 yX12_lets wsX12_lets) := goodIn_app (goodIn_of _ (by decide +kernel)) ggX12_roams_X12_lets
set_option maxRecDepth 20000 in
theorem ggX12_round_X12_isPerson_c0 : GoodIn wsX12_round ((wsX12_isPerson).take 40) := goodIn_r _ [9, 10, 75, 76, 77, 78, 79, 80, 81, 82, 83, 84, 85, 86, 87, 88, 89, 90, 91, 92, 93, 94, 95, 96, 97, 98, 99, 100, 101, 102, 103, 104, 105, 106, 107, 108, 109, 110, 111, 112] (by decide +kernel) (by decide +kernel)
set_option maxRecDepth 20000 in
theorem ggX12_round_X12_isPerson_c1 : GoodIn wsX12_round ((wsX12_isPerson).drop 40) := goodIn_r _ [113, 114, 115, 116, 117, 118, 119, 120, 121, 122, 123, 124, 125, 126, 127, 128, 129, 130, 131] (by decide +kernel) (by decide +kernel)
set_option maxRecDepth 20000 in
theorem ggX12_round_X12_isPerson : GoodIn wsX12_round wsX12_isPerson := (zgi (wsX12_isPerson) 40 ggX12_round_X12_isPerson_c0 ggX12_round_X12_isPerson_c1)
set_option maxRecDepth 20000 in
theorem gX12_round_X12_isPerson : GoodIn wsX12_round (wsV RX12 370 RX12 yX12_isPerson wsX12_isPerson) := goodIn_app (goodIn_of _ (by decide +kernel)) ggX12_round_X12_isPerson
set_option maxRecDepth 20000 in
theorem ggX12_round_X12_copies : GoodIn wsX12_round wsX12_copies := goodIn_r _ [13] (by decide +kernel) (by decide +kernel)
set_option maxRecDepth 20000 in
theorem gX12_round_X12_copies : GoodIn wsX12_round (va_wsS RX12 379 yX12_copies wsX12_copies) := goodIn_app (goodIn_of _ (by decide +kernel)) ggX12_round_X12_copies
set_option maxRecDepth 20000 in
theorem ggX12_round_X12_roams_c0 : GoodIn wsX12_round ((wsX12_roams).take 40) := goodIn_r _ [17, 10, 4, 18, 19, 20, 21, 8, 22, 23, 24, 25, 26, 27, 2, 28, 29, 30, 31, 32, 33, 34, 35, 36, 37, 38, 39, 40, 41, 42, 43, 44, 45, 46, 47, 48, 49, 50, 51, 52] (by decide +kernel) (by decide +kernel)
set_option maxRecDepth 20000 in
theorem ggX12_round_X12_roams_c1 : GoodIn wsX12_round (((wsX12_roams).drop 40).take 40) := goodIn_r _ [53, 54, 55, 56, 57, 58, 59, 60, 61, 62, 63, 64, 65, 66, 75, 76, 77, 78, 79, 80, 81, 82, 83, 84, 85, 86, 87, 88, 89, 90, 91, 92, 93, 94, 95, 96, 97, 98, 99, 100] (by decide +kernel) (by decide +kernel)
set_option maxRecDepth 20000 in
theorem ggX12_round_X12_roams_c2 : GoodIn wsX12_round (((wsX12_roams).drop 40).drop 40) := goodIn_r _ [101, 102, 103, 104, 105, 106, 107, 108, 109, 110, 111, 112, 113, 114, 115, 116, 117, 118, 119, 120, 121, 122, 123, 124, 125, 126, 127, 128, 129, 130, 131] (by decide +kernel) (by decide +kernel)
set_option maxRecDepth 20000 in
theorem ggX12_round_X12_roams : GoodIn wsX12_round wsX12_roams := (zgi (wsX12_roams) 40 ggX12_round_X12_roams_c0 (zgi ((wsX12_roams).drop 40) 40 ggX12_round_X12_roams_c1 ggX12_round_X12_roams_c2))
set_option maxRecDepth 20000 in
theorem gX12_round_X12_roams : GoodIn wsX12_round (wsV RX12 429 RX12 yX12_roams wsX12_roams) := goodIn_app (goodIn_of _ (by decide +kernel)) ggX12_round_X12_roams
set_option maxRecDepth 20000 in
theorem ggX12_round_X12_passes_c0 : GoodIn wsX12_round ((wsX12_passes).take 40) := goodIn_r _ [70, 10, 23, 2, 71, 72, 73, 74, 75, 76, 77, 78, 79, 80, 81, 82, 83, 84, 85, 86, 87, 88, 89, 90, 91, 92, 93, 94, 95, 96, 97, 98, 99, 100, 101, 102, 103, 104, 105, 106] (by decide +kernel) (by decide +kernel)
set_option maxRecDepth 20000 in
theorem ggX12_round_X12_passes_c1 : GoodIn wsX12_round ((wsX12_passes).drop 40) := goodIn_r _ [107, 108, 109, 110, 111, 112, 113, 114, 115, 116, 117, 118, 119, 120, 121, 122, 123, 124, 125, 126, 127, 128, 129, 130, 131] (by decide +kernel) (by decide +kernel)
set_option maxRecDepth 20000 in
theorem ggX12_round_X12_passes : GoodIn wsX12_round wsX12_passes := (zgi (wsX12_passes) 40 ggX12_round_X12_passes_c0 ggX12_round_X12_passes_c1)
set_option maxRecDepth 20000 in
theorem gX12_round_X12_passes : GoodIn wsX12_round (wsV RX12 401 RX12 yX12_passes wsX12_passes) := goodIn_app (goodIn_of _ (by decide +kernel)) ggX12_round_X12_passes
set_option maxRecDepth 20000 in
theorem ggX12_needOf_X12_copies : GoodIn wsX12_needOf wsX12_copies := goodIn_r _ [7] (by decide +kernel) (by decide +kernel)
set_option maxRecDepth 20000 in
theorem gX12_needOf_X12_copies : GoodIn wsX12_needOf (va_wsS RX12 379 yX12_copies wsX12_copies) := goodIn_app (goodIn_of _ (by decide +kernel)) ggX12_needOf_X12_copies
set_option maxRecDepth 20000 in
theorem ggX12_needOf_X12_reachFrom_c0 : GoodIn wsX12_needOf ((wsX12_reachFrom).take 40) := goodIn_r _ [11, 12, 13, 14, 6, 15, 16, 17, 18, 19, 20, 21, 3, 22, 23, 24, 25, 1, 26, 27, 28, 29, 30, 31, 32, 33, 34, 35, 36, 37, 38, 39, 40, 41, 42, 43, 44, 45, 46, 47] (by decide +kernel) (by decide +kernel)
set_option maxRecDepth 20000 in
theorem ggX12_needOf_X12_reachFrom_c1 : GoodIn wsX12_needOf (((wsX12_reachFrom).drop 40).take 40) := goodIn_r _ [48, 49, 50, 51, 52, 53, 54, 55, 56, 57, 58, 59, 60, 61, 62, 63, 64, 65, 66, 67, 68, 69, 70, 71, 72, 73, 74, 75, 76, 77, 78, 79, 80, 81, 82, 83, 84, 85, 86, 87] (by decide +kernel) (by decide +kernel)
set_option maxRecDepth 20000 in
theorem ggX12_needOf_X12_reachFrom_c2 : GoodIn wsX12_needOf (((wsX12_reachFrom).drop 40).drop 40) := goodIn_r _ [88, 89, 90, 91, 92, 93, 94, 95, 96, 97, 98, 99, 100, 101, 102, 103, 104, 105, 106, 107, 108, 109, 110, 111, 112, 113, 114, 115, 116, 117, 118, 119, 120, 121] (by decide +kernel) (by decide +kernel)
set_option maxRecDepth 20000 in
theorem ggX12_needOf_X12_reachFrom : GoodIn wsX12_needOf wsX12_reachFrom := (zgi (wsX12_reachFrom) 40 ggX12_needOf_X12_reachFrom_c0 (zgi ((wsX12_reachFrom).drop 40) 40 ggX12_needOf_X12_reachFrom_c1 ggX12_needOf_X12_reachFrom_c2))
set_option maxRecDepth 20000 in
theorem gX12_needOf_X12_reachFrom : GoodIn wsX12_needOf (wsV RX12 419 RX12 yX12_reachFrom wsX12_reachFrom) := goodIn_app (goodIn_of _ (by decide +kernel)) ggX12_needOf_X12_reachFrom
set_option maxRecDepth 20000 in
theorem ggX12_need_X12_isPerson_c0 : GoodIn wsX12_need ((wsX12_isPerson).take 40) := goodIn_r _ [6, 7, 78, 79, 80, 81, 82, 83, 84, 85, 86, 87, 88, 89, 90, 91, 92, 93, 94, 95, 96, 97, 98, 99, 100, 101, 102, 103, 104, 105, 106, 107, 108, 109, 110, 111, 112, 113, 114, 115] (by decide +kernel) (by decide +kernel)
set_option maxRecDepth 20000 in
theorem ggX12_need_X12_isPerson_c1 : GoodIn wsX12_need ((wsX12_isPerson).drop 40) := goodIn_r _ [116, 117, 118, 119, 120, 121, 122, 123, 124, 125, 126, 127, 128, 129, 130, 131, 132, 133, 134] (by decide +kernel) (by decide +kernel)
set_option maxRecDepth 20000 in
theorem ggX12_need_X12_isPerson : GoodIn wsX12_need wsX12_isPerson := (zgi (wsX12_isPerson) 40 ggX12_need_X12_isPerson_c0 ggX12_need_X12_isPerson_c1)
set_option maxRecDepth 20000 in
theorem gX12_need_X12_isPerson : GoodIn wsX12_need (wsV RX12 370 RX12 yX12_isPerson wsX12_isPerson) := goodIn_app (goodIn_of _ (by decide +kernel)) ggX12_need_X12_isPerson
set_option maxRecDepth 20000 in
theorem ggX12_need_X12_isTown_c0 : GoodIn wsX12_need ((wsX12_isTown).take 40) := goodIn_r _ [11, 7, 78, 79, 80, 81, 82, 83, 84, 85, 86, 87, 88, 89, 90, 91, 92, 93, 94, 95, 96, 97, 98, 99, 100, 101, 102, 103, 104, 105, 106, 107, 108, 109, 110, 111, 112, 113, 114, 115] (by decide +kernel) (by decide +kernel)
set_option maxRecDepth 20000 in
theorem ggX12_need_X12_isTown_c1 : GoodIn wsX12_need ((wsX12_isTown).drop 40) := goodIn_r _ [116, 117, 118, 119, 120, 121, 122, 123, 124, 125, 126, 127, 128, 129, 130, 131, 132, 133, 134] (by decide +kernel) (by decide +kernel)
set_option maxRecDepth 20000 in
theorem ggX12_need_X12_isTown : GoodIn wsX12_need wsX12_isTown := (zgi (wsX12_isTown) 40 ggX12_need_X12_isTown_c0 ggX12_need_X12_isTown_c1)
set_option maxRecDepth 20000 in
theorem gX12_need_X12_isTown : GoodIn wsX12_need (wsV RX12 373 RX12 yX12_isTown wsX12_isTown) := goodIn_app (goodIn_of _ (by decide +kernel)) ggX12_need_X12_isTown
set_option maxRecDepth 20000 in
theorem ggX12_need_X12_needOf_c0 : GoodIn wsX12_need ((wsX12_needOf).take 40) := goodIn_r _ [15, 16, 17, 18, 19, 20, 5, 21, 22, 23, 24, 25, 26, 27, 28, 29, 7, 30, 31, 32, 33, 34, 35, 36, 37, 38, 39, 40, 41, 42, 43, 44, 45, 46, 47, 48, 49, 50, 51, 52] (by decide +kernel) (by decide +kernel)
set_option maxRecDepth 20000 in
theorem ggX12_need_X12_needOf_c1 : GoodIn wsX12_need (((wsX12_needOf).drop 40).take 40) := goodIn_r _ [53, 54, 55, 56, 57, 58, 59, 60, 61, 62, 63, 64, 65, 66, 67, 68, 69, 70, 71, 72, 73, 74, 75, 76, 77, 78, 79, 80, 81, 82, 83, 84, 85, 86, 87, 88, 89, 90, 91, 92] (by decide +kernel) (by decide +kernel)
set_option maxRecDepth 20000 in
theorem ggX12_need_X12_needOf_c2 : GoodIn wsX12_need ((((wsX12_needOf).drop 40).drop 40).take 40) := goodIn_r _ [93, 94, 95, 96, 97, 98, 99, 100, 101, 102, 103, 104, 105, 106, 107, 108, 109, 110, 111, 112, 113, 114, 115, 116, 117, 118, 119, 120, 121, 122, 123, 124, 125, 126, 127, 128, 129, 130, 131, 132] (by decide +kernel) (by decide +kernel)
set_option maxRecDepth 20000 in
theorem ggX12_need_X12_needOf_c3 : GoodIn wsX12_need ((((wsX12_needOf).drop 40).drop 40).drop 40) := goodIn_r _ [133, 134] (by decide +kernel) (by decide +kernel)
set_option maxRecDepth 20000 in
theorem ggX12_need_X12_needOf : GoodIn wsX12_need wsX12_needOf := (zgi (wsX12_needOf) 40 ggX12_need_X12_needOf_c0 (zgi ((wsX12_needOf).drop 40) 40 ggX12_need_X12_needOf_c1 (zgi (((wsX12_needOf).drop 40).drop 40) 40 ggX12_need_X12_needOf_c2 ggX12_need_X12_needOf_c3)))
set_option maxRecDepth 20000 in
theorem gX12_need_X12_needOf : GoodIn wsX12_need (wsV RX12 432 RX12 yX12_needOf wsX12_needOf) := goodIn_app (goodIn_of _ (by decide +kernel)) ggX12_need_X12_needOf
set_option maxRecDepth 20000 in
theorem ggX12_cheapest_X12_isPerson_c0 : GoodIn wsX12_cheapest ((wsX12_isPerson).take 40) := goodIn_r _ [7, 2, 74, 75, 76, 77, 78, 79, 80, 81, 82, 83, 84, 85, 86, 87, 88, 89, 90, 91, 92, 93, 94, 95, 96, 97, 98, 99, 100, 101, 102, 103, 104, 105, 106, 107, 108, 109, 110, 111] (by decide +kernel) (by decide +kernel)
set_option maxRecDepth 20000 in
theorem ggX12_cheapest_X12_isPerson_c1 : GoodIn wsX12_cheapest ((wsX12_isPerson).drop 40) := goodIn_r _ [112, 113, 114, 115, 116, 117, 118, 119, 120, 121, 122, 123, 124, 125, 126, 127, 128, 129, 130] (by decide +kernel) (by decide +kernel)
set_option maxRecDepth 20000 in
theorem ggX12_cheapest_X12_isPerson : GoodIn wsX12_cheapest wsX12_isPerson := (zgi (wsX12_isPerson) 40 ggX12_cheapest_X12_isPerson_c0 ggX12_cheapest_X12_isPerson_c1)
set_option maxRecDepth 20000 in
theorem gX12_cheapest_X12_isPerson : GoodIn wsX12_cheapest (wsV RX12 370 RX12 yX12_isPerson wsX12_isPerson) := goodIn_app (goodIn_of _ (by decide +kernel)) ggX12_cheapest_X12_isPerson
set_option maxRecDepth 20000 in
theorem ggX12_cheapest_X12_needOf_c0 : GoodIn wsX12_cheapest ((wsX12_needOf).take 40) := goodIn_r _ [11, 12, 13, 14, 15, 16, 6, 17, 18, 19, 20, 21, 22, 23, 24, 25, 2, 26, 27, 28, 29, 30, 31, 32, 33, 34, 35, 36, 37, 38, 39, 40, 41, 42, 43, 44, 45, 46, 47, 48] (by decide +kernel) (by decide +kernel)
set_option maxRecDepth 20000 in
theorem ggX12_cheapest_X12_needOf_c1 : GoodIn wsX12_cheapest (((wsX12_needOf).drop 40).take 40) := goodIn_r _ [49, 50, 51, 52, 53, 54, 55, 56, 57, 58, 59, 60, 61, 62, 63, 64, 65, 66, 67, 68, 69, 70, 71, 72, 73, 74, 75, 76, 77, 78, 79, 80, 81, 82, 83, 84, 85, 86, 87, 88] (by decide +kernel) (by decide +kernel)
set_option maxRecDepth 20000 in
theorem ggX12_cheapest_X12_needOf_c2 : GoodIn wsX12_cheapest ((((wsX12_needOf).drop 40).drop 40).take 40) := goodIn_r _ [89, 90, 91, 92, 93, 94, 95, 96, 97, 98, 99, 100, 101, 102, 103, 104, 105, 106, 107, 108, 109, 110, 111, 112, 113, 114, 115, 116, 117, 118, 119, 120, 121, 122, 123, 124, 125, 126, 127, 128] (by decide +kernel) (by decide +kernel)
set_option maxRecDepth 20000 in
theorem ggX12_cheapest_X12_needOf_c3 : GoodIn wsX12_cheapest ((((wsX12_needOf).drop 40).drop 40).drop 40) := goodIn_r _ [129, 130] (by decide +kernel) (by decide +kernel)
set_option maxRecDepth 20000 in
theorem ggX12_cheapest_X12_needOf : GoodIn wsX12_cheapest wsX12_needOf := (zgi (wsX12_needOf) 40 ggX12_cheapest_X12_needOf_c0 (zgi ((wsX12_needOf).drop 40) 40 ggX12_cheapest_X12_needOf_c1 (zgi (((wsX12_needOf).drop 40).drop 40) 40 ggX12_cheapest_X12_needOf_c2 ggX12_cheapest_X12_needOf_c3)))
set_option maxRecDepth 20000 in
theorem gX12_cheapest_X12_needOf : GoodIn wsX12_cheapest (wsV RX12 432 RX12 yX12_needOf wsX12_needOf) := goodIn_app (goodIn_of _ (by decide +kernel)) ggX12_cheapest_X12_needOf
set_option maxRecDepth 20000 in
theorem ggX12_debt_X12_isPerson_c0 : GoodIn wsX12_debt ((wsX12_isPerson).take 40) := goodIn_r _ [12, 2, 82, 83, 84, 85, 86, 87, 88, 89, 90, 91, 92, 93, 94, 95, 96, 97, 98, 99, 100, 101, 102, 103, 104, 105, 106, 107, 108, 109, 110, 111, 112, 113, 114, 115, 116, 117, 118, 119] (by decide +kernel) (by decide +kernel)
set_option maxRecDepth 20000 in
theorem ggX12_debt_X12_isPerson_c1 : GoodIn wsX12_debt ((wsX12_isPerson).drop 40) := goodIn_r _ [120, 121, 122, 123, 124, 125, 126, 127, 128, 129, 130, 131, 132, 133, 134, 135, 136, 137, 138] (by decide +kernel) (by decide +kernel)
set_option maxRecDepth 20000 in
theorem ggX12_debt_X12_isPerson : GoodIn wsX12_debt wsX12_isPerson := (zgi (wsX12_isPerson) 40 ggX12_debt_X12_isPerson_c0 ggX12_debt_X12_isPerson_c1)
set_option maxRecDepth 20000 in
theorem gX12_debt_X12_isPerson : GoodIn wsX12_debt (wsV RX12 370 RX12 yX12_isPerson wsX12_isPerson) := goodIn_app (goodIn_of _ (by decide +kernel)) ggX12_debt_X12_isPerson
set_option maxRecDepth 20000 in
theorem ggX12_debt_X12_isTown_c0 : GoodIn wsX12_debt ((wsX12_isTown).take 40) := goodIn_r _ [16, 2, 82, 83, 84, 85, 86, 87, 88, 89, 90, 91, 92, 93, 94, 95, 96, 97, 98, 99, 100, 101, 102, 103, 104, 105, 106, 107, 108, 109, 110, 111, 112, 113, 114, 115, 116, 117, 118, 119] (by decide +kernel) (by decide +kernel)
set_option maxRecDepth 20000 in
theorem ggX12_debt_X12_isTown_c1 : GoodIn wsX12_debt ((wsX12_isTown).drop 40) := goodIn_r _ [120, 121, 122, 123, 124, 125, 126, 127, 128, 129, 130, 131, 132, 133, 134, 135, 136, 137, 138] (by decide +kernel) (by decide +kernel)
set_option maxRecDepth 20000 in
theorem ggX12_debt_X12_isTown : GoodIn wsX12_debt wsX12_isTown := (zgi (wsX12_isTown) 40 ggX12_debt_X12_isTown_c0 ggX12_debt_X12_isTown_c1)
set_option maxRecDepth 20000 in
theorem gX12_debt_X12_isTown : GoodIn wsX12_debt (wsV RX12 373 RX12 yX12_isTown wsX12_isTown) := goodIn_app (goodIn_of _ (by decide +kernel)) ggX12_debt_X12_isTown
set_option maxRecDepth 20000 in
theorem ggX12_debt_X12_needOf_c0 : GoodIn wsX12_debt ((wsX12_needOf).take 40) := goodIn_r _ [20, 3, 21, 22, 23, 24, 11, 25, 26, 27, 28, 29, 30, 31, 32, 33, 2, 34, 35, 36, 37, 38, 39, 40, 41, 42, 43, 44, 45, 46, 47, 48, 49, 50, 51, 52, 53, 54, 55, 56] (by decide +kernel) (by decide +kernel)
set_option maxRecDepth 20000 in
theorem ggX12_debt_X12_needOf_c1 : GoodIn wsX12_debt (((wsX12_needOf).drop 40).take 40) := goodIn_r _ [57, 58, 59, 60, 61, 62, 63, 64, 65, 66, 67, 68, 69, 70, 71, 72, 73, 74, 75, 76, 77, 78, 79, 80, 81, 82, 83, 84, 85, 86, 87, 88, 89, 90, 91, 92, 93, 94, 95, 96] (by decide +kernel) (by decide +kernel)
set_option maxRecDepth 20000 in
theorem ggX12_debt_X12_needOf_c2 : GoodIn wsX12_debt ((((wsX12_needOf).drop 40).drop 40).take 40) := goodIn_r _ [97, 98, 99, 100, 101, 102, 103, 104, 105, 106, 107, 108, 109, 110, 111, 112, 113, 114, 115, 116, 117, 118, 119, 120, 121, 122, 123, 124, 125, 126, 127, 128, 129, 130, 131, 132, 133, 134, 135, 136] (by decide +kernel) (by decide +kernel)
set_option maxRecDepth 20000 in
theorem ggX12_debt_X12_needOf_c3 : GoodIn wsX12_debt ((((wsX12_needOf).drop 40).drop 40).drop 40) := goodIn_r _ [137, 138] (by decide +kernel) (by decide +kernel)
set_option maxRecDepth 20000 in
theorem ggX12_debt_X12_needOf : GoodIn wsX12_debt wsX12_needOf := (zgi (wsX12_needOf) 40 ggX12_debt_X12_needOf_c0 (zgi ((wsX12_needOf).drop 40) 40 ggX12_debt_X12_needOf_c1 (zgi (((wsX12_needOf).drop 40).drop 40) 40 ggX12_debt_X12_needOf_c2 ggX12_debt_X12_needOf_c3)))
set_option maxRecDepth 20000 in
theorem gX12_debt_X12_needOf : GoodIn wsX12_debt (wsV RX12 432 RX12 yX12_needOf wsX12_needOf) := goodIn_app (goodIn_of _ (by decide +kernel)) ggX12_debt_X12_needOf
set_option maxRecDepth 20000 in
theorem ggX12_shaven_X12_isPerson_c0 : GoodIn wsX12_shaven ((wsX12_isPerson).take 40) := goodIn_r _ [8, 9, 74, 75, 76, 77, 78, 79, 80, 81, 82, 83, 84, 85, 86, 87, 88, 89, 90, 91, 92, 93, 94, 95, 96, 97, 98, 99, 100, 101, 102, 103, 104, 105, 106, 107, 108, 109, 110, 111] (by decide +kernel) (by decide +kernel)
set_option maxRecDepth 20000 in
theorem ggX12_shaven_X12_isPerson_c1 : GoodIn wsX12_shaven ((wsX12_isPerson).drop 40) := goodIn_r _ [112, 113, 114, 115, 116, 117, 118, 119, 120, 121, 122, 123, 124, 125, 126, 127, 128, 129, 130] (by decide +kernel) (by decide +kernel)
set_option maxRecDepth 20000 in
theorem ggX12_shaven_X12_isPerson : GoodIn wsX12_shaven wsX12_isPerson := (zgi (wsX12_isPerson) 40 ggX12_shaven_X12_isPerson_c0 ggX12_shaven_X12_isPerson_c1)
set_option maxRecDepth 20000 in
theorem gX12_shaven_X12_isPerson : GoodIn wsX12_shaven (wsV RX12 370 RX12 yX12_isPerson wsX12_isPerson) := goodIn_app (goodIn_of _ (by decide +kernel)) ggX12_shaven_X12_isPerson
set_option maxRecDepth 20000 in
theorem ggX12_shaven_X12_copies : GoodIn wsX12_shaven wsX12_copies := goodIn_r _ [12] (by decide +kernel) (by decide +kernel)
set_option maxRecDepth 20000 in
theorem gX12_shaven_X12_copies : GoodIn wsX12_shaven (va_wsS RX12 379 yX12_copies wsX12_copies) := goodIn_app (goodIn_of _ (by decide +kernel)) ggX12_shaven_X12_copies
set_option maxRecDepth 20000 in
theorem ggX12_shaven_X12_shaves_c0 : GoodIn wsX12_shaven ((wsX12_shaves).take 40) := goodIn_r _ [16, 2, 74, 75, 76, 77, 78, 79, 80, 81, 82, 83, 84, 85, 86, 87, 88, 89, 90, 91, 92, 93, 94, 95, 96, 97, 98, 99, 100, 101, 102, 103, 104, 105, 106, 107, 108, 109, 110, 111] (by decide +kernel) (by decide +kernel)
set_option maxRecDepth 20000 in
theorem ggX12_shaven_X12_shaves_c1 : GoodIn wsX12_shaven ((wsX12_shaves).drop 40) := goodIn_r _ [112, 113, 114, 115, 116, 117, 118, 119, 120, 121, 122, 123, 124, 125, 126, 127, 128, 129, 130] (by decide +kernel) (by decide +kernel)
set_option maxRecDepth 20000 in
theorem ggX12_shaven_X12_shaves : GoodIn wsX12_shaven wsX12_shaves := (zgi (wsX12_shaves) 40 ggX12_shaven_X12_shaves_c0 ggX12_shaven_X12_shaves_c1)
set_option maxRecDepth 20000 in
theorem gX12_shaven_X12_shaves : GoodIn wsX12_shaven (wsV RX12 398 RX12 yX12_shaves wsX12_shaves) := goodIn_app (goodIn_of _ (by decide +kernel)) ggX12_shaven_X12_shaves
set_option maxRecDepth 20000 in
theorem ggX12_shaven_X12_reachFrom_c0 : GoodIn wsX12_shaven ((wsX12_reachFrom).take 40) := goodIn_r _ [20, 21, 22, 23, 7, 24, 9, 25, 26, 27, 28, 29, 30, 31, 32, 33, 34, 2, 35, 36, 37, 38, 39, 40, 41, 42, 43, 44, 45, 46, 47, 48, 49, 50, 51, 52, 53, 54, 55, 56] (by decide +kernel) (by decide +kernel)
set_option maxRecDepth 20000 in
theorem ggX12_shaven_X12_reachFrom_c1 : GoodIn wsX12_shaven (((wsX12_reachFrom).drop 40).take 40) := goodIn_r _ [57, 58, 59, 60, 61, 62, 63, 64, 65, 66, 67, 68, 69, 70, 71, 72, 73, 74, 75, 76, 77, 78, 79, 80, 81, 82, 83, 84, 85, 86, 87, 88, 89, 90, 91, 92, 93, 94, 95, 96] (by decide +kernel) (by decide +kernel)
set_option maxRecDepth 20000 in
theorem ggX12_shaven_X12_reachFrom_c2 : GoodIn wsX12_shaven (((wsX12_reachFrom).drop 40).drop 40) := goodIn_r _ [97, 98, 99, 100, 101, 102, 103, 104, 105, 106, 107, 108, 109, 110, 111, 112, 113, 114, 115, 116, 117, 118, 119, 120, 121, 122, 123, 124, 125, 126, 127, 128, 129, 130] (by decide +kernel) (by decide +kernel)
set_option maxRecDepth 20000 in
theorem ggX12_shaven_X12_reachFrom : GoodIn wsX12_shaven wsX12_reachFrom := (zgi (wsX12_reachFrom) 40 ggX12_shaven_X12_reachFrom_c0 (zgi ((wsX12_reachFrom).drop 40) 40 ggX12_shaven_X12_reachFrom_c1 ggX12_shaven_X12_reachFrom_c2))
set_option maxRecDepth 20000 in
theorem gX12_shaven_X12_reachFrom : GoodIn wsX12_shaven (wsV RX12 419 RX12 yX12_reachFrom wsX12_reachFrom) := goodIn_app (goodIn_of _ (by decide +kernel)) ggX12_shaven_X12_reachFrom
