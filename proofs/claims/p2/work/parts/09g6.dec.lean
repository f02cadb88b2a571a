set_option maxRecDepth 20000 in
theorem ggX12_judged_X12_follows_c0 : GoodIn wsX12_judged ((wsX12_follows).take 40) := goodIn_r _ [30, 31, 5, 7, 32, 33, 34, 10, 35, 36, 2, 37, 38, 39, 40, 41, 42, 43, 44, 45, 19, 46, 47, 48, 49, 6, 50, 51, 52, 53, 54, 55, 56, 57, 58, 59, 60, 61, 62, 63] (by decide +kernel) (by decide +kernel)
set_option maxRecDepth 20000 in
theorem ggX12_judged_X12_follows_c1 : GoodIn wsX12_judged (((wsX12_follows).drop 40).take 40) := goodIn_r _ [64, 65, 66, 67, 68, 69, 70, 71, 72, 73, 74, 75, 76, 77, 78, 79, 80, 81, 82, 83, 84, 85, 86, 87, 88, 89, 90, 91, 92, 93, 94, 95, 96, 97, 98, 99, 100, 101, 102, 103] (by decide +kernel) (by decide +kernel)
set_option maxRecDepth 20000 in
theorem ggX12_judged_X12_follows_c2 : GoodIn wsX12_judged ((((wsX12_follows).drop 40).drop 40).take 40) := goodIn_r _ [104, 105, 106, 107, 115, 116, 117, 118, 119, 120, 121, 122, 123, 124, 125, 126, 127, 128, 129, 130, 131, 132, 133, 134, 135, 136, 137, 138, 139, 140, 141, 142, 143, 144, 145, 146, 147, 148, 149, 150] (by decide +kernel) (by decide +kernel)
set_option maxRecDepth 20000 in
theorem ggX12_judged_X12_follows_c3 : GoodIn wsX12_judged ((((wsX12_follows).drop 40).drop 40).drop 40) := goodIn_r _ [151, 152, 153, 154, 155, 156, 157, 158, 159, 160, 161, 162, 163, 164, 165, 166, 167, 168, 169, 170, 171] (by decide +kernel) (by decide +kernel)
set_option maxRecDepth 20000 in
theorem ggX12_judged_X12_follows : GoodIn wsX12_judged wsX12_follows := (zgi (wsX12_follows) 40 ggX12_judged_X12_follows_c0 (zgi ((wsX12_follows).drop 40) 40 ggX12_judged_X12_follows_c1 (zgi (((wsX12_follows).drop 40).drop 40) 40 ggX12_judged_X12_follows_c2 ggX12_judged_X12_follows_c3)))
set_option maxRecDepth 20000 in
theorem gX12_judged_X12_follows : GoodIn wsX12_judged (wsV RX12 410 RX12 yX12_follows wsX12_follows) := goodIn_app (goodIn_of _ (by decide +kernel)) ggX12_judged_X12_follows
set_option maxRecDepth 20000 in
theorem ggX12_judged_X12_mostAsked_c0 : GoodIn wsX12_judged ((wsX12_mostAsked).take 40) := goodIn_r _ [111, 19, 6, 112, 113, 106, 114, 115, 116, 117, 118, 119, 120, 121, 122, 123, 124, 125, 126, 127, 128, 129, 130, 131, 132, 133, 134, 135, 136, 137, 138, 139, 140, 141, 142, 143, 144, 145, 146, 147] (by decide +kernel) (by decide +kernel)
set_option maxRecDepth 20000 in
theorem ggX12_judged_X12_mostAsked_c1 : GoodIn wsX12_judged ((wsX12_mostAsked).drop 40) := goodIn_r _ [148, 149, 150, 151, 152, 153, 154, 155, 156, 157, 158, 159, 160, 161, 162, 163, 164, 165, 166, 167, 168, 169, 170, 171] (by decide +kernel) (by decide +kernel)
set_option maxRecDepth 20000 in
theorem ggX12_judged_X12_mostAsked : GoodIn wsX12_judged wsX12_mostAsked := (zgi (wsX12_mostAsked) 40 ggX12_judged_X12_mostAsked_c0 ggX12_judged_X12_mostAsked_c1)
set_option maxRecDepth 20000 in
theorem gX12_judged_X12_mostAsked : GoodIn wsX12_judged (wsV RX12 413 RX12 yX12_mostAsked wsX12_mostAsked) := goodIn_app (goodIn_of _ (by decide +kernel)) ggX12_judged_X12_mostAsked
set_option maxRecDepth 20000 in
theorem ggX12_spreads_X12_lets_c0 : GoodIn wsX12_spreads ((wsX12_lets).take 40) := goodIn_r _ [7, 8, 9, 10, 11, 6, 12, 1, 13, 14, 15, 16, 17, 18, 19, 20, 21, 22, 23, 24, 25, 26, 27, 28, 29, 30, 31, 32, 33, 34, 35, 36, 37, 38, 39, 40, 41, 42, 43, 44] (by decide +kernel) (by decide +kernel)
set_option maxRecDepth 20000 in
theorem ggX12_spreads_X12_lets_c1 : GoodIn wsX12_spreads (((wsX12_lets).drop 40).take 40) := goodIn_r _ [45, 46, 47, 48, 49, 50, 51, 52, 53, 54, 55, 56, 57, 58, 59, 60, 61, 62, 63, 64, 65, 66, 67, 68, 69, 70, 71, 72, 73, 74, 75, 76, 77, 78, 79, 80, 81, 82, 83, 84] (by decide +kernel) (by decide +kernel)
set_option maxRecDepth 20000 in
theorem ggX12_spreads_X12_lets_c2 : GoodIn wsX12_spreads (((wsX12_lets).drop 40).drop 40) := goodIn_r _ [85, 86, 87, 88, 89, 90, 91, 92, 93, 94, 95, 96, 97, 98, 99, 100, 101, 102, 103, 104, 105, 106, 107, 108, 109] (by decide +kernel) (by decide +kernel)
set_option maxRecDepth 20000 in
theorem ggX12_spreads_X12_lets : GoodIn wsX12_spreads wsX12_lets := (zgi (wsX12_lets) 40 ggX12_spreads_X12_lets_c0 (zgi ((wsX12_lets).drop 40) 40 ggX12_spreads_X12_lets_c1 ggX12_spreads_X12_lets_c2))
set_option maxRecDepth 20000 in
theorem gX12_spreads_X12_lets : GoodIn wsX12_spreads (wsV RX12 362 RX12 yX12_lets wsX12_lets) := goodIn_app (goodIn_of _ (by decide +kernel)) ggX12_spreads_X12_lets
set_option maxRecDepth 20000 in
theorem ggX12_reachFrom_X12_spreads_c0 : GoodIn wsX12_reachFrom ((wsX12_spreads).take 40) := goodIn_r _ [5, 6, 7, 8, 9, 10, 4, 11, 12, 13, 14, 15, 16, 17, 18, 19, 20, 21, 22, 23, 24, 25, 26, 27, 28, 29, 30, 31, 32, 33, 34, 35, 36, 37, 38, 39, 40, 41, 42, 43] (by decide +kernel) (by decide +kernel)
set_option maxRecDepth 20000 in
theorem ggX12_reachFrom_X12_spreads_c1 : GoodIn wsX12_reachFrom (((wsX12_spreads).drop 40).take 40) := goodIn_r _ [44, 45, 46, 47, 48, 49, 50, 51, 52, 53, 54, 55, 56, 57, 58, 59, 60, 61, 62, 63, 64, 65, 66, 67, 68, 69, 70, 71, 72, 73, 74, 75, 76, 77, 78, 79, 80, 81, 82, 83] (by decide +kernel) (by decide +kernel)
set_option maxRecDepth 20000 in
theorem ggX12_reachFrom_X12_spreads_c2 : GoodIn wsX12_reachFrom (((wsX12_spreads).drop 40).drop 40) := goodIn_r _ [84, 85, 86, 87, 88, 89, 90, 91, 92, 93, 94, 95, 96, 97, 98, 99, 100, 101, 102, 103, 104, 105, 106, 107, 108, 109, 110, 111, 112, 113] (by decide +kernel) (by decide +kernel)
set_option maxRecDepth 20000 in
theorem ggX12_reachFrom_X12_spreads : GoodIn wsX12_reachFrom wsX12_spreads := (zgi (wsX12_spreads) 40 ggX12_reachFrom_X12_spreads_c0 (zgi ((wsX12_spreads).drop 40) 40 ggX12_reachFrom_X12_spreads_c1 ggX12_reachFrom_X12_spreads_c2))
set_option maxRecDepth 20000 in
theorem gX12_reachFrom_X12_spreads : GoodIn wsX12_reachFrom (wsV RX12 416 RX12 yX12_spreads wsX12_spreads) := goodIn_app (goodIn_of _ (by decide +kernel)) ggX12_reachFrom_X12_spreads
set_option maxRecDepth 20000 in
theorem ggX12_reach_X12_isPerson_c0 : GoodIn wsX12_reach ((wsX12_isPerson).take 40) := goodIn_r _ [7, 8, 66, 67, 68, 69, 70, 71, 72, 73, 74, 75, 76, 77, 78, 79, 80, 81, 82, 83, 84, 85, 86, 87, 88, 89, 90, 91, 92, 93, 94, 95, 96, 97, 98, 99, 100, 101, 102, 103] (by decide +kernel) (by decide +kernel)
set_option maxRecDepth 20000 in
theorem ggX12_reach_X12_isPerson_c1 : GoodIn wsX12_reach ((wsX12_isPerson).drop 40) := goodIn_r _ [104, 105, 106, 107, 108, 109, 110, 111, 112, 113, 114, 115, 116, 117, 118, 119, 120, 121, 122] (by decide +kernel) (by decide +kernel)
set_option maxRecDepth 20000 in
theorem ggX12_reach_X12_isPerson : GoodIn wsX12_reach wsX12_isPerson := (zgi (wsX12_isPerson) 40 ggX12_reach_X12_isPerson_c0 ggX12_reach_X12_isPerson_c1)
set_option maxRecDepth 20000 in
theorem gX12_reach_X12_isPerson : GoodIn wsX12_reach (wsV RX12 370 RX12 yX12_isPerson wsX12_isPerson) := goodIn_app (goodIn_of _ (by decide +kernel)) ggX12_reach_X12_isPerson
set_option maxRecDepth 20000 in
theorem ggX12_reach_X12_reachFrom_c0 : GoodIn wsX12_reach ((wsX12_reachFrom).take 40) := goodIn_r _ [12, 13, 14, 15, 6, 16, 8, 17, 18, 19, 20, 21, 22, 23, 24, 25, 26, 2, 27, 28, 29, 30, 31, 32, 33, 34, 35, 36, 37, 38, 39, 40, 41, 42, 43, 44, 45, 46, 47, 48] (by decide +kernel) (by decide +kernel)
set_option maxRecDepth 20000 in
theorem ggX12_reach_X12_reachFrom_c1 : GoodIn wsX12_reach (((wsX12_reachFrom).drop 40).take 40) := goodIn_r _ [49, 50, 51, 52, 53, 54, 55, 56, 57, 58, 59, 60, 61, 62, 63, 64, 65, 66, 67, 68, 69, 70, 71, 72, 73, 74, 75, 76, 77, 78, 79, 80, 81, 82, 83, 84, 85, 86, 87, 88] (by decide +kernel) (by decide +kernel)
set_option maxRecDepth 20000 in
theorem ggX12_reach_X12_reachFrom_c2 : GoodIn wsX12_reach (((wsX12_reachFrom).drop 40).drop 40) := goodIn_r _ [89, 90, 91, 92, 93, 94, 95, 96, 97, 98, 99, 100, 101, 102, 103, 104, 105, 106, 107, 108, 109, 110, 111, 112, 113, 114, 115, 116, 117, 118, 119, 120, 121, 122] (by decide +kernel) (by decide +kernel)
set_option maxRecDepth 20000 in
theorem ggX12_reach_X12_reachFrom : GoodIn wsX12_reach wsX12_reachFrom := (zgi (wsX12_reachFrom) 40 ggX12_reach_X12_reachFrom_c0 (zgi ((wsX12_reachFrom).drop 40) 40 ggX12_reach_X12_reachFrom_c1 ggX12_reach_X12_reachFrom_c2))
set_option maxRecDepth 20000 in
theorem gX12_reach_X12_reachFrom : GoodIn wsX12_reach (wsV RX12 419 RX12 yX12_reachFrom wsX12_reachFrom) := goodIn_app (goodIn_of _ (by decide +kernel)) ggX12_reach_X12_reachFrom
set_option maxRecDepth 20000 in
theorem ggX12_farFrom_X12_spreads_c0 : GoodIn wsX12_farFrom ((wsX12_spreads).take 40) := goodIn_r _ [5, 6, 7, 8, 9, 10, 4, 11, 12, 13, 14, 15, 16, 17, 18, 19, 20, 21, 22, 23, 24, 25, 26, 27, 28, 29, 30, 31, 32, 33, 34, 35, 36, 37, 38, 39, 40, 41, 42, 43] (by decide +kernel) (by decide +kernel)
set_option maxRecDepth 20000 in
theorem ggX12_farFrom_X12_spreads_c1 : GoodIn wsX12_farFrom (((wsX12_spreads).drop 40).take 40) := goodIn_r _ [44, 45, 46, 47, 48, 49, 50, 51, 52, 53, 54, 55, 56, 57, 58, 59, 60, 61, 62, 63, 64, 65, 66, 67, 68, 69, 70, 71, 72, 73, 74, 75, 76, 77, 78, 79, 80, 81, 82, 83] (by decide +kernel) (by decide +kernel)
set_option maxRecDepth 20000 in
theorem ggX12_farFrom_X12_spreads_c2 : GoodIn wsX12_farFrom (((wsX12_spreads).drop 40).drop 40) := goodIn_r _ [84, 85, 86, 87, 88, 89, 90, 91, 92, 93, 94, 95, 96, 97, 98, 99, 100, 101, 102, 103, 104, 105, 106, 107, 108, 109, 110, 111, 112, 113] (by decide +kernel) (by decide +kernel)
set_option maxRecDepth 20000 in
theorem ggX12_farFrom_X12_spreads : GoodIn wsX12_farFrom wsX12_spreads := (zgi (wsX12_spreads) 40 ggX12_farFrom_X12_spreads_c0 (zgi ((wsX12_spreads).drop 40) 40 ggX12_farFrom_X12_spreads_c1 ggX12_farFrom_X12_spreads_c2))
set_option maxRecDepth 20000 in
theorem gX12_farFrom_X12_spreads : GoodIn wsX12_farFrom (wsV RX12 416 RX12 yX12_spreads wsX12_spreads) := goodIn_app (goodIn_of _ (by decide +kernel)) ggX12_farFrom_X12_spreads
set_option maxRecDepth 20000 in
theorem ggX12_frontiers_X12_isPerson_c0 : GoodIn wsX12_frontiers ((wsX12_isPerson).take 40) := goodIn_r _ [7, 8, 70, 71, 72, 73, 74, 75, 76, 77, 78, 79, 80, 81, 82, 83, 84, 85, 86, 87, 88, 89, 90, 91, 92, 93, 94, 95, 96, 97, 98, 99, 100, 101, 102, 103, 104, 105, 106, 107] (by decide +kernel) (by decide +kernel)
set_option maxRecDepth 20000 in
theorem ggX12_frontiers_X12_isPerson_c1 : GoodIn wsX12_frontiers ((wsX12_isPerson).drop 40) := goodIn_r _ [108, 109, 110, 111, 112, 113, 114, 115, 116, 117, 118, 119, 120, 121, 122, 123, 124, 125, 126] (by decide +kernel) (by decide +kernel)
set_option maxRecDepth 20000 in
theorem ggX12_frontiers_X12_isPerson : GoodIn wsX12_frontiers wsX12_isPerson := (zgi (wsX12_isPerson) 40 ggX12_frontiers_X12_isPerson_c0 ggX12_frontiers_X12_isPerson_c1)
set_option maxRecDepth 20000 in
theorem gX12_frontiers_X12_isPerson : GoodIn wsX12_frontiers (wsV RX12 370 RX12 yX12_isPerson wsX12_isPerson) := goodIn_app (goodIn_of _ (by decide +kernel)) ggX12_frontiers_X12_isPerson
set_option maxRecDepth 20000 in
theorem ggX12_frontiers_X12_isTown_c0 : GoodIn wsX12_frontiers ((wsX12_isTown).take 40) := goodIn_r _ [12, 8, 70, 71, 72, 73, 74, 75, 76, 77, 78, 79, 80, 81, 82, 83, 84, 85, 86, 87, 88, 89, 90, 91, 92, 93, 94, 95, 96, 97, 98, 99, 100, 101, 102, 103, 104, 105, 106, 107] (by decide +kernel) (by decide +kernel)
set_option maxRecDepth 20000 in
theorem ggX12_frontiers_X12_isTown_c1 : GoodIn wsX12_frontiers ((wsX12_isTown).drop 40) := goodIn_r _ [108, 109, 110, 111, 112, 113, 114, 115, 116, 117, 118, 119, 120, 121, 122, 123, 124, 125, 126] (by decide +kernel) (by decide +kernel)
set_option maxRecDepth 20000 in
theorem ggX12_frontiers_X12_isTown : GoodIn wsX12_frontiers wsX12_isTown := (zgi (wsX12_isTown) 40 ggX12_frontiers_X12_isTown_c0 ggX12_frontiers_X12_isTown_c1)
set_option maxRecDepth 20000 in
theorem gX12_frontiers_X12_isTown : GoodIn wsX12_frontiers (wsV RX12 373 RX12 yX12_isTown wsX12_isTown) := goodIn_app (goodIn_of _ (by decide +kernel)) ggX12_frontiers_X12_isTown
set_option maxRecDepth 20000 in
theorem ggX12_frontiers_X12_farFrom_c0 : GoodIn wsX12_frontiers ((wsX12_farFrom).take 40) := goodIn_r _ [16, 17, 18, 19, 6, 20, 8, 21, 22, 23, 24, 25, 26, 27, 28, 29, 30, 2, 31, 32, 33, 34, 35, 36, 37, 38, 39, 40, 41, 42, 43, 44, 45, 46, 47, 48, 49, 50, 51, 52] (by decide +kernel) (by decide +kernel)
set_option maxRecDepth 20000 in
theorem ggX12_frontiers_X12_farFrom_c1 : GoodIn wsX12_frontiers (((wsX12_farFrom).drop 40).take 40) := goodIn_r _ [53, 54, 55, 56, 57, 58, 59, 60, 61, 62, 63, 64, 65, 66, 67, 68, 69, 70, 71, 72, 73, 74, 75, 76, 77, 78, 79, 80, 81, 82, 83, 84, 85, 86, 87, 88, 89, 90, 91, 92] (by decide +kernel) (by decide +kernel)
set_option maxRecDepth 20000 in
theorem ggX12_frontiers_X12_farFrom_c2 : GoodIn wsX12_frontiers (((wsX12_farFrom).drop 40).drop 40) := goodIn_r _ [93, 94, 95, 96, 97, 98, 99, 100, 101, 102, 103, 104, 105, 106, 107, 108, 109, 110, 111, 112, 113, 114, 115, 116, 117, 118, 119, 120, 121, 122, 123, 124, 125, 126] (by decide +kernel) (by decide +kernel)
set_option maxRecDepth 20000 in
theorem ggX12_frontiers_X12_farFrom : GoodIn wsX12_frontiers wsX12_farFrom := (zgi (wsX12_farFrom) 40 ggX12_frontiers_X12_farFrom_c0 (zgi ((wsX12_farFrom).drop 40) 40 ggX12_frontiers_X12_farFrom_c1 ggX12_frontiers_X12_farFrom_c2))
set_option maxRecDepth 20000 in
theorem gX12_frontiers_X12_farFrom : GoodIn wsX12_frontiers (wsV RX12 422 RX12 yX12_farFrom wsX12_farFrom) := goodIn_app (goodIn_of _ (by decide +kernel)) ggX12_frontiers_X12_farFrom
set_option maxRecDepth 20000 in
theorem ggX12_guide_X12_isPerson_c0 : GoodIn wsX12_guide ((wsX12_isPerson).take 40) := goodIn_r _ [8, 3, 74, 75, 76, 77, 78, 79, 80, 81, 82, 83, 84, 85, 86, 87, 88, 89, 90, 91, 92, 93, 94, 95, 96, 97, 98, 99, 100, 101, 102, 103, 104, 105, 106, 107, 108, 109, 110, 111] (by decide +kernel) (by decide +kernel)
set_option maxRecDepth 20000 in
theorem ggX12_guide_X12_isPerson_c1 : GoodIn wsX12_guide ((wsX12_isPerson).drop 40) := goodIn_r _ [112, 113, 114, 115, 116, 117, 118, 119, 120, 121, 122, 123, 124, 125, 126, 127, 128, 129, 130] (by decide +kernel) (by decide +kernel)
set_option maxRecDepth 20000 in
theorem ggX12_guide_X12_isPerson : GoodIn wsX12_guide wsX12_isPerson := (zgi (wsX12_isPerson) 40 ggX12_guide_X12_isPerson_c0 ggX12_guide_X12_isPerson_c1)
set_option maxRecDepth 20000 in
theorem gX12_guide_X12_isPerson : GoodIn wsX12_guide (wsV RX12 370 RX12 yX12_isPerson wsX12_isPerson) := goodIn_app (goodIn_of _ (by decide +kernel)) ggX12_guide_X12_isPerson
set_option maxRecDepth 20000 in
theorem ggX12_guide_X12_isTown_c0 : GoodIn wsX12_guide ((wsX12_isTown).take 40) := goodIn_r _ [12, 3, 74, 75, 76, 77, 78, 79, 80, 81, 82, 83, 84, 85, 86, 87, 88, 89, 90, 91, 92, 93, 94, 95, 96, 97, 98, 99, 100, 101, 102, 103, 104, 105, 106, 107, 108, 109, 110, 111] (by decide +kernel) (by decide +kernel)
set_option maxRecDepth 20000 in
theorem ggX12_guide_X12_isTown_c1 : GoodIn wsX12_guide ((wsX12_isTown).drop 40) := goodIn_r _ [112, 113, 114, 115, 116, 117, 118, 119, 120, 121, 122, 123, 124, 125, 126, 127, 128, 129, 130] (by decide +kernel) (by decide +kernel)
set_option maxRecDepth 20000 in
theorem ggX12_guide_X12_isTown : GoodIn wsX12_guide wsX12_isTown := (zgi (wsX12_isTown) 40 ggX12_guide_X12_isTown_c0 ggX12_guide_X12_isTown_c1)
set_option maxRecDepth 20000 in
theorem gX12_guide_X12_isTown : GoodIn wsX12_guide (wsV RX12 373 RX12 yX12_isTown wsX12_isTown) := goodIn_app (goodIn_of _ (by decide +kernel)) ggX12_guide_X12_isTown
set_option maxRecDepth 20000 in
theorem ggX12_guide_X12_farFrom_c0 : GoodIn wsX12_guide ((wsX12_farFrom).take 40) := goodIn_r _ [16, 17, 18, 19, 7, 20, 3, 21, 22, 23, 24, 25, 26, 27, 28, 29, 30, 2, 31, 32, 33, 34, 35, 36, 37, 38, 39, 40, 41, 42, 43, 44, 45, 46, 47, 48, 49, 50, 51, 52] (by decide +kernel) (by decide +kernel)
set_option maxRecDepth 20000 in
theorem ggX12_guide_X12_farFrom_c1 : GoodIn wsX12_guide (((wsX12_farFrom).drop 40).take 40) := goodIn_r _ [53, 54, 55, 56, 57, 58, 59, 60, 61, 62, 63, 64, 65, 66, 67, 68, 69, 74, 75, 76, 77, 78, 79, 80, 81, 82, 83, 84, 85, 86, 87, 88, 89, 90, 91, 92, 93, 94, 95, 96] (by decide +kernel) (by decide +kernel)
set_option maxRecDepth 20000 in
theorem ggX12_guide_X12_farFrom_c2 : GoodIn wsX12_guide (((wsX12_farFrom).drop 40).drop 40) := goodIn_r _ [97, 98, 99, 100, 101, 102, 103, 104, 105, 106, 107, 108, 109, 110, 111, 112, 113, 114, 115, 116, 117, 118, 119, 120, 121, 122, 123, 124, 125, 126, 127, 128, 129, 130] (by decide +kernel) (by decide +kernel)
set_option maxRecDepth 20000 in
theorem ggX12_guide_X12_farFrom : GoodIn wsX12_guide wsX12_farFrom := (zgi (wsX12_farFrom) 40 ggX12_guide_X12_farFrom_c0 (zgi ((wsX12_farFrom).drop 40) 40 ggX12_guide_X12_farFrom_c1 ggX12_guide_X12_farFrom_c2))
set_option maxRecDepth 20000 in
theorem gX12_guide_X12_farFrom : GoodIn wsX12_guide (wsV RX12 422 RX12 yX12_farFrom wsX12_farFrom) := goodIn_app (goodIn_of _ (by decide +kernel)) ggX12_guide_X12_farFrom
set_option maxRecDepth 20000 in
theorem ggX12_guide_X12_canGo_c0 : GoodIn wsX12_guide ((wsX12_canGo).take 40) := goodIn_r _ [73, 21, 2, 22, 23, 24, 7, 25, 26, 27, 28, 29, 30, 3, 31, 32, 33, 34, 35, 36, 37, 38, 39, 40, 41, 42, 43, 44, 45, 46, 47, 48, 49, 50, 51, 52, 53, 54, 55, 56] (by decide +kernel) (by decide +kernel)
set_option maxRecDepth 20000 in
theorem ggX12_guide_X12_canGo_c1 : GoodIn wsX12_guide (((wsX12_canGo).drop 40).take 40) := goodIn_r _ [57, 58, 59, 60, 61, 62, 63, 64, 65, 66, 67, 68, 69, 74, 75, 76, 77, 78, 79, 80, 81, 82, 83, 84, 85, 86, 87, 88, 89, 90, 91, 92, 93, 94, 95, 96, 97, 98, 99, 100] (by decide +kernel) (by decide +kernel)
set_option maxRecDepth 20000 in
theorem ggX12_guide_X12_canGo_c2 : GoodIn wsX12_guide (((wsX12_canGo).drop 40).drop 40) := goodIn_r _ [101, 102, 103, 104, 105, 106, 107, 108, 109, 110, 111, 112, 113, 114, 115, 116, 117, 118, 119, 120, 121, 122, 123, 124, 125, 126, 127, 128, 129, 130] (by decide +kernel) (by decide +kernel)
set_option maxRecDepth 20000 in
theorem ggX12_guide_X12_canGo : GoodIn wsX12_guide wsX12_canGo := (zgi (wsX12_canGo) 40 ggX12_guide_X12_canGo_c0 (zgi ((wsX12_canGo).drop 40) 40 ggX12_guide_X12_canGo_c1 ggX12_guide_X12_canGo_c2))
set_option maxRecDepth 20000 in
theorem gX12_guide_X12_canGo : GoodIn wsX12_guide (wsV RX12 383 RX12 yX12_canGo wsX12_canGo) := goodIn_app (goodIn_of _ (by decide +kernel)) ggX12_guide_X12_canGo
set_option maxRecDepth 20000 in
theorem ggX12_trapped_X12_canGo_c0 : GoodIn wsX12_trapped ((wsX12_canGo).take 40) := goodIn_r _ [7, 8, 9, 10, 11, 12, 6, 13, 14, 15, 16, 17, 18, 2, 19, 20, 21, 22, 23, 24, 25, 26, 27, 28, 29, 30, 31, 32, 33, 34, 35, 36, 37, 38, 39, 40, 41, 42, 43, 44] (by decide +kernel) (by decide +kernel)
set_option maxRecDepth 20000 in
theorem ggX12_trapped_X12_canGo_c1 : GoodIn wsX12_trapped (((wsX12_canGo).drop 40).take 40) := goodIn_r _ [45, 46, 47, 48, 49, 50, 51, 52, 53, 54, 55, 56, 57, 58, 59, 60, 61, 62, 63, 64, 65, 66, 67, 68, 69, 70, 71, 72, 73, 74, 75, 76, 77, 78, 79, 80, 81, 82, 83, 84] (by decide +kernel) (by decide +kernel)
set_option maxRecDepth 20000 in
theorem ggX12_trapped_X12_canGo_c2 : GoodIn wsX12_trapped (((wsX12_canGo).drop 40).drop 40) := goodIn_r _ [85, 86, 87, 88, 89, 90, 91, 92, 93, 94, 95, 96, 97, 98, 99, 100, 101, 102, 103, 104, 105, 106, 107, 108, 109, 110, 111, 112, 113, 114] (by decide +kernel) (by decide +kernel)
set_option maxRecDepth 20000 in
theorem ggX12_trapped_X12_canGo : GoodIn wsX12_trapped wsX12_canGo := (zgi (wsX12_canGo) 40 ggX12_trapped_X12_canGo_c0 (zgi ((wsX12_canGo).drop 40) 40 ggX12_trapped_X12_canGo_c1 ggX12_trapped_X12_canGo_c2))
set_option maxRecDepth 20000 in
theorem gX12_trapped_X12_canGo : GoodIn wsX12_trapped (wsV RX12 383 RX12 yX12_canGo wsX12_canGo) := goodIn_app (goodIn_of _ (by decide +kernel)) ggX12_trapped_X12_canGo
set_option maxRecDepth 20000 in
theorem ggX12_whenAt_X12_copies : GoodIn wsX12_whenAt wsX12_copies := goodIn_r _ [6] (by decide +kernel) (by decide +kernel)
set_option maxRecDepth 20000 in
theorem gX12_whenAt_X12_copies : GoodIn wsX12_whenAt (va_wsS RX12 379 yX12_copies wsX12_copies) := goodIn_app (goodIn_of _ (by decide +kernel)) ggX12_whenAt_X12_copies
set_option maxRecDepth 20000 in
theorem ggX12_whenAt_X12_reachFrom_c0 : GoodIn wsX12_whenAt ((wsX12_reachFrom).take 40) := goodIn_r _ [10, 11, 12, 13, 5, 14, 15, 16, 17, 18, 19, 20, 21, 22, 23, 24, 25, 1, 26, 27, 28, 29, 30, 31, 32, 33, 34, 35, 36, 37, 38, 39, 40, 41, 42, 43, 44, 45, 46, 47] (by decide +kernel) (by decide +kernel)
set_option maxRecDepth 20000 in
theorem ggX12_whenAt_X12_reachFrom_c1 : GoodIn wsX12_whenAt (((wsX12_reachFrom).drop 40).take 40) := goodIn_r _ [48, 49, 50, 51, 52, 53, 54, 55, 56, 57, 58, 59, 60, 61, 62, 63, 64, 73, 74, 75, 76, 77, 78, 79, 80, 81, 82, 83, 84, 85, 86, 87, 88, 89, 90, 91, 92, 93, 94, 95] (by decide +kernel) (by decide +kernel)
set_option maxRecDepth 20000 in
theorem ggX12_whenAt_X12_reachFrom_c2 : GoodIn wsX12_whenAt (((wsX12_reachFrom).drop 40).drop 40) := goodIn_r _ [96, 97, 98, 99, 100, 101, 102, 103, 104, 105, 106, 107, 108, 109, 110, 111, 112, 113, 114, 115, 116, 117, 118, 119, 120, 121, 122, 123, 124, 125, 126, 127, 128, 129] (by decide +kernel) (by decide +kernel)
set_option maxRecDepth 20000 in
theorem ggX12_whenAt_X12_reachFrom : GoodIn wsX12_whenAt wsX12_reachFrom := (zgi (wsX12_reachFrom) 40 ggX12_whenAt_X12_reachFrom_c0 (zgi ((wsX12_reachFrom).drop 40) 40 ggX12_whenAt_X12_reachFrom_c1 ggX12_whenAt_X12_reachFrom_c2))
set_option maxRecDepth 20000 in
theorem gX12_whenAt_X12_reachFrom : GoodIn wsX12_whenAt (wsV RX12 419 RX12 yX12_reachFrom wsX12_reachFrom) := goodIn_app (goodIn_of _ (by decide +kernel)) ggX12_whenAt_X12_reachFrom
set_option maxRecDepth 20000 in
theorem ggX12_whenAt_X12_passes_c0 : GoodIn wsX12_whenAt ((wsX12_passes).take 40) := goodIn_r _ [68, 15, 21, 1, 69, 70, 71, 72, 73, 74, 75, 76, 77, 78, 79, 80, 81, 82, 83, 84, 85, 86, 87, 88, 89, 90, 91, 92, 93, 94, 95, 96, 97, 98, 99, 100, 101, 102, 103, 104] (by decide +kernel) (by decide +kernel)
set_option maxRecDepth 20000 in
theorem ggX12_whenAt_X12_passes_c1 : GoodIn wsX12_whenAt ((wsX12_passes).drop 40) := goodIn_r _ [105, 106, 107, 108, 109, 110, 111, 112, 113, 114, 115, 116, 117, 118, 119, 120, 121, 122, 123, 124, 125, 126, 127, 128, 129] (by decide +kernel) (by decide +kernel)
set_option maxRecDepth 20000 in
theorem ggX12_whenAt_X12_passes : GoodIn wsX12_whenAt wsX12_passes := (zgi (wsX12_passes) 40 ggX12_whenAt_X12_passes_c0 ggX12_whenAt_X12_passes_c1)
set_option maxRecDepth 20000 in
theorem gX12_whenAt_X12_passes : GoodIn wsX12_whenAt (wsV RX12 401 RX12 yX12_passes wsX12_passes) := goodIn_app (goodIn_of _ (by decide +kernel)) ggX12_whenAt_X12_passes
set_option maxRecDepth 20000 in
theorem ggX12_when_X12_isPerson_c0 : GoodIn wsX12_when ((wsX12_isPerson).take 40) := goodIn_r _ [6, 7, 86, 87, 88, 89, 90, 91, 92, 93, 94, 95, 96, 97, 98, 99, 100, 101, 102, 103, 104, 105, 106, 107, 108, 109, 110, 111, 112, 113, 114, 115, 116, 117, 118, 119, 120, 121, 122, 123] (by decide +kernel) (by decide +kernel)
set_option maxRecDepth 20000 in
theorem ggX12_when_X12_isPerson_c1 : GoodIn wsX12_when ((wsX12_isPerson).drop 40) := goodIn_r _ [124, 125, 126, 127, 128, 129, 130, 131, 132, 133, 134, 135, 136, 137, 138, 139, 140, 141, 142] (by decide +kernel) (by decide +kernel)
set_option maxRecDepth 20000 in
theorem ggX12_when_X12_isPerson : GoodIn wsX12_when wsX12_isPerson := (zgi (wsX12_isPerson) 40 ggX12_when_X12_isPerson_c0 ggX12_when_X12_isPerson_c1)
set_option maxRecDepth 20000 in
theorem gX12_when_X12_isPerson : GoodIn wsX12_when (wsV RX12 370 RX12 yX12_isPerson wsX12_isPerson) := goodIn_app (goodIn_of _ (by decide +kernel)) ggX12_when_X12_isPerson
set_option maxRecDepth 20000 in
theorem ggX12_when_X12_isTown_c0 : GoodIn wsX12_when ((wsX12_isTown).take 40) := goodIn_r _ [11, 7, 86, 87, 88, 89, 90, 91, 92, 93, 94, 95, 96, 97, 98, 99, 100, 101, 102, 103, 104, 105, 106, 107, 108, 109, 110, 111, 112, 113, 114, 115, 116, 117, 118, 119, 120, 121, 122, 123] (by decide +kernel) (by decide +kernel)
set_option maxRecDepth 20000 in
theorem ggX12_when_X12_isTown_c1 : GoodIn wsX12_when ((wsX12_isTown).drop 40) := goodIn_r _ [124, 125, 126, 127, 128, 129, 130, 131, 132, 133, 134, 135, 136, 137, 138, 139, 140, 141, 142] (by decide +kernel) (by decide +kernel)
set_option maxRecDepth 20000 in
theorem ggX12_when_X12_isTown : GoodIn wsX12_when wsX12_isTown := (zgi (wsX12_isTown) 40 ggX12_when_X12_isTown_c0 ggX12_when_X12_isTown_c1)
set_option maxRecDepth 20000 in
theorem gX12_when_X12_isTown : GoodIn wsX12_when (wsV RX12 373 RX12 yX12_isTown wsX12_isTown) := goodIn_app (goodIn_of _ (by decide +kernel)) ggX12_when_X12_isTown
