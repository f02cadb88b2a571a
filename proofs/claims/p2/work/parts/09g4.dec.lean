set_option maxRecDepth 20000 in
theorem ggX12_journey_X12_laysLines_c0 : GoodIn wsX12_journey ((wsX12_laysLines).take 40) := goodIn_r _ [105, 2, 36, 37, 38, 106, 107, 108, 109, 110, 111, 112, 113, 114, 115, 116, 117, 118, 119, 120, 121, 122, 123, 124, 125, 126, 127, 128, 129, 130, 131, 132, 133, 134, 135, 136, 137, 138, 139, 140] (by decide +kernel) (by decide +kernel)
set_option maxRecDepth 20000 in
theorem ggX12_journey_X12_laysLines_c1 : GoodIn wsX12_journey ((wsX12_laysLines).drop 40) := goodIn_r _ [141, 142, 143, 144, 145, 146, 147, 148, 149, 150, 151, 152, 153, 154, 155, 156, 157, 158, 159, 160, 161, 162] (by decide +kernel) (by decide +kernel)
set_option maxRecDepth 20000 in
theorem ggX12_journey_X12_laysLines : GoodIn wsX12_journey wsX12_laysLines := (zgi (wsX12_laysLines) 40 ggX12_journey_X12_laysLines_c0 ggX12_journey_X12_laysLines_c1)
set_option maxRecDepth 20000 in
theorem gX12_journey_X12_laysLines : GoodIn wsX12_journey (wsV RX12 342 RX12 yX12_laysLines wsX12_laysLines) := goodIn_app (goodIn_of _ (by decide +kernel)) ggX12_journey_X12_laysLines
set_option maxRecDepth 20000 in
theorem ggX12_readsBeard_X12_worked_c0 : GoodIn wsX12_readsBeard ((wsX12_worked).take 40) := goodIn_r _ [9, 2, 1, 10, 11, 12, 13, 14, 15, 16, 17, 3, 18, 19, 20, 21, 22, 8, 23, 24, 25, 26, 27, 28, 29, 30, 31, 32, 33, 34, 35, 36, 37, 38, 39, 40, 41, 42, 43, 44] (by decide +kernel) (by decide +kernel)
set_option maxRecDepth 20000 in
theorem ggX12_readsBeard_X12_worked_c1 : GoodIn wsX12_readsBeard (((wsX12_worked).drop 40).take 40) := goodIn_r _ [45, 46, 47, 48, 49, 50, 51, 52, 53, 54, 55, 56, 57, 58, 59, 60, 61, 62, 63, 64, 65, 66, 67, 68, 69, 70, 71, 72, 73, 74, 75, 76, 77, 78, 79, 80, 81, 82, 83, 84] (by decide +kernel) (by decide +kernel)
set_option maxRecDepth 20000 in
theorem ggX12_readsBeard_X12_worked_c2 : GoodIn wsX12_readsBeard (((wsX12_worked).drop 40).drop 40) := goodIn_r _ [85, 86, 87, 88] (by decide +kernel) (by decide +kernel)
set_option maxRecDepth 20000 in
theorem ggX12_readsBeard_X12_worked : GoodIn wsX12_readsBeard wsX12_worked := (zgi (wsX12_worked) 40 ggX12_readsBeard_X12_worked_c0 (zgi ((wsX12_worked).drop 40) 40 ggX12_readsBeard_X12_worked_c1 ggX12_readsBeard_X12_worked_c2))
set_option maxRecDepth 20000 in
theorem gX12_readsBeard_X12_worked : GoodIn wsX12_readsBeard (wsV RX12 346 RX12 yX12_worked wsX12_worked) := goodIn_app (goodIn_of _ (by decide +kernel)) ggX12_readsBeard_X12_worked
set_option maxRecDepth 20000 in
theorem ggX12_letsHim_X12_readsBeard_c0 : GoodIn wsX12_letsHim ((wsX12_readsBeard).take 40) := goodIn_r _ [9, 10, 11, 12, 4, 13, 14, 15, 8, 16, 17, 18, 19, 20, 21, 22, 23, 24, 25, 26, 27, 28, 29, 30, 31, 32, 33, 34, 35, 36, 37, 38, 39, 40, 41, 42, 43, 44, 45, 46] (by decide +kernel) (by decide +kernel)
set_option maxRecDepth 20000 in
theorem ggX12_letsHim_X12_readsBeard_c1 : GoodIn wsX12_letsHim (((wsX12_readsBeard).drop 40).take 40) := goodIn_r _ [47, 48, 49, 50, 51, 52, 53, 54, 55, 56, 57, 58, 59, 60, 61, 62, 63, 64, 65, 66, 67, 68, 69, 70, 71, 72, 73, 74, 75, 76, 77, 78, 79, 80, 81, 82, 83, 84, 85, 86] (by decide +kernel) (by decide +kernel)
set_option maxRecDepth 20000 in
theorem ggX12_letsHim_X12_readsBeard_c2 : GoodIn wsX12_letsHim (((wsX12_readsBeard).drop 40).drop 40) := goodIn_r _ [87, 88, 89, 90, 91, 92, 93, 94, 95] (by decide +kernel) (by decide +kernel)
set_option maxRecDepth 20000 in
theorem ggX12_letsHim_X12_readsBeard : GoodIn wsX12_letsHim wsX12_readsBeard := (zgi (wsX12_readsBeard) 40 ggX12_letsHim_X12_readsBeard_c0 (zgi ((wsX12_readsBeard).drop 40) 40 ggX12_letsHim_X12_readsBeard_c1 ggX12_letsHim_X12_readsBeard_c2))
set_option maxRecDepth 20000 in
theorem gX12_letsHim_X12_readsBeard : GoodIn wsX12_letsHim (wsV RX12 352 RX12 yX12_readsBeard wsX12_readsBeard) := goodIn_app (goodIn_of _ (by decide +kernel)) ggX12_letsHim_X12_readsBeard
set_option maxRecDepth 20000 in
theorem ggX12_speakersAt_X12_letsHim_c0 : GoodIn wsX12_speakersAt ((wsX12_letsHim).take 40) := goodIn_r _ [8, 2, 9, 10, 3, 11, 12, 13, 7, 14, 15, 16, 17, 18, 19, 20, 21, 22, 23, 24, 25, 26, 27, 28, 29, 30, 31, 32, 33, 34, 35, 36, 37, 38, 39, 40, 41, 42, 43, 44] (by decide +kernel) (by decide +kernel)
set_option maxRecDepth 20000 in
theorem ggX12_speakersAt_X12_letsHim_c1 : GoodIn wsX12_speakersAt (((wsX12_letsHim).drop 40).take 40) := goodIn_r _ [45, 46, 47, 48, 49, 50, 51, 52, 53, 54, 55, 56, 57, 58, 59, 60, 61, 62, 63, 64, 65, 66, 67, 68, 69, 70, 71, 72, 73, 74, 75, 76, 77, 78, 79, 80, 81, 82, 83, 84] (by decide +kernel) (by decide +kernel)
set_option maxRecDepth 20000 in
theorem ggX12_speakersAt_X12_letsHim_c2 : GoodIn wsX12_speakersAt (((wsX12_letsHim).drop 40).drop 40) := goodIn_r _ [85, 86, 87, 88, 89, 90, 91, 92, 93, 94, 95, 96, 97, 98, 99, 100] (by decide +kernel) (by decide +kernel)
set_option maxRecDepth 20000 in
theorem ggX12_speakersAt_X12_letsHim : GoodIn wsX12_speakersAt wsX12_letsHim := (zgi (wsX12_letsHim) 40 ggX12_speakersAt_X12_letsHim_c0 (zgi ((wsX12_letsHim).drop 40) 40 ggX12_speakersAt_X12_letsHim_c1 ggX12_speakersAt_X12_letsHim_c2))
set_option maxRecDepth 20000 in
theorem gX12_speakersAt_X12_letsHim : GoodIn wsX12_speakersAt (wsV RX12 355 RX12 yX12_letsHim wsX12_letsHim) := goodIn_app (goodIn_of _ (by decide +kernel)) ggX12_speakersAt_X12_letsHim
set_option maxRecDepth 20000 in
theorem ggX12_lets_X12_speakersAt_c0 : GoodIn wsX12_lets ((wsX12_speakersAt).take 40) := goodIn_r _ [6, 7, 1, 8, 9, 10, 11, 5, 12, 13, 14, 15, 16, 17, 18, 19, 20, 21, 22, 23, 24, 25, 26, 27, 28, 29, 30, 31, 32, 33, 34, 35, 36, 37, 38, 39, 40, 41, 42, 43] (by decide +kernel) (by decide +kernel)
set_option maxRecDepth 20000 in
theorem ggX12_lets_X12_speakersAt_c1 : GoodIn wsX12_lets (((wsX12_speakersAt).drop 40).take 40) := goodIn_r _ [44, 45, 46, 47, 48, 49, 50, 51, 52, 53, 54, 55, 56, 57, 58, 59, 60, 61, 62, 63, 64, 65, 66, 67, 68, 69, 70, 71, 72, 73, 74, 75, 76, 77, 78, 79, 80, 81, 82, 83] (by decide +kernel) (by decide +kernel)
set_option maxRecDepth 20000 in
theorem ggX12_lets_X12_speakersAt_c2 : GoodIn wsX12_lets (((wsX12_speakersAt).drop 40).drop 40) := goodIn_r _ [84, 85, 86, 87, 88, 89, 90, 91, 92, 93, 94, 95, 96, 97, 98, 99, 100, 101, 102, 103, 104] (by decide +kernel) (by decide +kernel)
set_option maxRecDepth 20000 in
theorem ggX12_lets_X12_speakersAt : GoodIn wsX12_lets wsX12_speakersAt := (zgi (wsX12_speakersAt) 40 ggX12_lets_X12_speakersAt_c0 (zgi ((wsX12_speakersAt).drop 40) 40 ggX12_lets_X12_speakersAt_c1 ggX12_lets_X12_speakersAt_c2))
set_option maxRecDepth 20000 in
theorem gX12_lets_X12_speakersAt : GoodIn wsX12_lets (wsV RX12 358 RX12 yX12_speakersAt wsX12_speakersAt) := goodIn_app (goodIn_of _ (by decide +kernel)) ggX12_lets_X12_speakersAt
set_option maxRecDepth 20000 in
theorem ggX12_lets_X12_letsHim_c0 : GoodIn wsX12_lets ((wsX12_letsHim).take 40) := goodIn_r _ [12, 1, 13, 14, 8, 15, 16, 17, 5, 18, 19, 20, 21, 22, 23, 24, 25, 26, 27, 28, 29, 30, 31, 32, 33, 34, 35, 36, 37, 38, 39, 40, 41, 42, 43, 44, 45, 46, 47, 48] (by decide +kernel) (by decide +kernel)
set_option maxRecDepth 20000 in
theorem ggX12_lets_X12_letsHim_c1 : GoodIn wsX12_lets (((wsX12_letsHim).drop 40).take 40) := goodIn_r _ [49, 50, 51, 52, 53, 54, 55, 56, 57, 58, 59, 60, 61, 62, 63, 64, 65, 66, 67, 68, 69, 70, 71, 72, 73, 74, 75, 76, 77, 78, 79, 80, 81, 82, 83, 84, 85, 86, 87, 88] (by decide +kernel) (by decide +kernel)
set_option maxRecDepth 20000 in
theorem ggX12_lets_X12_letsHim_c2 : GoodIn wsX12_lets (((wsX12_letsHim).drop 40).drop 40) := goodIn_r _ [89, 90, 91, 92, 93, 94, 95, 96, 97, 98, 99, 100, 101, 102, 103, 104] (by decide +kernel) (by decide +kernel)
set_option maxRecDepth 20000 in
theorem ggX12_lets_X12_letsHim : GoodIn wsX12_lets wsX12_letsHim := (zgi (wsX12_letsHim) 40 ggX12_lets_X12_letsHim_c0 (zgi ((wsX12_letsHim).drop 40) 40 ggX12_lets_X12_letsHim_c1 ggX12_lets_X12_letsHim_c2))
set_option maxRecDepth 20000 in
theorem gX12_lets_X12_letsHim : GoodIn wsX12_lets (wsV RX12 355 RX12 yX12_letsHim wsX12_letsHim) := goodIn_app (goodIn_of _ (by decide +kernel)) ggX12_lets_X12_letsHim
set_option maxRecDepth 20000 in
theorem ggX12_canGo_X12_lets_c0 : GoodIn wsX12_canGo ((wsX12_lets).take 40) := goodIn_r _ [7, 8, 9, 10, 11, 6, 12, 13, 2, 14, 15, 16, 17, 18, 19, 20, 21, 22, 23, 24, 25, 26, 27, 28, 29, 30, 31, 32, 33, 34, 35, 36, 37, 38, 39, 40, 41, 42, 43, 44] (by decide +kernel) (by decide +kernel)
set_option maxRecDepth 20000 in
theorem ggX12_canGo_X12_lets_c1 : GoodIn wsX12_canGo (((wsX12_lets).drop 40).take 40) := goodIn_r _ [45, 46, 47, 48, 49, 50, 51, 52, 53, 54, 55, 56, 57, 58, 59, 60, 61, 62, 63, 64, 65, 66, 67, 68, 69, 70, 71, 72, 73, 74, 75, 76, 77, 78, 79, 80, 81, 82, 83, 84] (by decide +kernel) (by decide +kernel)
set_option maxRecDepth 20000 in
theorem ggX12_canGo_X12_lets_c2 : GoodIn wsX12_canGo (((wsX12_lets).drop 40).drop 40) := goodIn_r _ [85, 86, 87, 88, 89, 90, 91, 92, 93, 94, 95, 96, 97, 98, 99, 100, 101, 102, 103, 104, 105, 106, 107, 108, 109] (by decide +kernel) (by decide +kernel)
set_option maxRecDepth 20000 in
theorem ggX12_canGo_X12_lets : GoodIn wsX12_canGo wsX12_lets := (zgi (wsX12_lets) 40 ggX12_canGo_X12_lets_c0 (zgi ((wsX12_lets).drop 40) 40 ggX12_canGo_X12_lets_c1 ggX12_canGo_X12_lets_c2))
set_option maxRecDepth 20000 in
theorem gX12_canGo_X12_lets : GoodIn wsX12_canGo (wsV RX12 362 RX12 yX12_lets wsX12_lets) := goodIn_app (goodIn_of _ (by decide +kernel)) ggX12_canGo_X12_lets
set_option maxRecDepth 20000 in
theorem ggX12_letThrough_X12_lets_c0 : GoodIn wsX12_letThrough ((wsX12_lets).take 40) := goodIn_r _ [7, 8, 9, 10, 11, 6, 12, 1, 2, 13, 14, 15, 16, 17, 18, 19, 20, 21, 22, 23, 24, 25, 26, 27, 28, 29, 30, 31, 32, 33, 34, 35, 36, 37, 38, 39, 40, 41, 42, 43] (by decide +kernel) (by decide +kernel)
set_option maxRecDepth 20000 in
theorem ggX12_letThrough_X12_lets_c1 : GoodIn wsX12_letThrough (((wsX12_lets).drop 40).take 40) := goodIn_r _ [44, 45, 46, 47, 48, 49, 50, 51, 52, 53, 54, 55, 56, 57, 58, 59, 60, 61, 62, 63, 64, 65, 66, 67, 68, 69, 70, 71, 72, 73, 74, 75, 76, 77, 78, 79, 80, 81, 82, 83] (by decide +kernel) (by decide +kernel)
set_option maxRecDepth 20000 in
theorem ggX12_letThrough_X12_lets_c2 : GoodIn wsX12_letThrough (((wsX12_lets).drop 40).drop 40) := goodIn_r _ [84, 85, 86, 87, 88, 89, 90, 91, 92, 93, 94, 95, 96, 97, 98, 99, 100, 101, 102, 103, 104, 105, 106, 107, 108] (by decide +kernel) (by decide +kernel)
set_option maxRecDepth 20000 in
theorem ggX12_letThrough_X12_lets : GoodIn wsX12_letThrough wsX12_lets := (zgi (wsX12_lets) 40 ggX12_letThrough_X12_lets_c0 (zgi ((wsX12_lets).drop 40) 40 ggX12_letThrough_X12_lets_c1 ggX12_letThrough_X12_lets_c2))
set_option maxRecDepth 20000 in
theorem gX12_letThrough_X12_lets : GoodIn wsX12_letThrough (wsV RX12 362 RX12 yX12_lets wsX12_lets) := goodIn_app (goodIn_of _ (by decide +kernel)) ggX12_letThrough_X12_lets
set_option maxRecDepth 20000 in
theorem ggX12_person_X12_isPerson_c0 : GoodIn wsX12_person ((wsX12_isPerson).take 40) := goodIn_r _ [8, 9, 13, 14, 15, 16, 17, 18, 19, 20, 21, 22, 23, 24, 25, 26, 27, 28, 29, 30, 31, 32, 33, 34, 35, 36, 37, 38, 39, 40, 41, 42, 43, 44, 45, 46, 47, 48, 49, 50] (by decide +kernel) (by decide +kernel)
set_option maxRecDepth 20000 in
theorem ggX12_person_X12_isPerson_c1 : GoodIn wsX12_person ((wsX12_isPerson).drop 40) := goodIn_r _ [51, 52, 53, 54, 55, 56, 57, 58, 59, 60, 61, 62, 63, 64, 65, 66, 67, 68, 69] (by decide +kernel) (by decide +kernel)
set_option maxRecDepth 20000 in
theorem ggX12_person_X12_isPerson : GoodIn wsX12_person wsX12_isPerson := (zgi (wsX12_isPerson) 40 ggX12_person_X12_isPerson_c0 ggX12_person_X12_isPerson_c1)
set_option maxRecDepth 20000 in
theorem gX12_person_X12_isPerson : GoodIn wsX12_person (wsV RX12 370 RX12 yX12_isPerson wsX12_isPerson) := goodIn_app (goodIn_of _ (by decide +kernel)) ggX12_person_X12_isPerson
set_option maxRecDepth 20000 in
theorem ggX12_person_X12_within : GoodIn wsX12_person wsX12_within := goodIn_r _ [12] (by decide +kernel) (by decide +kernel)
set_option maxRecDepth 20000 in
theorem gX12_person_X12_within : GoodIn wsX12_person (va_wsS RX12 252 yX12_within wsX12_within) := goodIn_app (goodIn_of _ (by decide +kernel)) ggX12_person_X12_within
set_option maxRecDepth 20000 in
theorem ggX12_town_X12_isTown_c0 : GoodIn wsX12_town ((wsX12_isTown).take 40) := goodIn_r _ [8, 9, 65, 66, 67, 68, 69, 70, 71, 72, 73, 74, 75, 76, 77, 78, 79, 80, 81, 82, 83, 84, 85, 86, 87, 88, 89, 90, 91, 92, 93, 94, 95, 96, 97, 98, 99, 100, 101, 102] (by decide +kernel) (by decide +kernel)
set_option maxRecDepth 20000 in
theorem ggX12_town_X12_isTown_c1 : GoodIn wsX12_town ((wsX12_isTown).drop 40) := goodIn_r _ [103, 104, 105, 106, 107, 108, 109, 110, 111, 112, 113, 114, 115, 116, 117, 118, 119, 120, 121] (by decide +kernel) (by decide +kernel)
set_option maxRecDepth 20000 in
theorem ggX12_town_X12_isTown : GoodIn wsX12_town wsX12_isTown := (zgi (wsX12_isTown) 40 ggX12_town_X12_isTown_c0 ggX12_town_X12_isTown_c1)
set_option maxRecDepth 20000 in
theorem gX12_town_X12_isTown : GoodIn wsX12_town (wsV RX12 373 RX12 yX12_isTown wsX12_isTown) := goodIn_app (goodIn_of _ (by decide +kernel)) ggX12_town_X12_isTown
set_option maxRecDepth 20000 in
theorem ggX12_town_X12_within : GoodIn wsX12_town wsX12_within := goodIn_r _ [12] (by decide +kernel) (by decide +kernel)
set_option maxRecDepth 20000 in
theorem gX12_town_X12_within : GoodIn wsX12_town (va_wsS RX12 252 yX12_within wsX12_within) := goodIn_app (goodIn_of _ (by decide +kernel)) ggX12_town_X12_within
set_option maxRecDepth 20000 in
theorem ggX12_town_X12_letThrough_c0 : GoodIn wsX12_town ((wsX12_letThrough).take 40) := goodIn_r _ [16, 9, 17, 18, 19, 20, 7, 21, 22, 23, 24, 25, 26, 27, 28, 29, 30, 2, 31, 32, 33, 34, 35, 36, 37, 38, 39, 40, 41, 42, 43, 44, 45, 46, 47, 48, 49, 50, 51, 52] (by decide +kernel) (by decide +kernel)
set_option maxRecDepth 20000 in
theorem ggX12_town_X12_letThrough_c1 : GoodIn wsX12_town (((wsX12_letThrough).drop 40).take 40) := goodIn_r _ [53, 54, 55, 56, 57, 58, 59, 60, 61, 62, 63, 64, 65, 66, 67, 68, 69, 70, 71, 72, 73, 74, 75, 76, 77, 78, 79, 80, 81, 82, 83, 84, 85, 86, 87, 88, 89, 90, 91, 92] (by decide +kernel) (by decide +kernel)
set_option maxRecDepth 20000 in
theorem ggX12_town_X12_letThrough_c2 : GoodIn wsX12_town (((wsX12_letThrough).drop 40).drop 40) := goodIn_r _ [93, 94, 95, 96, 97, 98, 99, 100, 101, 102, 103, 104, 105, 106, 107, 108, 109, 110, 111, 112, 113, 114, 115, 116, 117, 118, 119, 120, 121] (by decide +kernel) (by decide +kernel)
set_option maxRecDepth 20000 in
theorem ggX12_town_X12_letThrough : GoodIn wsX12_town wsX12_letThrough := (zgi (wsX12_letThrough) 40 ggX12_town_X12_letThrough_c0 (zgi ((wsX12_letThrough).drop 40) 40 ggX12_town_X12_letThrough_c1 ggX12_town_X12_letThrough_c2))
set_option maxRecDepth 20000 in
theorem gX12_town_X12_letThrough : GoodIn wsX12_town (wsV RX12 376 RX12 yX12_letThrough wsX12_letThrough) := goodIn_app (goodIn_of _ (by decide +kernel)) ggX12_town_X12_letThrough
set_option maxRecDepth 20000 in
theorem ggX12_keeps_X12_copies : GoodIn wsX12_keeps wsX12_copies := goodIn_r _ [7] (by decide +kernel) (by decide +kernel)
set_option maxRecDepth 20000 in
theorem gX12_keeps_X12_copies : GoodIn wsX12_keeps (va_wsS RX12 379 yX12_copies wsX12_copies) := goodIn_app (goodIn_of _ (by decide +kernel)) ggX12_keeps_X12_copies
set_option maxRecDepth 20000 in
theorem ggX12_go_X12_isPerson_c0 : GoodIn wsX12_go ((wsX12_isPerson).take 40) := goodIn_r _ [6, 7, 79, 80, 81, 82, 83, 84, 85, 86, 87, 88, 89, 90, 91, 92, 93, 94, 95, 96, 97, 98, 99, 100, 101, 102, 103, 104, 105, 106, 107, 108, 109, 110, 111, 112, 113, 114, 115, 116] (by decide +kernel) (by decide +kernel)
set_option maxRecDepth 20000 in
theorem ggX12_go_X12_isPerson_c1 : GoodIn wsX12_go ((wsX12_isPerson).drop 40) := goodIn_r _ [117, 118, 119, 120, 121, 122, 123, 124, 125, 126, 127, 128, 129, 130, 131, 132, 133, 134, 135] (by decide +kernel) (by decide +kernel)
set_option maxRecDepth 20000 in
theorem ggX12_go_X12_isPerson : GoodIn wsX12_go wsX12_isPerson := (zgi (wsX12_isPerson) 40 ggX12_go_X12_isPerson_c0 ggX12_go_X12_isPerson_c1)
set_option maxRecDepth 20000 in
theorem gX12_go_X12_isPerson : GoodIn wsX12_go (wsV RX12 370 RX12 yX12_isPerson wsX12_isPerson) := goodIn_app (goodIn_of _ (by decide +kernel)) ggX12_go_X12_isPerson
set_option maxRecDepth 20000 in
theorem ggX12_go_X12_isTown_c0 : GoodIn wsX12_go ((wsX12_isTown).take 40) := goodIn_r _ [11, 7, 79, 80, 81, 82, 83, 84, 85, 86, 87, 88, 89, 90, 91, 92, 93, 94, 95, 96, 97, 98, 99, 100, 101, 102, 103, 104, 105, 106, 107, 108, 109, 110, 111, 112, 113, 114, 115, 116] (by decide +kernel) (by decide +kernel)
set_option maxRecDepth 20000 in
theorem ggX12_go_X12_isTown_c1 : GoodIn wsX12_go ((wsX12_isTown).drop 40) := goodIn_r _ [117, 118, 119, 120, 121, 122, 123, 124, 125, 126, 127, 128, 129, 130, 131, 132, 133, 134, 135] (by decide +kernel) (by decide +kernel)
set_option maxRecDepth 20000 in
theorem ggX12_go_X12_isTown : GoodIn wsX12_go wsX12_isTown := (zgi (wsX12_isTown) 40 ggX12_go_X12_isTown_c0 ggX12_go_X12_isTown_c1)
set_option maxRecDepth 20000 in
theorem gX12_go_X12_isTown : GoodIn wsX12_go (wsV RX12 373 RX12 yX12_isTown wsX12_isTown) := goodIn_app (goodIn_of _ (by decide +kernel)) ggX12_go_X12_isTown
set_option maxRecDepth 20000 in
theorem ggX12_go_X12_canGo_c0 : GoodIn wsX12_go ((wsX12_canGo).take 40) := goodIn_r _ [15, 16, 17, 18, 19, 20, 5, 21, 22, 23, 24, 25, 26, 7, 27, 28, 29, 30, 31, 32, 33, 34, 35, 36, 37, 38, 39, 40, 41, 42, 43, 44, 45, 46, 47, 48, 49, 50, 51, 52] (by decide +kernel) (by decide +kernel)
set_option maxRecDepth 20000 in
theorem ggX12_go_X12_canGo_c1 : GoodIn wsX12_go (((wsX12_canGo).drop 40).take 40) := goodIn_r _ [53, 54, 55, 56, 57, 58, 59, 60, 61, 62, 63, 64, 65, 79, 80, 81, 82, 83, 84, 85, 86, 87, 88, 89, 90, 91, 92, 93, 94, 95, 96, 97, 98, 99, 100, 101, 102, 103, 104, 105] (by decide +kernel) (by decide +kernel)
set_option maxRecDepth 20000 in
theorem ggX12_go_X12_canGo_c2 : GoodIn wsX12_go (((wsX12_canGo).drop 40).drop 40) := goodIn_r _ [106, 107, 108, 109, 110, 111, 112, 113, 114, 115, 116, 117, 118, 119, 120, 121, 122, 123, 124, 125, 126, 127, 128, 129, 130, 131, 132, 133, 134, 135] (by decide +kernel) (by decide +kernel)
set_option maxRecDepth 20000 in
theorem ggX12_go_X12_canGo : GoodIn wsX12_go wsX12_canGo := (zgi (wsX12_canGo) 40 ggX12_go_X12_canGo_c0 (zgi ((wsX12_canGo).drop 40) 40 ggX12_go_X12_canGo_c1 ggX12_go_X12_canGo_c2))
set_option maxRecDepth 20000 in
theorem gX12_go_X12_canGo : GoodIn wsX12_go (wsV RX12 383 RX12 yX12_canGo wsX12_canGo) := goodIn_app (goodIn_of _ (by decide +kernel)) ggX12_go_X12_canGo
set_option maxRecDepth 20000 in
theorem ggX12_go_X12_keeps_c0 : GoodIn wsX12_go ((wsX12_keeps).take 40) := goodIn_r _ [69, 70, 71, 17, 72, 73, 5, 74, 79, 80, 81, 82, 83, 84, 85, 86, 87, 88, 89, 90, 91, 92, 93, 94, 95, 96, 97, 98, 99, 100, 101, 102, 103, 104, 105, 106, 107, 108, 109, 110] (by decide +kernel) (by decide +kernel)
set_option maxRecDepth 20000 in
theorem ggX12_go_X12_keeps_c1 : GoodIn wsX12_go ((wsX12_keeps).drop 40) := goodIn_r _ [111, 112, 113, 114, 115, 116, 117, 118, 119, 120, 121, 122, 123, 124, 125, 126, 127, 128, 129, 130, 131, 132, 133, 134, 135] (by decide +kernel) (by decide +kernel)
set_option maxRecDepth 20000 in
theorem ggX12_go_X12_keeps : GoodIn wsX12_go wsX12_keeps := (zgi (wsX12_keeps) 40 ggX12_go_X12_keeps_c0 ggX12_go_X12_keeps_c1)
set_option maxRecDepth 20000 in
theorem gX12_go_X12_keeps : GoodIn wsX12_go (wsV RX12 386 RX12 yX12_keeps wsX12_keeps) := goodIn_app (goodIn_of _ (by decide +kernel)) ggX12_go_X12_keeps
set_option maxRecDepth 20000 in
theorem ggX12_go_X12_goes_c0 : GoodIn wsX12_go ((wsX12_goes).take 40) := goodIn_r _ [78, 17, 79, 80, 81, 82, 83, 84, 85, 86, 87, 88, 89, 90, 91, 92, 93, 94, 95, 96, 97, 98, 99, 100, 101, 102, 103, 104, 105, 106, 107, 108, 109, 110, 111, 112, 113, 114, 115, 116] (by decide +kernel) (by decide +kernel)
set_option maxRecDepth 20000 in
theorem ggX12_go_X12_goes_c1 : GoodIn wsX12_go ((wsX12_goes).drop 40) := goodIn_r _ [117, 118, 119, 120, 121, 122, 123, 124, 125, 126, 127, 128, 129, 130, 131, 132, 133, 134, 135] (by decide +kernel) (by decide +kernel)
set_option maxRecDepth 20000 in
theorem ggX12_go_X12_goes : GoodIn wsX12_go wsX12_goes := (zgi (wsX12_goes) 40 ggX12_go_X12_goes_c0 ggX12_go_X12_goes_c1)
set_option maxRecDepth 20000 in
theorem gX12_go_X12_goes : GoodIn wsX12_go (wsV RX12 389 RX12 yX12_goes wsX12_goes) := goodIn_app (goodIn_of _ (by decide +kernel)) ggX12_go_X12_goes
set_option maxRecDepth 20000 in
theorem ggX12_forge_X12_isPerson_c0 : GoodIn wsX12_forge ((wsX12_isPerson).take 40) := goodIn_r _ [7, 8, 30, 31, 32, 33, 34, 35, 36, 37, 38, 39, 40, 41, 42, 43, 44, 45, 46, 47, 48, 49, 50, 51, 52, 53, 54, 55, 56, 57, 58, 59, 60, 61, 62, 63, 64, 65, 66, 67] (by decide +kernel) (by decide +kernel)
set_option maxRecDepth 20000 in
theorem ggX12_forge_X12_isPerson_c1 : GoodIn wsX12_forge ((wsX12_isPerson).drop 40) := goodIn_r _ [68, 69, 70, 71, 72, 73, 74, 75, 76, 77, 78, 79, 80, 81, 82, 83, 84, 85, 86] (by decide +kernel) (by decide +kernel)
set_option maxRecDepth 20000 in
theorem ggX12_forge_X12_isPerson : GoodIn wsX12_forge wsX12_isPerson := (zgi (wsX12_isPerson) 40 ggX12_forge_X12_isPerson_c0 ggX12_forge_X12_isPerson_c1)
set_option maxRecDepth 20000 in
theorem gX12_forge_X12_isPerson : GoodIn wsX12_forge (wsV RX12 370 RX12 yX12_isPerson wsX12_isPerson) := goodIn_app (goodIn_of _ (by decide +kernel)) ggX12_forge_X12_isPerson
