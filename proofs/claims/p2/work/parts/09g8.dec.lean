set_option maxRecDepth 20000 in
theorem ggX12_meetsAt_X12_whenAt_c0 : GoodIn wsX12_meetsAt ((wsX12_whenAt).take 40) := goodIn_r _ [10, 11, 12, 13, 14, 9, 15, 16, 17, 18, 19, 20, 21, 22, 23, 1, 24, 25, 26, 27, 28, 29, 30, 31, 32, 33, 34, 35, 36, 37, 38, 39, 40, 41, 42, 43, 44, 45, 46, 47] (by decide +kernel) (by decide +kernel)
set_option maxRecDepth 20000 in
theorem ggX12_meetsAt_X12_whenAt_c1 : GoodIn wsX12_meetsAt (((wsX12_whenAt).drop 40).take 40) := goodIn_r _ [48, 49, 50, 51, 52, 53, 54, 55, 56, 57, 58, 59, 60, 61, 62, 63, 64, 65, 66, 67, 68, 69, 70, 71, 72, 73, 74, 75, 76, 77, 78, 4, 79, 80, 81, 82, 83, 84, 85, 86] (by decide +kernel) (by decide +kernel)
set_option maxRecDepth 20000 in
theorem ggX12_meetsAt_X12_whenAt_c2 : GoodIn wsX12_meetsAt ((((wsX12_whenAt).drop 40).drop 40).take 40) := goodIn_r _ [87, 88, 89, 90, 91, 92, 93, 94, 95, 96, 97, 98, 99, 100, 101, 102, 103, 104, 105, 106, 107, 108, 109, 110, 111, 112, 113, 114, 115, 116, 117, 118, 119, 120, 121, 122, 123, 124, 125, 126] (by decide +kernel) (by decide +kernel)
set_option maxRecDepth 20000 in
theorem ggX12_meetsAt_X12_whenAt_c3 : GoodIn wsX12_meetsAt ((((wsX12_whenAt).drop 40).drop 40).drop 40) := goodIn_r _ [127, 128, 129, 130, 131, 132, 133, 134, 135, 136] (by decide +kernel) (by decide +kernel)
set_option maxRecDepth 20000 in
theorem ggX12_meetsAt_X12_whenAt : GoodIn wsX12_meetsAt wsX12_whenAt := (zgi (wsX12_whenAt) 40 ggX12_meetsAt_X12_whenAt_c0 (zgi ((wsX12_whenAt).drop 40) 40 ggX12_meetsAt_X12_whenAt_c1 (zgi (((wsX12_whenAt).drop 40).drop 40) 40 ggX12_meetsAt_X12_whenAt_c2 ggX12_meetsAt_X12_whenAt_c3)))
set_option maxRecDepth 20000 in
theorem gX12_meetsAt_X12_whenAt : GoodIn wsX12_meetsAt (wsV RX12 426 RX12 yX12_whenAt wsX12_whenAt) := goodIn_app (goodIn_of _ (by decide +kernel)) ggX12_meetsAt_X12_whenAt
set_option maxRecDepth 20000 in
theorem ggX12_meeting_X12_within : GoodIn wsX12_meeting wsX12_within := goodIn_r _ [6] (by decide +kernel) (by decide +kernel)
set_option maxRecDepth 20000 in
theorem gX12_meeting_X12_within : GoodIn wsX12_meeting (va_wsS RX12 252 yX12_within wsX12_within) := goodIn_app (goodIn_of _ (by decide +kernel)) ggX12_meeting_X12_within
set_option maxRecDepth 20000 in
theorem ggX12_meeting_X12_meetsAt_c0 : GoodIn wsX12_meeting ((wsX12_meetsAt).take 40) := goodIn_r _ [10, 2, 11, 12, 13, 14, 15, 16, 17, 5, 18, 19, 20, 21, 22, 23, 24, 25, 26, 27, 28, 29, 30, 31, 32, 33, 34, 35, 36, 37, 38, 39, 40, 41, 42, 43, 44, 45, 46, 47] (by decide +kernel) (by decide +kernel)
set_option maxRecDepth 20000 in
theorem ggX12_meeting_X12_meetsAt_c1 : GoodIn wsX12_meeting (((wsX12_meetsAt).drop 40).take 40) := goodIn_r _ [48, 49, 50, 51, 52, 53, 54, 55, 56, 57, 58, 59, 60, 61, 62, 63, 64, 65, 66, 67, 68, 69, 70, 71, 72, 73, 74, 75, 76, 77, 78, 79, 80, 81, 82, 83, 84, 85, 86, 87] (by decide +kernel) (by decide +kernel)
set_option maxRecDepth 20000 in
theorem ggX12_meeting_X12_meetsAt_c2 : GoodIn wsX12_meeting ((((wsX12_meetsAt).drop 40).drop 40).take 40) := goodIn_r _ [88, 89, 90, 91, 92, 93, 94, 95, 96, 97, 98, 99, 100, 101, 102, 103, 104, 105, 106, 107, 108, 109, 110, 111, 112, 113, 114, 115, 116, 117, 118, 119, 120, 121, 122, 123, 124, 125, 126, 127] (by decide +kernel) (by decide +kernel)
set_option maxRecDepth 20000 in
theorem ggX12_meeting_X12_meetsAt_c3 : GoodIn wsX12_meeting ((((wsX12_meetsAt).drop 40).drop 40).drop 40) := goodIn_r _ [128, 129, 130, 131, 132, 133, 134, 135, 136, 137, 138, 139, 140, 141, 142, 143, 144] (by decide +kernel) (by decide +kernel)
set_option maxRecDepth 20000 in
theorem ggX12_meeting_X12_meetsAt : GoodIn wsX12_meeting wsX12_meetsAt := (zgi (wsX12_meetsAt) 40 ggX12_meeting_X12_meetsAt_c0 (zgi ((wsX12_meetsAt).drop 40) 40 ggX12_meeting_X12_meetsAt_c1 (zgi (((wsX12_meetsAt).drop 40).drop 40) 40 ggX12_meeting_X12_meetsAt_c2 ggX12_meeting_X12_meetsAt_c3)))
set_option maxRecDepth 20000 in
theorem gX12_meeting_X12_meetsAt : GoodIn wsX12_meeting (wsV RX12 435 RX12 yX12_meetsAt wsX12_meetsAt) := goodIn_app (goodIn_of _ (by decide +kernel)) ggX12_meeting_X12_meetsAt
set_option maxRecDepth 20000 in
theorem ggX12_speakers_X12_isPerson_c0 : GoodIn wsX12_speakers ((wsX12_isPerson).take 40) := goodIn_r _ [8, 9, 57, 58, 59, 60, 61, 62, 63, 64, 65, 66, 67, 68, 69, 70, 71, 72, 73, 74, 75, 76, 77, 78, 79, 80, 81, 82, 83, 84, 85, 86, 87, 88, 89, 90, 91, 92, 93, 94] (by decide +kernel) (by decide +kernel)
set_option maxRecDepth 20000 in
theorem ggX12_speakers_X12_isPerson_c1 : GoodIn wsX12_speakers ((wsX12_isPerson).drop 40) := goodIn_r _ [95, 96, 97, 98, 99, 100, 101, 102, 103, 104, 105, 106, 107, 108, 109, 110, 111, 112, 113] (by decide +kernel) (by decide +kernel)
set_option maxRecDepth 20000 in
theorem ggX12_speakers_X12_isPerson : GoodIn wsX12_speakers wsX12_isPerson := (zgi (wsX12_isPerson) 40 ggX12_speakers_X12_isPerson_c0 ggX12_speakers_X12_isPerson_c1)
set_option maxRecDepth 20000 in
theorem gX12_speakers_X12_isPerson : GoodIn wsX12_speakers (wsV RX12 370 RX12 yX12_isPerson wsX12_isPerson) := goodIn_app (goodIn_of _ (by decide +kernel)) ggX12_speakers_X12_isPerson
set_option maxRecDepth 20000 in
theorem ggX12_speakers_X12_isTown_c0 : GoodIn wsX12_speakers ((wsX12_isTown).take 40) := goodIn_r _ [13, 9, 57, 58, 59, 60, 61, 62, 63, 64, 65, 66, 67, 68, 69, 70, 71, 72, 73, 74, 75, 76, 77, 78, 79, 80, 81, 82, 83, 84, 85, 86, 87, 88, 89, 90, 91, 92, 93, 94] (by decide +kernel) (by decide +kernel)
set_option maxRecDepth 20000 in
theorem ggX12_speakers_X12_isTown_c1 : GoodIn wsX12_speakers ((wsX12_isTown).drop 40) := goodIn_r _ [95, 96, 97, 98, 99, 100, 101, 102, 103, 104, 105, 106, 107, 108, 109, 110, 111, 112, 113] (by decide +kernel) (by decide +kernel)
set_option maxRecDepth 20000 in
theorem ggX12_speakers_X12_isTown : GoodIn wsX12_speakers wsX12_isTown := (zgi (wsX12_isTown) 40 ggX12_speakers_X12_isTown_c0 ggX12_speakers_X12_isTown_c1)
set_option maxRecDepth 20000 in
theorem gX12_speakers_X12_isTown : GoodIn wsX12_speakers (wsV RX12 373 RX12 yX12_isTown wsX12_isTown) := goodIn_app (goodIn_of _ (by decide +kernel)) ggX12_speakers_X12_isTown
set_option maxRecDepth 20000 in
theorem ggX12_speakers_X12_speakersAt_c0 : GoodIn wsX12_speakers ((wsX12_speakersAt).take 40) := goodIn_r _ [17, 9, 2, 3, 18, 19, 20, 7, 21, 22, 23, 24, 25, 26, 27, 28, 29, 30, 31, 32, 33, 34, 35, 36, 37, 38, 39, 40, 41, 42, 43, 44, 45, 46, 47, 48, 49, 50, 51, 52] (by decide +kernel) (by decide +kernel)
set_option maxRecDepth 20000 in
theorem ggX12_speakers_X12_speakersAt_c1 : GoodIn wsX12_speakers (((wsX12_speakersAt).drop 40).take 40) := goodIn_r _ [53, 54, 55, 56, 57, 58, 59, 60, 61, 62, 63, 64, 65, 66, 67, 68, 69, 70, 71, 72, 73, 74, 75, 76, 77, 78, 79, 80, 81, 82, 83, 84, 85, 86, 87, 88, 89, 90, 91, 92] (by decide +kernel) (by decide +kernel)
set_option maxRecDepth 20000 in
theorem ggX12_speakers_X12_speakersAt_c2 : GoodIn wsX12_speakers (((wsX12_speakersAt).drop 40).drop 40) := goodIn_r _ [93, 94, 95, 96, 97, 98, 99, 100, 101, 102, 103, 104, 105, 106, 107, 108, 109, 110, 111, 112, 113] (by decide +kernel) (by decide +kernel)
set_option maxRecDepth 20000 in
theorem ggX12_speakers_X12_speakersAt : GoodIn wsX12_speakers wsX12_speakersAt := (zgi (wsX12_speakersAt) 40 ggX12_speakers_X12_speakersAt_c0 (zgi ((wsX12_speakersAt).drop 40) 40 ggX12_speakers_X12_speakersAt_c1 ggX12_speakers_X12_speakersAt_c2))
set_option maxRecDepth 20000 in
theorem gX12_speakers_X12_speakersAt : GoodIn wsX12_speakers (wsV RX12 358 RX12 yX12_speakersAt wsX12_speakersAt) := goodIn_app (goodIn_of _ (by decide +kernel)) ggX12_speakers_X12_speakersAt
set_option maxRecDepth 20000 in
theorem ggX12_strict_X12_letThrough_c0 : GoodIn wsX12_strict ((wsX12_letThrough).take 40) := goodIn_r _ [7, 2, 8, 9, 10, 11, 6, 12, 13, 14, 15, 16, 17, 18, 19, 20, 21, 22, 23, 24, 25, 26, 27, 28, 29, 30, 31, 32, 33, 34, 35, 36, 37, 38, 39, 40, 41, 42, 43, 44] (by decide +kernel) (by decide +kernel)
set_option maxRecDepth 20000 in
theorem ggX12_strict_X12_letThrough_c1 : GoodIn wsX12_strict (((wsX12_letThrough).drop 40).take 40) := goodIn_r _ [45, 46, 47, 48, 49, 50, 51, 52, 53, 54, 55, 56, 60, 61, 62, 63, 64, 65, 66, 67, 68, 69, 70, 71, 72, 73, 74, 75, 76, 77, 78, 79, 80, 81, 82, 83, 84, 85, 86, 87] (by decide +kernel) (by decide +kernel)
set_option maxRecDepth 20000 in
theorem ggX12_strict_X12_letThrough_c2 : GoodIn wsX12_strict (((wsX12_letThrough).drop 40).drop 40) := goodIn_r _ [88, 89, 90, 91, 92, 93, 94, 95, 96, 97, 98, 99, 100, 101, 102, 103, 104, 105, 106, 107, 108, 109, 110, 111, 112, 113, 114, 115, 116] (by decide +kernel) (by decide +kernel)
set_option maxRecDepth 20000 in
theorem ggX12_strict_X12_letThrough : GoodIn wsX12_strict wsX12_letThrough := (zgi (wsX12_letThrough) 40 ggX12_strict_X12_letThrough_c0 (zgi ((wsX12_letThrough).drop 40) 40 ggX12_strict_X12_letThrough_c1 ggX12_strict_X12_letThrough_c2))
set_option maxRecDepth 20000 in
theorem gX12_strict_X12_letThrough : GoodIn wsX12_strict (wsV RX12 376 RX12 yX12_letThrough wsX12_letThrough) := goodIn_app (goodIn_of _ (by decide +kernel)) ggX12_strict_X12_letThrough
set_option maxRecDepth 20000 in
theorem ggX12_strict_X12_bits : GoodIn wsX12_strict wsX12_bits := goodIn_r _ [59] (by decide +kernel) (by decide +kernel)
set_option maxRecDepth 20000 in
theorem gX12_strict_X12_bits : GoodIn wsX12_strict (va_wsS RX12 438 yX12_bits wsX12_bits) := goodIn_app (goodIn_of _ (by decide +kernel)) ggX12_strict_X12_bits
set_option maxRecDepth 20000 in
theorem ggX12_alike_X12_letThrough_c0 : GoodIn wsX12_alike ((wsX12_letThrough).take 40) := goodIn_r _ [7, 2, 8, 9, 10, 11, 6, 12, 13, 14, 15, 16, 17, 18, 19, 20, 21, 22, 23, 24, 25, 26, 27, 28, 29, 30, 31, 32, 33, 34, 35, 36, 37, 38, 39, 40, 41, 42, 43, 44] (by decide +kernel) (by decide +kernel)
set_option maxRecDepth 20000 in
theorem ggX12_alike_X12_letThrough_c1 : GoodIn wsX12_alike (((wsX12_letThrough).drop 40).take 40) := goodIn_r _ [45, 46, 47, 48, 49, 50, 51, 52, 53, 54, 55, 56, 57, 58, 59, 60, 61, 62, 63, 64, 65, 66, 67, 68, 69, 70, 71, 72, 73, 74, 75, 76, 77, 78, 79, 80, 81, 82, 83, 84] (by decide +kernel) (by decide +kernel)
set_option maxRecDepth 20000 in
theorem ggX12_alike_X12_letThrough_c2 : GoodIn wsX12_alike (((wsX12_letThrough).drop 40).drop 40) := goodIn_r _ [85, 86, 87, 88, 89, 90, 91, 92, 93, 94, 95, 96, 97, 98, 99, 100, 101, 102, 103, 104, 105, 106, 107, 108, 109, 110, 111, 112, 113] (by decide +kernel) (by decide +kernel)
set_option maxRecDepth 20000 in
theorem ggX12_alike_X12_letThrough : GoodIn wsX12_alike wsX12_letThrough := (zgi (wsX12_letThrough) 40 ggX12_alike_X12_letThrough_c0 (zgi ((wsX12_letThrough).drop 40) 40 ggX12_alike_X12_letThrough_c1 ggX12_alike_X12_letThrough_c2))
set_option maxRecDepth 20000 in
theorem gX12_alike_X12_letThrough : GoodIn wsX12_alike (wsV RX12 376 RX12 yX12_letThrough wsX12_letThrough) := goodIn_app (goodIn_of _ (by decide +kernel)) ggX12_alike_X12_letThrough
set_option maxRecDepth 20000 in
theorem ggX12_see_X12_isTown_c0 : GoodIn wsX12_see ((wsX12_isTown).take 40) := goodIn_r _ [9, 10, 11, 12, 13, 14, 15, 16, 17, 18, 19, 20, 21, 22, 23, 24, 25, 26, 27, 28, 29, 30, 31, 32, 33, 34, 35, 36, 37, 38, 39, 40, 41, 42, 43, 44, 45, 46, 47, 48] (by decide +kernel) (by decide +kernel)
set_option maxRecDepth 20000 in
theorem ggX12_see_X12_isTown_c1 : GoodIn wsX12_see ((wsX12_isTown).drop 40) := goodIn_r _ [49, 50, 51, 52, 53, 54, 55, 56, 57, 58, 59, 60, 61, 62, 63, 64, 65, 66, 67] (by decide +kernel) (by decide +kernel)
set_option maxRecDepth 20000 in
theorem ggX12_see_X12_isTown : GoodIn wsX12_see wsX12_isTown := (zgi (wsX12_isTown) 40 ggX12_see_X12_isTown_c0 ggX12_see_X12_isTown_c1)
set_option maxRecDepth 20000 in
theorem gX12_see_X12_isTown : GoodIn wsX12_see (wsV RX12 373 RX12 yX12_isTown wsX12_isTown) := goodIn_app (goodIn_of _ (by decide +kernel)) ggX12_see_X12_isTown
set_option maxRecDepth 20000 in
theorem ggX12_isAsSeen_X12_readsBeard_c0 : GoodIn wsX12_isAsSeen ((wsX12_readsBeard).take 40) := goodIn_r _ [9, 10, 11, 12, 13, 14, 15, 16, 8, 17, 18, 19, 20, 21, 22, 23, 24, 25, 26, 27, 28, 29, 30, 31, 32, 33, 34, 35, 36, 37, 38, 39, 40, 41, 42, 43, 44, 45, 46, 47] (by decide +kernel) (by decide +kernel)
set_option maxRecDepth 20000 in
theorem ggX12_isAsSeen_X12_readsBeard_c1 : GoodIn wsX12_isAsSeen (((wsX12_readsBeard).drop 40).take 40) := goodIn_r _ [48, 49, 50, 51, 52, 53, 54, 55, 56, 57, 58, 59, 60, 61, 62, 63, 64, 65, 66, 67, 68, 69, 70, 71, 72, 73, 74, 75, 76, 77, 78, 79, 80, 81, 82, 83, 84, 85, 86, 87] (by decide +kernel) (by decide +kernel)
set_option maxRecDepth 20000 in
theorem ggX12_isAsSeen_X12_readsBeard_c2 : GoodIn wsX12_isAsSeen (((wsX12_readsBeard).drop 40).drop 40) := goodIn_r _ [88, 89, 90, 91, 92, 93, 94, 95, 96] (by decide +kernel) (by decide +kernel)
set_option maxRecDepth 20000 in
theorem ggX12_isAsSeen_X12_readsBeard : GoodIn wsX12_isAsSeen wsX12_readsBeard := (zgi (wsX12_readsBeard) 40 ggX12_isAsSeen_X12_readsBeard_c0 (zgi ((wsX12_readsBeard).drop 40) 40 ggX12_isAsSeen_X12_readsBeard_c1 ggX12_isAsSeen_X12_readsBeard_c2))
set_option maxRecDepth 20000 in
theorem gX12_isAsSeen_X12_readsBeard : GoodIn wsX12_isAsSeen (wsV RX12 352 RX12 yX12_readsBeard wsX12_readsBeard) := goodIn_app (goodIn_of _ (by decide +kernel)) ggX12_isAsSeen_X12_readsBeard
set_option maxRecDepth 20000 in
theorem ggX12_lengths_X12_within : GoodIn wsX12_lengths wsX12_within := goodIn_r _ [5] (by decide +kernel) (by decide +kernel)
set_option maxRecDepth 20000 in
theorem gX12_lengths_X12_within : GoodIn wsX12_lengths (va_wsS RX12 252 yX12_within wsX12_within) := goodIn_app (goodIn_of _ (by decide +kernel)) ggX12_lengths_X12_within
set_option maxRecDepth 20000 in
theorem ggX12_lengths_X12_isAsSeen_c0 : GoodIn wsX12_lengths ((wsX12_isAsSeen).take 40) := goodIn_r _ [9, 10, 11, 12, 13, 14, 15, 16, 4, 17, 18, 19, 20, 21, 22, 23, 24, 25, 26, 27, 28, 29, 30, 31, 32, 33, 34, 35, 36, 37, 38, 39, 40, 41, 42, 43, 44, 45, 46, 47] (by decide +kernel) (by decide +kernel)
set_option maxRecDepth 20000 in
theorem ggX12_lengths_X12_isAsSeen_c1 : GoodIn wsX12_lengths (((wsX12_isAsSeen).drop 40).take 40) := goodIn_r _ [48, 49, 50, 51, 52, 53, 54, 55, 56, 57, 58, 59, 60, 61, 62, 63, 64, 65, 66, 67, 68, 69, 70, 71, 72, 73, 74, 75, 76, 77, 78, 79, 80, 81, 82, 83, 84, 85, 86, 87] (by decide +kernel) (by decide +kernel)
set_option maxRecDepth 20000 in
theorem ggX12_lengths_X12_isAsSeen_c2 : GoodIn wsX12_lengths (((wsX12_isAsSeen).drop 40).drop 40) := goodIn_r _ [88, 89, 90, 91, 92, 93, 94, 95, 96, 97, 98, 99, 100, 101, 102, 103, 104] (by decide +kernel) (by decide +kernel)
set_option maxRecDepth 20000 in
theorem ggX12_lengths_X12_isAsSeen : GoodIn wsX12_lengths wsX12_isAsSeen := (zgi (wsX12_isAsSeen) 40 ggX12_lengths_X12_isAsSeen_c0 (zgi ((wsX12_isAsSeen).drop 40) 40 ggX12_lengths_X12_isAsSeen_c1 ggX12_lengths_X12_isAsSeen_c2))
set_option maxRecDepth 20000 in
theorem gX12_lengths_X12_isAsSeen : GoodIn wsX12_lengths (wsV RX12 441 RX12 yX12_isAsSeen wsX12_isAsSeen) := goodIn_app (goodIn_of _ (by decide +kernel)) ggX12_lengths_X12_isAsSeen
set_option maxRecDepth 20000 in
theorem ggX12_ask_X12_lengths_c0 : GoodIn wsX12_ask ((wsX12_lengths).take 40) := goodIn_r _ [12, 1, 13, 14, 11, 15, 16, 17, 18, 19, 20, 3, 21, 22, 23, 24, 25, 26, 27, 28, 29, 30, 31, 32, 33, 34, 35, 36, 37, 38, 39, 40, 41, 42, 43, 44, 45, 46, 47, 48] (by decide +kernel) (by decide +kernel)
set_option maxRecDepth 20000 in
theorem ggX12_ask_X12_lengths_c1 : GoodIn wsX12_ask (((wsX12_lengths).drop 40).take 40) := goodIn_r _ [49, 50, 51, 52, 53, 54, 55, 56, 57, 58, 59, 60, 61, 62, 63, 64, 65, 66, 67, 68, 69, 70, 71, 72, 73, 74, 75, 76, 77, 78, 79, 80, 81, 82, 83, 84, 85, 86, 87, 88] (by decide +kernel) (by decide +kernel)
set_option maxRecDepth 20000 in
theorem ggX12_ask_X12_lengths_c2 : GoodIn wsX12_ask (((wsX12_lengths).drop 40).drop 40) := goodIn_r _ [89, 90, 91, 92, 93, 94, 95, 96, 97, 98, 99, 100, 101, 102, 103, 104, 105, 106, 107, 108, 109, 110, 111, 112, 113] (by decide +kernel) (by decide +kernel)
set_option maxRecDepth 20000 in
theorem ggX12_ask_X12_lengths : GoodIn wsX12_ask wsX12_lengths := (zgi (wsX12_lengths) 40 ggX12_ask_X12_lengths_c0 (zgi ((wsX12_lengths).drop 40) 40 ggX12_ask_X12_lengths_c1 ggX12_ask_X12_lengths_c2))
set_option maxRecDepth 20000 in
theorem gX12_ask_X12_lengths : GoodIn wsX12_ask (wsV RX12 444 RX12 yX12_lengths wsX12_lengths) := goodIn_app (goodIn_of _ (by decide +kernel)) ggX12_ask_X12_lengths
set_option maxRecDepth 20000 in
theorem ggX12_ask_X12_isAsSeen_c0 : GoodIn wsX12_ask ((wsX12_isAsSeen).take 40) := goodIn_r _ [19, 20, 3, 21, 22, 23, 24, 25, 11, 26, 27, 28, 29, 30, 31, 32, 33, 34, 35, 36, 37, 38, 39, 40, 41, 42, 43, 44, 45, 46, 47, 48, 49, 50, 51, 52, 53, 54, 55, 56] (by decide +kernel) (by decide +kernel)
set_option maxRecDepth 20000 in
theorem ggX12_ask_X12_isAsSeen_c1 : GoodIn wsX12_ask (((wsX12_isAsSeen).drop 40).take 40) := goodIn_r _ [57, 58, 59, 60, 61, 62, 63, 64, 65, 66, 67, 68, 69, 70, 71, 72, 73, 74, 75, 76, 77, 78, 79, 80, 81, 82, 83, 84, 85, 86, 87, 88, 89, 90, 91, 92, 93, 94, 95, 96] (by decide +kernel) (by decide +kernel)
set_option maxRecDepth 20000 in
theorem ggX12_ask_X12_isAsSeen_c2 : GoodIn wsX12_ask (((wsX12_isAsSeen).drop 40).drop 40) := goodIn_r _ [97, 98, 99, 100, 101, 102, 103, 104, 105, 106, 107, 108, 109, 110, 111, 112, 113] (by decide +kernel) (by decide +kernel)
set_option maxRecDepth 20000 in
theorem ggX12_ask_X12_isAsSeen : GoodIn wsX12_ask wsX12_isAsSeen := (zgi (wsX12_isAsSeen) 40 ggX12_ask_X12_isAsSeen_c0 (zgi ((wsX12_isAsSeen).drop 40) 40 ggX12_ask_X12_isAsSeen_c1 ggX12_ask_X12_isAsSeen_c2))
set_option maxRecDepth 20000 in
theorem gX12_ask_X12_isAsSeen : GoodIn wsX12_ask (wsV RX12 441 RX12 yX12_isAsSeen wsX12_isAsSeen) := goodIn_app (goodIn_of _ (by decide +kernel)) ggX12_ask_X12_isAsSeen
set_option maxRecDepth 20000 in
theorem ggX12_ask_X12_readsBeard_c0 : GoodIn wsX12_ask ((wsX12_readsBeard).take 40) := goodIn_r _ [26, 27, 28, 29, 30, 31, 32, 33, 11, 34, 35, 36, 37, 38, 39, 40, 41, 42, 43, 44, 45, 46, 47, 48, 49, 50, 51, 52, 53, 54, 55, 56, 57, 58, 59, 60, 61, 62, 63, 64] (by decide +kernel) (by decide +kernel)
set_option maxRecDepth 20000 in
theorem ggX12_ask_X12_readsBeard_c1 : GoodIn wsX12_ask (((wsX12_readsBeard).drop 40).take 40) := goodIn_r _ [65, 66, 67, 68, 69, 70, 71, 72, 73, 74, 75, 76, 77, 78, 79, 80, 81, 82, 83, 84, 85, 86, 87, 88, 89, 90, 91, 92, 93, 94, 95, 96, 97, 98, 99, 100, 101, 102, 103, 104] (by decide +kernel) (by decide +kernel)
set_option maxRecDepth 20000 in
theorem ggX12_ask_X12_readsBeard_c2 : GoodIn wsX12_ask (((wsX12_readsBeard).drop 40).drop 40) := goodIn_r _ [105, 106, 107, 108, 109, 110, 111, 112, 113] (by decide +kernel) (by decide +kernel)
set_option maxRecDepth 20000 in
theorem ggX12_ask_X12_readsBeard : GoodIn wsX12_ask wsX12_readsBeard := (zgi (wsX12_readsBeard) 40 ggX12_ask_X12_readsBeard_c0 (zgi ((wsX12_readsBeard).drop 40) 40 ggX12_ask_X12_readsBeard_c1 ggX12_ask_X12_readsBeard_c2))
set_option maxRecDepth 20000 in
theorem gX12_ask_X12_readsBeard : GoodIn wsX12_ask (wsV RX12 352 RX12 yX12_readsBeard wsX12_readsBeard) := goodIn_app (goodIn_of _ (by decide +kernel)) ggX12_ask_X12_readsBeard
set_option maxRecDepth 20000 in
theorem ggX12_stricter_X12_isTown_c0 : GoodIn wsX12_stricter ((wsX12_isTown).take 40) := goodIn_r _ [9, 3, 69, 70, 71, 72, 73, 74, 75, 76, 77, 78, 79, 80, 81, 82, 83, 84, 85, 86, 87, 88, 89, 90, 91, 92, 93, 94, 95, 96, 97, 98, 99, 100, 101, 102, 103, 104, 105, 106] (by decide +kernel) (by decide +kernel)
set_option maxRecDepth 20000 in
theorem ggX12_stricter_X12_isTown_c1 : GoodIn wsX12_stricter ((wsX12_isTown).drop 40) := goodIn_r _ [107, 108, 109, 110, 111, 112, 113, 114, 115, 116, 117, 118, 119, 120, 121, 122, 123, 124, 125] (by decide +kernel) (by decide +kernel)
set_option maxRecDepth 20000 in
theorem ggX12_stricter_X12_isTown : GoodIn wsX12_stricter wsX12_isTown := (zgi (wsX12_isTown) 40 ggX12_stricter_X12_isTown_c0 ggX12_stricter_X12_isTown_c1)
set_option maxRecDepth 20000 in
theorem gX12_stricter_X12_isTown : GoodIn wsX12_stricter (wsV RX12 373 RX12 yX12_isTown wsX12_isTown) := goodIn_app (goodIn_of _ (by decide +kernel)) ggX12_stricter_X12_isTown
set_option maxRecDepth 20000 in
theorem ggX12_stricter_X12_within : GoodIn wsX12_stricter wsX12_within := goodIn_r _ [12] (by decide +kernel) (by decide +kernel)
set_option maxRecDepth 20000 in
theorem gX12_stricter_X12_within : GoodIn wsX12_stricter (va_wsS RX12 252 yX12_within wsX12_within) := goodIn_app (goodIn_of _ (by decide +kernel)) ggX12_stricter_X12_within
set_option maxRecDepth 20000 in
theorem ggX12_stricter_X12_reachFrom_c0 : GoodIn wsX12_stricter ((wsX12_reachFrom).take 40) := goodIn_r _ [16, 17, 18, 19, 8, 20, 3, 21, 22, 23, 24, 25, 26, 27, 28, 29, 30, 4, 31, 32, 33, 34, 35, 2, 36, 37, 38, 39, 40, 41, 42, 43, 44, 45, 46, 47, 48, 49, 50, 51] (by decide +kernel) (by decide +kernel)
set_option maxRecDepth 20000 in
theorem ggX12_stricter_X12_reachFrom_c1 : GoodIn wsX12_stricter (((wsX12_reachFrom).drop 40).take 40) := goodIn_r _ [52, 53, 54, 55, 56, 57, 58, 59, 60, 61, 62, 63, 64, 65, 66, 67, 68, 69, 70, 71, 72, 73, 74, 75, 76, 77, 78, 79, 80, 81, 82, 83, 84, 85, 86, 87, 88, 89, 90, 91] (by decide +kernel) (by decide +kernel)
set_option maxRecDepth 20000 in
theorem ggX12_stricter_X12_reachFrom_c2 : GoodIn wsX12_stricter (((wsX12_reachFrom).drop 40).drop 40) := goodIn_r _ [92, 93, 94, 95, 96, 97, 98, 99, 100, 101, 102, 103, 104, 105, 106, 107, 108, 109, 110, 111, 112, 113, 114, 115, 116, 117, 118, 119, 120, 121, 122, 123, 124, 125] (by decide +kernel) (by decide +kernel)
set_option maxRecDepth 20000 in
theorem ggX12_stricter_X12_reachFrom : GoodIn wsX12_stricter wsX12_reachFrom := (zgi (wsX12_reachFrom) 40 ggX12_stricter_X12_reachFrom_c0 (zgi ((wsX12_reachFrom).drop 40) 40 ggX12_stricter_X12_reachFrom_c1 ggX12_stricter_X12_reachFrom_c2))
set_option maxRecDepth 20000 in
theorem gX12_stricter_X12_reachFrom : GoodIn wsX12_stricter (wsV RX12 419 RX12 yX12_reachFrom wsX12_reachFrom) := goodIn_app (goodIn_of _ (by decide +kernel)) ggX12_stricter_X12_reachFrom
set_option maxRecDepth 20000 in
theorem ggX12_rests_X12_within : GoodIn wsX12_rests wsX12_within := goodIn_r _ [5] (by decide +kernel) (by decide +kernel)
set_option maxRecDepth 20000 in
theorem gX12_rests_X12_within : GoodIn wsX12_rests (va_wsS RX12 252 yX12_within wsX12_within) := goodIn_app (goodIn_of _ (by decide +kernel)) ggX12_rests_X12_within
