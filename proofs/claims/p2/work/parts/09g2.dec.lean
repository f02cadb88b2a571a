set_option maxRecDepth 20000 in
theorem ggX12_readsRoad_X12_fails_c0 : GoodIn wsX12_readsRoad ((wsX12_fails).take 40) := goodIn_r _ [53, 11, 54, 69, 70, 71, 72, 73, 74, 75, 76, 77, 78, 79, 80, 81, 82, 83, 84, 85, 86, 87, 88, 89, 90, 91, 92, 93, 94, 95, 96, 97, 98, 99, 100, 101, 102, 103, 104, 105] (by decide +kernel) (by decide +kernel)
set_option maxRecDepth 20000 in
theorem ggX12_readsRoad_X12_fails_c1 : GoodIn wsX12_readsRoad ((wsX12_fails).drop 40) := goodIn_r _ [106, 107, 108, 109, 110, 111, 112, 113, 114, 115, 116, 117, 118, 119, 120, 121, 122, 123, 124, 125] (by decide +kernel) (by decide +kernel)
set_option maxRecDepth 20000 in
theorem ggX12_readsRoad_X12_fails : GoodIn wsX12_readsRoad wsX12_fails := (zgi (wsX12_fails) 40 ggX12_readsRoad_X12_fails_c0 ggX12_readsRoad_X12_fails_c1)
set_option maxRecDepth 20000 in
theorem gX12_readsRoad_X12_fails : GoodIn wsX12_readsRoad (wsV RX12 193 RX12 yX12_fails wsX12_fails) := goodIn_app (goodIn_of _ (by decide +kernel)) ggX12_readsRoad_X12_fails
set_option maxRecDepth 20000 in
theorem ggX12_readsRoad_X12_closes_c0 : GoodIn wsX12_readsRoad ((wsX12_closes).take 40) := goodIn_r _ [64, 65, 66, 67, 6, 68, 14, 10, 11, 50, 51, 52, 53, 54, 3, 4, 5, 7, 8, 9, 12, 13, 15, 16, 17, 18, 19, 20, 69, 70, 71, 72, 73, 74, 75, 76, 77, 78, 79, 80] (by decide +kernel) (by decide +kernel)
set_option maxRecDepth 20000 in
theorem ggX12_readsRoad_X12_closes_c1 : GoodIn wsX12_readsRoad (((wsX12_closes).drop 40).take 40) := goodIn_r _ [81, 82, 83, 84, 85, 86, 87, 88, 89, 90, 91, 92, 93, 94, 95, 96, 97, 98, 99, 100, 101, 102, 103, 104, 105, 106, 107, 108, 109, 110, 111, 112, 113, 114, 115, 116, 117, 118, 119, 120] (by decide +kernel) (by decide +kernel)
set_option maxRecDepth 20000 in
theorem ggX12_readsRoad_X12_closes_c2 : GoodIn wsX12_readsRoad (((wsX12_closes).drop 40).drop 40) := goodIn_r _ [121, 122, 123, 124, 125] (by decide +kernel) (by decide +kernel)
set_option maxRecDepth 20000 in
theorem ggX12_readsRoad_X12_closes : GoodIn wsX12_readsRoad wsX12_closes := (zgi (wsX12_closes) 40 ggX12_readsRoad_X12_closes_c0 (zgi ((wsX12_closes).drop 40) 40 ggX12_readsRoad_X12_closes_c1 ggX12_readsRoad_X12_closes_c2))
set_option maxRecDepth 20000 in
theorem gX12_readsRoad_X12_closes : GoodIn wsX12_readsRoad (wsV RX12 286 RX12 yX12_closes wsX12_closes) := goodIn_app (goodIn_of _ (by decide +kernel)) ggX12_readsRoad_X12_closes
set_option maxRecDepth 20000 in
theorem ggX12_readsPerson_X12_fails_c0 : GoodIn wsX12_readsPerson ((wsX12_fails).take 40) := goodIn_r _ [20, 21, 22, 101, 102, 103, 104, 105, 106, 107, 108, 109, 110, 111, 112, 113, 114, 115, 116, 117, 118, 119, 120, 121, 122, 123, 124, 125, 126, 127, 128, 129, 130, 131, 132, 133, 134, 135, 136, 137] (by decide +kernel) (by decide +kernel)
set_option maxRecDepth 20000 in
theorem ggX12_readsPerson_X12_fails_c1 : GoodIn wsX12_readsPerson ((wsX12_fails).drop 40) := goodIn_r _ [138, 139, 140, 141, 142, 143, 144, 145, 146, 147, 148, 149, 150, 151, 152, 153, 154, 155, 156, 157] (by decide +kernel) (by decide +kernel)
set_option maxRecDepth 20000 in
theorem ggX12_readsPerson_X12_fails : GoodIn wsX12_readsPerson wsX12_fails := (zgi (wsX12_fails) 40 ggX12_readsPerson_X12_fails_c0 ggX12_readsPerson_X12_fails_c1)
set_option maxRecDepth 20000 in
theorem gX12_readsPerson_X12_fails : GoodIn wsX12_readsPerson (wsV RX12 193 RX12 yX12_fails wsX12_fails) := goodIn_app (goodIn_of _ (by decide +kernel)) ggX12_readsPerson_X12_fails
set_option maxRecDepth 20000 in
theorem ggX12_readsPerson_X12_nextToken_c0 : GoodIn wsX12_readsPerson ((wsX12_nextToken).take 40) := goodIn_r _ [26, 27, 28, 29, 21, 30, 31, 32, 33, 34, 35, 36, 37, 19, 38, 101, 102, 103, 104, 105, 106, 107, 108, 109, 110, 111, 112, 113, 114, 115, 116, 117, 118, 119, 120, 121, 122, 123, 124, 125] (by decide +kernel) (by decide +kernel)
set_option maxRecDepth 20000 in
theorem ggX12_readsPerson_X12_nextToken_c1 : GoodIn wsX12_readsPerson ((wsX12_nextToken).drop 40) := goodIn_r _ [126, 127, 128, 129, 130, 131, 132, 133, 134, 135, 136, 137, 138, 139, 140, 141, 142, 143, 144, 145, 146, 147, 148, 149, 150, 151, 152, 153, 154, 155, 156, 157] (by decide +kernel) (by decide +kernel)
set_option maxRecDepth 20000 in
theorem ggX12_readsPerson_X12_nextToken : GoodIn wsX12_readsPerson wsX12_nextToken := (zgi (wsX12_nextToken) 40 ggX12_readsPerson_X12_nextToken_c0 ggX12_readsPerson_X12_nextToken_c1)
set_option maxRecDepth 20000 in
theorem gX12_readsPerson_X12_nextToken : GoodIn wsX12_readsPerson (wsV RX12 200 RX12 yX12_nextToken wsX12_nextToken) := goodIn_app (goodIn_of _ (by decide +kernel)) ggX12_readsPerson_X12_nextToken
set_option maxRecDepth 20000 in
theorem ggX12_readsPerson_X12_needsNew_c0 : GoodIn wsX12_readsPerson ((wsX12_needsNew).take 40) := goodIn_r _ [42, 30, 2, 43, 44, 45, 19, 46, 32, 47, 48, 49, 50, 8, 11, 13, 51, 52, 53, 54, 55, 56, 57, 4, 5, 6, 7, 58, 59, 60, 16, 17, 18, 20, 21, 22, 61, 62, 63, 64] (by decide +kernel) (by decide +kernel)
set_option maxRecDepth 20000 in
theorem ggX12_readsPerson_X12_needsNew_c1 : GoodIn wsX12_readsPerson (((wsX12_needsNew).drop 40).take 40) := goodIn_r _ [1, 65, 66, 67, 68, 69, 15, 23, 24, 25, 26, 27, 28, 29, 31, 33, 34, 35, 36, 37, 38, 101, 102, 103, 104, 105, 106, 107, 108, 109, 110, 111, 112, 113, 114, 115, 116, 117, 118, 119] (by decide +kernel) (by decide +kernel)
set_option maxRecDepth 20000 in
theorem ggX12_readsPerson_X12_needsNew_c2 : GoodIn wsX12_readsPerson (((wsX12_needsNew).drop 40).drop 40) := goodIn_r _ [120, 121, 122, 123, 124, 125, 126, 127, 128, 129, 130, 131, 132, 133, 134, 135, 136, 137, 138, 139, 140, 141, 142, 143, 144, 145, 146, 147, 148, 149, 150, 151, 152, 153, 154, 155, 156, 157] (by decide +kernel) (by decide +kernel)
set_option maxRecDepth 20000 in
theorem ggX12_readsPerson_X12_needsNew : GoodIn wsX12_readsPerson wsX12_needsNew := (zgi (wsX12_needsNew) 40 ggX12_readsPerson_X12_needsNew_c0 (zgi ((wsX12_needsNew).drop 40) 40 ggX12_readsPerson_X12_needsNew_c1 ggX12_readsPerson_X12_needsNew_c2))
set_option maxRecDepth 20000 in
theorem gX12_readsPerson_X12_needsNew : GoodIn wsX12_readsPerson (wsV RX12 279 RX12 yX12_needsNew wsX12_needsNew) := goodIn_app (goodIn_of _ (by decide +kernel)) ggX12_readsPerson_X12_needsNew
set_option maxRecDepth 20000 in
theorem ggX12_readsPerson_X12_isWord_c0 : GoodIn wsX12_readsPerson ((wsX12_isWord).take 40) := goodIn_r _ [73, 32, 30, 101, 102, 103, 104, 105, 106, 107, 108, 109, 110, 111, 112, 113, 114, 115, 116, 117, 118, 119, 120, 121, 122, 123, 124, 125, 126, 127, 128, 129, 130, 131, 132, 133, 134, 135, 136, 137] (by decide +kernel) (by decide +kernel)
set_option maxRecDepth 20000 in
theorem ggX12_readsPerson_X12_isWord_c1 : GoodIn wsX12_readsPerson ((wsX12_isWord).drop 40) := goodIn_r _ [138, 139, 140, 141, 142, 143, 144, 145, 146, 147, 148, 149, 150, 151, 152, 153, 154, 155, 156, 157] (by decide +kernel) (by decide +kernel)
set_option maxRecDepth 20000 in
theorem ggX12_readsPerson_X12_isWord : GoodIn wsX12_readsPerson wsX12_isWord := (zgi (wsX12_isWord) 40 ggX12_readsPerson_X12_isWord_c0 ggX12_readsPerson_X12_isWord_c1)
set_option maxRecDepth 20000 in
theorem gX12_readsPerson_X12_isWord : GoodIn wsX12_readsPerson (wsV RX12 185 RX12 yX12_isWord wsX12_isWord) := goodIn_app (goodIn_of _ (by decide +kernel)) ggX12_readsPerson_X12_isWord
set_option maxRecDepth 20000 in
theorem ggX12_readsPerson_X12_needsWord_c0 : GoodIn wsX12_readsPerson ((wsX12_needsWord).take 40) := goodIn_r _ [77, 70, 71, 72, 19, 73, 32, 30, 16, 17, 18, 20, 21, 22, 23, 24, 25, 26, 27, 28, 29, 31, 33, 34, 35, 36, 37, 38, 101, 102, 103, 104, 105, 106, 107, 108, 109, 110, 111, 112] (by decide +kernel) (by decide +kernel)
set_option maxRecDepth 20000 in
theorem ggX12_readsPerson_X12_needsWord_c1 : GoodIn wsX12_readsPerson (((wsX12_needsWord).drop 40).take 40) := goodIn_r _ [113, 114, 115, 116, 117, 118, 119, 120, 121, 122, 123, 124, 125, 126, 127, 128, 129, 130, 131, 132, 133, 134, 135, 136, 137, 138, 139, 140, 141, 142, 143, 144, 145, 146, 147, 148, 149, 150, 151, 152] (by decide +kernel) (by decide +kernel)
set_option maxRecDepth 20000 in
theorem ggX12_readsPerson_X12_needsWord_c2 : GoodIn wsX12_readsPerson (((wsX12_needsWord).drop 40).drop 40) := goodIn_r _ [153, 154, 155, 156, 157] (by decide +kernel) (by decide +kernel)
set_option maxRecDepth 20000 in
theorem ggX12_readsPerson_X12_needsWord : GoodIn wsX12_readsPerson wsX12_needsWord := (zgi (wsX12_needsWord) 40 ggX12_readsPerson_X12_needsWord_c0 (zgi ((wsX12_needsWord).drop 40) 40 ggX12_readsPerson_X12_needsWord_c1 ggX12_readsPerson_X12_needsWord_c2))
set_option maxRecDepth 20000 in
theorem gX12_readsPerson_X12_needsWord : GoodIn wsX12_readsPerson (wsV RX12 259 RX12 yX12_needsWord wsX12_needsWord) := goodIn_app (goodIn_of _ (by decide +kernel)) ggX12_readsPerson_X12_needsWord
set_option maxRecDepth 20000 in
theorem ggX12_readsPerson_X12_needsTown_c0 : GoodIn wsX12_readsPerson ((wsX12_needsTown).take 40) := goodIn_r _ [81, 10, 43, 44, 45, 19, 46, 32, 30, 47, 48, 49, 50, 8, 11, 13, 51, 52, 53, 54, 55, 56, 57, 4, 5, 6, 7, 58, 59, 60, 16, 17, 18, 20, 21, 22, 61, 62, 63, 64] (by decide +kernel) (by decide +kernel)
set_option maxRecDepth 20000 in
theorem ggX12_readsPerson_X12_needsTown_c1 : GoodIn wsX12_readsPerson (((wsX12_needsTown).drop 40).take 40) := goodIn_r _ [1, 65, 101, 102, 103, 104, 105, 106, 107, 108, 109, 110, 111, 112, 113, 114, 115, 116, 117, 118, 119, 120, 121, 122, 123, 124, 125, 126, 127, 128, 129, 130, 131, 132, 133, 134, 135, 136, 137, 138] (by decide +kernel) (by decide +kernel)
set_option maxRecDepth 20000 in
theorem ggX12_readsPerson_X12_needsTown_c2 : GoodIn wsX12_readsPerson (((wsX12_needsTown).drop 40).drop 40) := goodIn_r _ [139, 140, 141, 142, 143, 144, 145, 146, 147, 148, 149, 150, 151, 152, 153, 154, 155, 156, 157] (by decide +kernel) (by decide +kernel)
set_option maxRecDepth 20000 in
theorem ggX12_readsPerson_X12_needsTown : GoodIn wsX12_readsPerson wsX12_needsTown := (zgi (wsX12_needsTown) 40 ggX12_readsPerson_X12_needsTown_c0 (zgi ((wsX12_needsTown).drop 40) 40 ggX12_readsPerson_X12_needsTown_c1 ggX12_readsPerson_X12_needsTown_c2))
set_option maxRecDepth 20000 in
theorem gX12_readsPerson_X12_needsTown : GoodIn wsX12_readsPerson (wsV RX12 289 RX12 yX12_needsTown wsX12_needsTown) := goodIn_app (goodIn_of _ (by decide +kernel)) ggX12_readsPerson_X12_needsTown
set_option maxRecDepth 20000 in
theorem ggX12_readsPerson_X12_needsBoth_c0 : GoodIn wsX12_readsPerson ((wsX12_needsBoth).take 40) := goodIn_r _ [85, 74, 75, 76, 19, 77, 70, 71, 72, 73, 32, 30, 16, 17, 18, 20, 21, 22, 23, 24, 25, 26, 27, 28, 29, 31, 33, 34, 35, 36, 37, 38, 86, 87, 88, 89, 10, 90, 91, 92] (by decide +kernel) (by decide +kernel)
set_option maxRecDepth 20000 in
theorem ggX12_readsPerson_X12_needsBoth_c1 : GoodIn wsX12_readsPerson (((wsX12_needsBoth).drop 40).take 40) := goodIn_r _ [101, 102, 103, 104, 105, 106, 107, 108, 109, 110, 111, 112, 113, 114, 115, 116, 117, 118, 119, 120, 121, 122, 123, 124, 125, 126, 127, 128, 129, 130, 131, 132, 133, 134, 135, 136, 137, 138, 139, 140] (by decide +kernel) (by decide +kernel)
set_option maxRecDepth 20000 in
theorem ggX12_readsPerson_X12_needsBoth_c2 : GoodIn wsX12_readsPerson (((wsX12_needsBoth).drop 40).drop 40) := goodIn_r _ [141, 142, 143, 144, 145, 146, 147, 148, 149, 150, 151, 152, 153, 154, 155, 156, 157] (by decide +kernel) (by decide +kernel)
set_option maxRecDepth 20000 in
theorem ggX12_readsPerson_X12_needsBoth : GoodIn wsX12_readsPerson wsX12_needsBoth := (zgi (wsX12_needsBoth) 40 ggX12_readsPerson_X12_needsBoth_c0 (zgi ((wsX12_needsBoth).drop 40) 40 ggX12_readsPerson_X12_needsBoth_c1 ggX12_readsPerson_X12_needsBoth_c2))
set_option maxRecDepth 20000 in
theorem gX12_readsPerson_X12_needsBoth : GoodIn wsX12_readsPerson (wsV RX12 282 RX12 yX12_needsBoth wsX12_needsBoth) := goodIn_app (goodIn_of _ (by decide +kernel)) ggX12_readsPerson_X12_needsBoth
set_option maxRecDepth 20000 in
theorem ggX12_readsPerson_X12_closes_c0 : GoodIn wsX12_readsPerson ((wsX12_closes).take 40) := goodIn_r _ [96, 97, 98, 99, 19, 100, 32, 29, 21, 16, 17, 18, 20, 22, 23, 24, 25, 26, 27, 28, 30, 31, 33, 34, 35, 36, 37, 38, 101, 102, 103, 104, 105, 106, 107, 108, 109, 110, 111, 112] (by decide +kernel) (by decide +kernel)
set_option maxRecDepth 20000 in
theorem ggX12_readsPerson_X12_closes_c1 : GoodIn wsX12_readsPerson (((wsX12_closes).drop 40).take 40) := goodIn_r _ [113, 114, 115, 116, 117, 118, 119, 120, 121, 122, 123, 124, 125, 126, 127, 128, 129, 130, 131, 132, 133, 134, 135, 136, 137, 138, 139, 140, 141, 142, 143, 144, 145, 146, 147, 148, 149, 150, 151, 152] (by decide +kernel) (by decide +kernel)
set_option maxRecDepth 20000 in
theorem ggX12_readsPerson_X12_closes_c2 : GoodIn wsX12_readsPerson (((wsX12_closes).drop 40).drop 40) := goodIn_r _ [153, 154, 155, 156, 157] (by decide +kernel) (by decide +kernel)
set_option maxRecDepth 20000 in
theorem ggX12_readsPerson_X12_closes : GoodIn wsX12_readsPerson wsX12_closes := (zgi (wsX12_closes) 40 ggX12_readsPerson_X12_closes_c0 (zgi ((wsX12_closes).drop 40) 40 ggX12_readsPerson_X12_closes_c1 ggX12_readsPerson_X12_closes_c2))
set_option maxRecDepth 20000 in
theorem gX12_readsPerson_X12_closes : GoodIn wsX12_readsPerson (wsV RX12 286 RX12 yX12_closes wsX12_closes) := goodIn_app (goodIn_of _ (by decide +kernel)) ggX12_readsPerson_X12_closes
set_option maxRecDepth 20000 in
theorem ggX12_readsOne_X12_fails_c0 : GoodIn wsX12_readsOne ((wsX12_fails).take 40) := goodIn_r _ [8, 9, 10, 42, 43, 44, 45, 46, 47, 48, 49, 50, 51, 52, 53, 54, 55, 56, 57, 58, 59, 60, 61, 62, 63, 64, 65, 66, 67, 68, 69, 70, 71, 72, 73, 74, 75, 76, 77, 78] (by decide +kernel) (by decide +kernel)
set_option maxRecDepth 20000 in
theorem ggX12_readsOne_X12_fails_c1 : GoodIn wsX12_readsOne ((wsX12_fails).drop 40) := goodIn_r _ [79, 80, 81, 82, 83, 84, 85, 86, 87, 88, 89, 90, 91, 92, 93, 94, 95, 96, 97, 98] (by decide +kernel) (by decide +kernel)
set_option maxRecDepth 20000 in
theorem ggX12_readsOne_X12_fails : GoodIn wsX12_readsOne wsX12_fails := (zgi (wsX12_fails) 40 ggX12_readsOne_X12_fails_c0 ggX12_readsOne_X12_fails_c1)
set_option maxRecDepth 20000 in
theorem gX12_readsOne_X12_fails : GoodIn wsX12_readsOne (wsV RX12 193 RX12 yX12_fails wsX12_fails) := goodIn_app (goodIn_of _ (by decide +kernel)) ggX12_readsOne_X12_fails
set_option maxRecDepth 20000 in
theorem ggX12_readsOne_X12_nextToken_c0 : GoodIn wsX12_readsOne ((wsX12_nextToken).take 40) := goodIn_r _ [14, 15, 16, 17, 9, 18, 19, 20, 21, 22, 23, 24, 25, 7, 26, 42, 43, 44, 45, 46, 47, 48, 49, 50, 51, 52, 53, 54, 55, 56, 57, 58, 59, 60, 61, 62, 63, 64, 65, 66] (by decide +kernel) (by decide +kernel)
set_option maxRecDepth 20000 in
theorem ggX12_readsOne_X12_nextToken_c1 : GoodIn wsX12_readsOne ((wsX12_nextToken).drop 40) := goodIn_r _ [67, 68, 69, 70, 71, 72, 73, 74, 75, 76, 77, 78, 79, 80, 81, 82, 83, 84, 85, 86, 87, 88, 89, 90, 91, 92, 93, 94, 95, 96, 97, 98] (by decide +kernel) (by decide +kernel)
set_option maxRecDepth 20000 in
theorem ggX12_readsOne_X12_nextToken : GoodIn wsX12_readsOne wsX12_nextToken := (zgi (wsX12_nextToken) 40 ggX12_readsOne_X12_nextToken_c0 ggX12_readsOne_X12_nextToken_c1)
set_option maxRecDepth 20000 in
theorem gX12_readsOne_X12_nextToken : GoodIn wsX12_readsOne (wsV RX12 200 RX12 yX12_nextToken wsX12_nextToken) := goodIn_app (goodIn_of _ (by decide +kernel)) ggX12_readsOne_X12_nextToken
set_option maxRecDepth 20000 in
theorem ggX12_readsOne_X12_needsNumber_c0 : GoodIn wsX12_readsOne ((wsX12_needsNumber).take 40) := goodIn_r _ [30, 20, 19, 3, 4, 5, 6, 7, 8, 9, 10, 31, 32, 33, 11, 12, 13, 14, 15, 16, 17, 18, 21, 22, 23, 24, 25, 26, 42, 43, 44, 45, 46, 47, 48, 49, 50, 51, 52, 53] (by decide +kernel) (by decide +kernel)
set_option maxRecDepth 20000 in
theorem ggX12_readsOne_X12_needsNumber_c1 : GoodIn wsX12_readsOne (((wsX12_needsNumber).drop 40).take 40) := goodIn_r _ [54, 55, 56, 57, 58, 59, 60, 61, 62, 63, 64, 65, 66, 67, 68, 69, 70, 71, 72, 73, 74, 75, 76, 77, 78, 79, 80, 81, 82, 83, 84, 85, 86, 87, 88, 89, 90, 91, 92, 93] (by decide +kernel) (by decide +kernel)
set_option maxRecDepth 20000 in
theorem ggX12_readsOne_X12_needsNumber_c2 : GoodIn wsX12_readsOne (((wsX12_needsNumber).drop 40).drop 40) := goodIn_r _ [94, 95, 96, 97, 98] (by decide +kernel) (by decide +kernel)
set_option maxRecDepth 20000 in
theorem ggX12_readsOne_X12_needsNumber : GoodIn wsX12_readsOne wsX12_needsNumber := (zgi (wsX12_needsNumber) 40 ggX12_readsOne_X12_needsNumber_c0 (zgi ((wsX12_needsNumber).drop 40) 40 ggX12_readsOne_X12_needsNumber_c1 ggX12_readsOne_X12_needsNumber_c2))
set_option maxRecDepth 20000 in
theorem gX12_readsOne_X12_needsNumber : GoodIn wsX12_readsOne (wsV RX12 262 RX12 yX12_needsNumber wsX12_needsNumber) := goodIn_app (goodIn_of _ (by decide +kernel)) ggX12_readsOne_X12_needsNumber
set_option maxRecDepth 20000 in
theorem ggX12_readsOne_X12_closes_c0 : GoodIn wsX12_readsOne ((wsX12_closes).take 40) := goodIn_r _ [37, 38, 39, 40, 7, 41, 20, 17, 9, 4, 5, 6, 8, 10, 11, 12, 13, 14, 15, 16, 18, 19, 21, 22, 23, 24, 25, 26, 42, 43, 44, 45, 46, 47, 48, 49, 50, 51, 52, 53] (by decide +kernel) (by decide +kernel)
set_option maxRecDepth 20000 in
theorem ggX12_readsOne_X12_closes_c1 : GoodIn wsX12_readsOne (((wsX12_closes).drop 40).take 40) := goodIn_r _ [54, 55, 56, 57, 58, 59, 60, 61, 62, 63, 64, 65, 66, 67, 68, 69, 70, 71, 72, 73, 74, 75, 76, 77, 78, 79, 80, 81, 82, 83, 84, 85, 86, 87, 88, 89, 90, 91, 92, 93] (by decide +kernel) (by decide +kernel)
set_option maxRecDepth 20000 in
theorem ggX12_readsOne_X12_closes_c2 : GoodIn wsX12_readsOne (((wsX12_closes).drop 40).drop 40) := goodIn_r _ [94, 95, 96, 97, 98] (by decide +kernel) (by decide +kernel)
set_option maxRecDepth 20000 in
theorem ggX12_readsOne_X12_closes : GoodIn wsX12_readsOne wsX12_closes := (zgi (wsX12_closes) 40 ggX12_readsOne_X12_closes_c0 (zgi ((wsX12_closes).drop 40) 40 ggX12_readsOne_X12_closes_c1 ggX12_readsOne_X12_closes_c2))
set_option maxRecDepth 20000 in
theorem gX12_readsOne_X12_closes : GoodIn wsX12_readsOne (wsV RX12 286 RX12 yX12_closes wsX12_closes) := goodIn_app (goodIn_of _ (by decide +kernel)) ggX12_readsOne_X12_closes
set_option maxRecDepth 20000 in
theorem ggX12_readsReads_X12_fails_c0 : GoodIn wsX12_readsReads ((wsX12_fails).take 40) := goodIn_r _ [8, 9, 10, 57, 58, 59, 60, 61, 62, 63, 64, 65, 66, 67, 68, 69, 70, 71, 72, 73, 74, 75, 76, 77, 78, 79, 80, 81, 82, 83, 84, 85, 86, 87, 88, 89, 90, 91, 92, 93] (by decide +kernel) (by decide +kernel)
set_option maxRecDepth 20000 in
theorem ggX12_readsReads_X12_fails_c1 : GoodIn wsX12_readsReads ((wsX12_fails).drop 40) := goodIn_r _ [94, 95, 96, 97, 98, 99, 100, 101, 102, 103, 104, 105, 106, 107, 108, 109, 110, 111, 112, 113] (by decide +kernel) (by decide +kernel)
set_option maxRecDepth 20000 in
theorem ggX12_readsReads_X12_fails : GoodIn wsX12_readsReads wsX12_fails := (zgi (wsX12_fails) 40 ggX12_readsReads_X12_fails_c0 ggX12_readsReads_X12_fails_c1)
set_option maxRecDepth 20000 in
theorem gX12_readsReads_X12_fails : GoodIn wsX12_readsReads (wsV RX12 193 RX12 yX12_fails wsX12_fails) := goodIn_app (goodIn_of _ (by decide +kernel)) ggX12_readsReads_X12_fails
set_option maxRecDepth 20000 in
theorem ggX12_readsReads_X12_nextToken_c0 : GoodIn wsX12_readsReads ((wsX12_nextToken).take 40) := goodIn_r _ [14, 15, 16, 17, 9, 18, 19, 20, 21, 22, 23, 24, 25, 7, 26, 57, 58, 59, 60, 61, 62, 63, 64, 65, 66, 67, 68, 69, 70, 71, 72, 73, 74, 75, 76, 77, 78, 79, 80, 81] (by decide +kernel) (by decide +kernel)
set_option maxRecDepth 20000 in
theorem ggX12_readsReads_X12_nextToken_c1 : GoodIn wsX12_readsReads ((wsX12_nextToken).drop 40) := goodIn_r _ [82, 83, 84, 85, 86, 87, 88, 89, 90, 91, 92, 93, 94, 95, 96, 97, 98, 99, 100, 101, 102, 103, 104, 105, 106, 107, 108, 109, 110, 111, 112, 113] (by decide +kernel) (by decide +kernel)
set_option maxRecDepth 20000 in
theorem ggX12_readsReads_X12_nextToken : GoodIn wsX12_readsReads wsX12_nextToken := (zgi (wsX12_nextToken) 40 ggX12_readsReads_X12_nextToken_c0 ggX12_readsReads_X12_nextToken_c1)
set_option maxRecDepth 20000 in
theorem gX12_readsReads_X12_nextToken : GoodIn wsX12_readsReads (wsV RX12 200 RX12 yX12_nextToken wsX12_nextToken) := goodIn_app (goodIn_of _ (by decide +kernel)) ggX12_readsReads_X12_nextToken
set_option maxRecDepth 20000 in
theorem ggX12_readsReads_X12_reads_c0 : GoodIn wsX12_readsReads ((wsX12_reads).take 40) := goodIn_r _ [30, 31, 32, 20, 33, 19, 34, 35, 36, 37, 38, 7, 39, 18, 40, 41, 42, 43, 44, 45, 46, 47, 48, 49, 50, 51, 17, 9, 4, 5, 6, 8, 10, 52, 53, 54, 55, 56, 3, 11] (by decide +kernel) (by decide +kernel)
set_option maxRecDepth 20000 in
theorem ggX12_readsReads_X12_reads_c1 : GoodIn wsX12_readsReads (((wsX12_reads).drop 40).take 40) := goodIn_r _ [12, 13, 14, 15, 16, 21, 22, 23, 24, 25, 26, 57, 58, 59, 60, 61, 62, 63, 64, 65, 66, 67, 68, 69, 70, 71, 72, 73, 74, 75, 76, 77, 78, 79, 80, 81, 82, 83, 84, 85] (by decide +kernel) (by decide +kernel)
set_option maxRecDepth 20000 in
theorem ggX12_readsReads_X12_reads_c2 : GoodIn wsX12_readsReads (((wsX12_reads).drop 40).drop 40) := goodIn_r _ [86, 87, 88, 89, 90, 91, 92, 93, 94, 95, 96, 97, 98, 99, 100, 101, 102, 103, 104, 105, 106, 107, 108, 109, 110, 111, 112, 113] (by decide +kernel) (by decide +kernel)
set_option maxRecDepth 20000 in
theorem ggX12_readsReads_X12_reads : GoodIn wsX12_readsReads wsX12_reads := (zgi (wsX12_reads) 40 ggX12_readsReads_X12_reads_c0 (zgi ((wsX12_reads).drop 40) 40 ggX12_readsReads_X12_reads_c1 ggX12_readsReads_X12_reads_c2))
set_option maxRecDepth 20000 in
theorem gX12_readsReads_X12_reads : GoodIn wsX12_readsReads (wsV RX12 295 RX12 yX12_reads wsX12_reads) := goodIn_app (goodIn_of _ (by decide +kernel)) ggX12_readsReads_X12_reads
set_option maxRecDepth 20000 in
theorem ggX12_begins_X12_nextToken_c0 : GoodIn wsX12_begins ((wsX12_nextToken).take 40) := goodIn_r _ [8, 3, 2, 9, 10, 11, 12, 13, 14, 15, 16, 17, 18, 7, 19, 20, 21, 22, 23, 24, 25, 26, 27, 28, 29, 30, 31, 32, 33, 34, 35, 36, 37, 38, 39, 40, 41, 42, 43, 44] (by decide +kernel) (by decide +kernel)
set_option maxRecDepth 20000 in
theorem ggX12_begins_X12_nextToken_c1 : GoodIn wsX12_begins ((wsX12_nextToken).drop 40) := goodIn_r _ [45, 46, 47, 48, 49, 50, 51, 52, 53, 54, 55, 56, 57, 58, 59, 60, 61, 62, 63, 64, 65, 66, 67, 68, 69, 70, 71, 72, 73, 74, 75, 76] (by decide +kernel) (by decide +kernel)
set_option maxRecDepth 20000 in
theorem ggX12_begins_X12_nextToken : GoodIn wsX12_begins wsX12_nextToken := (zgi (wsX12_nextToken) 40 ggX12_begins_X12_nextToken_c0 ggX12_begins_X12_nextToken_c1)
set_option maxRecDepth 20000 in
theorem gX12_begins_X12_nextToken : GoodIn wsX12_begins (wsV RX12 200 RX12 yX12_nextToken wsX12_nextToken) := goodIn_app (goodIn_of _ (by decide +kernel)) ggX12_begins_X12_nextToken
set_option maxRecDepth 20000 in
theorem ggX12_readsAll_X12_begins_c0 : GoodIn wsX12_readsAll ((wsX12_begins).take 40) := goodIn_r _ [17, 18, 19, 20, 21, 22, 23, 16, 24, 25, 26, 27, 28, 6, 29, 30, 31, 32, 33, 34, 151, 152, 153, 154, 155, 156, 157, 158, 159, 160, 161, 162, 163, 164, 165, 166, 167, 168, 169, 170] (by decide +kernel) (by decide +kernel)
set_option maxRecDepth 20000 in
theorem ggX12_readsAll_X12_begins_c1 : GoodIn wsX12_readsAll ((wsX12_begins).drop 40) := goodIn_r _ [171, 172, 173, 174, 175, 176, 177, 178, 179, 180, 181, 182, 183, 184, 185, 186, 187, 188, 189, 190, 191, 192, 193, 194, 195, 196, 197, 198, 199, 200, 201, 202, 203, 204, 205, 206, 207] (by decide +kernel) (by decide +kernel)
set_option maxRecDepth 20000 in
theorem ggX12_readsAll_X12_begins : GoodIn wsX12_readsAll wsX12_begins := (zgi (wsX12_begins) 40 ggX12_readsAll_X12_begins_c0 ggX12_readsAll_X12_begins_c1)
set_option maxRecDepth 20000 in
theorem gX12_readsAll_X12_begins : GoodIn wsX12_readsAll (wsV RX12 298 RX12 yX12_begins wsX12_begins) := goodIn_app (goodIn_of _ (by decide +kernel)) ggX12_readsAll_X12_begins
set_option maxRecDepth 20000 in
theorem ggX12_readsAll_X12_isWord_c0 : GoodIn wsX12_readsAll ((wsX12_isWord).take 40) := goodIn_r _ [38, 6, 27, 151, 152, 153, 154, 155, 156, 157, 158, 159, 160, 161, 162, 163, 164, 165, 166, 167, 168, 169, 170, 171, 172, 173, 174, 175, 176, 177, 178, 179, 180, 181, 182, 183, 184, 185, 186, 187] (by decide +kernel) (by decide +kernel)
set_option maxRecDepth 20000 in
theorem ggX12_readsAll_X12_isWord_c1 : GoodIn wsX12_readsAll ((wsX12_isWord).drop 40) := goodIn_r _ [188, 189, 190, 191, 192, 193, 194, 195, 196, 197, 198, 199, 200, 201, 202, 203, 204, 205, 206, 207] (by decide +kernel) (by decide +kernel)
set_option maxRecDepth 20000 in
theorem ggX12_readsAll_X12_isWord : GoodIn wsX12_readsAll wsX12_isWord := (zgi (wsX12_isWord) 40 ggX12_readsAll_X12_isWord_c0 ggX12_readsAll_X12_isWord_c1)
set_option maxRecDepth 20000 in
theorem gX12_readsAll_X12_isWord : GoodIn wsX12_readsAll (wsV RX12 185 RX12 yX12_isWord wsX12_isWord) := goodIn_app (goodIn_of _ (by decide +kernel)) ggX12_readsAll_X12_isWord
