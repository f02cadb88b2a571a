set_option maxRecDepth 20000 in
theorem ggX12_readsAll_X12_readsTown_c0 : GoodIn wsX12_readsAll ((wsX12_readsTown).take 40) := goodIn_r _ [42, 1, 43, 44, 45, 46, 47, 48, 49, 50, 51, 16, 52, 26, 53, 21, 22, 23, 24, 20, 19, 25, 27, 28, 6, 29, 30, 31, 32, 33, 34, 54, 55, 56, 57, 58, 59, 60, 61, 7] (by decide +kernel) (by decide +kernel)
set_option maxRecDepth 20000 in
theorem ggX12_readsAll_X12_readsTown_c1 : GoodIn wsX12_readsAll (((wsX12_readsTown).drop 40).take 40) := goodIn_r _ [8, 9, 62, 63, 64, 10, 11, 12, 65, 66, 67, 68, 69, 70, 71, 72, 73, 74, 75, 76, 77, 78, 79, 80, 81, 82, 83, 84, 85, 86, 87, 88, 89, 90, 91, 92, 35, 36, 37, 38] (by decide +kernel) (by decide +kernel)
set_option maxRecDepth 20000 in
theorem ggX12_readsAll_X12_readsTown_c2 : GoodIn wsX12_readsAll ((((wsX12_readsTown).drop 40).drop 40).take 40) := goodIn_r _ [93, 94, 95, 96, 97, 98, 99, 100, 101, 102, 103, 104, 105, 106, 107, 151, 152, 153, 154, 155, 156, 157, 158, 159, 160, 161, 162, 163, 164, 165, 166, 167, 168, 169, 170, 171, 172, 173, 174, 175] (by decide +kernel) (by decide +kernel)
set_option maxRecDepth 20000 in
theorem ggX12_readsAll_X12_readsTown_c3 : GoodIn wsX12_readsAll ((((wsX12_readsTown).drop 40).drop 40).drop 40) := goodIn_r _ [176, 177, 178, 179, 180, 181, 182, 183, 184, 185, 186, 187, 188, 189, 190, 191, 192, 193, 194, 195, 196, 197, 198, 199, 200, 201, 202, 203, 204, 205, 206, 207] (by decide +kernel) (by decide +kernel)
set_option maxRecDepth 20000 in
theorem ggX12_readsAll_X12_readsTown : GoodIn wsX12_readsAll wsX12_readsTown := (zgi (wsX12_readsTown) 40 ggX12_readsAll_X12_readsTown_c0 (zgi ((wsX12_readsTown).drop 40) 40 ggX12_readsAll_X12_readsTown_c1 (zgi (((wsX12_readsTown).drop 40).drop 40) 40 ggX12_readsAll_X12_readsTown_c2 ggX12_readsAll_X12_readsTown_c3)))
set_option maxRecDepth 20000 in
theorem gX12_readsAll_X12_readsTown : GoodIn wsX12_readsAll (wsV RX12 301 RX12 yX12_readsTown wsX12_readsTown) := goodIn_app (goodIn_of _ (by decide +kernel)) ggX12_readsAll_X12_readsTown
set_option maxRecDepth 20000 in
theorem ggX12_readsAll_X12_readsRoad_c0 : GoodIn wsX12_readsAll ((wsX12_readsRoad).take 40) := goodIn_r _ [111, 45, 46, 21, 22, 23, 16, 24, 20, 19, 25, 26, 27, 28, 6, 29, 30, 31, 32, 33, 34, 112, 113, 114, 115, 58, 59, 60, 61, 7, 43, 8, 9, 62, 63, 64, 10, 11, 12, 65] (by decide +kernel) (by decide +kernel)
set_option maxRecDepth 20000 in
theorem ggX12_readsAll_X12_readsRoad_c1 : GoodIn wsX12_readsAll (((wsX12_readsRoad).drop 40).take 40) := goodIn_r _ [66, 67, 68, 69, 70, 71, 72, 73, 74, 75, 49, 50, 51, 52, 53, 76, 77, 78, 79, 1, 47, 100, 101, 102, 103, 104, 105, 106, 107, 151, 152, 153, 154, 155, 156, 157, 158, 159, 160, 161] (by decide +kernel) (by decide +kernel)
set_option maxRecDepth 20000 in
theorem ggX12_readsAll_X12_readsRoad_c2 : GoodIn wsX12_readsAll ((((wsX12_readsRoad).drop 40).drop 40).take 40) := goodIn_r _ [162, 163, 164, 165, 166, 167, 168, 169, 170, 171, 172, 173, 174, 175, 176, 177, 178, 179, 180, 181, 182, 183, 184, 185, 186, 187, 188, 189, 190, 191, 192, 193, 194, 195, 196, 197, 198, 199, 200, 201] (by decide +kernel) (by decide +kernel)
set_option maxRecDepth 20000 in
theorem ggX12_readsAll_X12_readsRoad_c3 : GoodIn wsX12_readsAll ((((wsX12_readsRoad).drop 40).drop 40).drop 40) := goodIn_r _ [202, 203, 204, 205, 206, 207] (by decide +kernel) (by decide +kernel)
set_option maxRecDepth 20000 in
theorem ggX12_readsAll_X12_readsRoad : GoodIn wsX12_readsAll wsX12_readsRoad := (zgi (wsX12_readsRoad) 40 ggX12_readsAll_X12_readsRoad_c0 (zgi ((wsX12_readsRoad).drop 40) 40 ggX12_readsAll_X12_readsRoad_c1 (zgi (((wsX12_readsRoad).drop 40).drop 40) 40 ggX12_readsAll_X12_readsRoad_c2 ggX12_readsAll_X12_readsRoad_c3)))
set_option maxRecDepth 20000 in
theorem gX12_readsAll_X12_readsRoad : GoodIn wsX12_readsAll (wsV RX12 304 RX12 yX12_readsRoad wsX12_readsRoad) := goodIn_app (goodIn_of _ (by decide +kernel)) ggX12_readsAll_X12_readsRoad
set_option maxRecDepth 20000 in
theorem ggX12_readsAll_X12_readsPerson_c0 : GoodIn wsX12_readsAll ((wsX12_readsPerson).take 40) := goodIn_r _ [119, 1, 48, 120, 69, 70, 71, 72, 62, 121, 45, 63, 122, 64, 123, 84, 49, 50, 51, 16, 52, 26, 53, 21, 22, 23, 24, 20, 19, 25, 27, 28, 6, 29, 30, 31, 32, 33, 34, 54] (by decide +kernel) (by decide +kernel)
set_option maxRecDepth 20000 in
theorem ggX12_readsAll_X12_readsPerson_c1 : GoodIn wsX12_readsAll (((wsX12_readsPerson).drop 40).take 40) := goodIn_r _ [55, 56, 57, 58, 59, 60, 61, 7, 43, 8, 9, 10, 11, 12, 65, 66, 67, 68, 73, 74, 75, 76, 77, 78, 79, 47, 80, 81, 82, 83, 35, 36, 37, 38, 89, 90, 91, 92, 112, 113] (by decide +kernel) (by decide +kernel)
set_option maxRecDepth 20000 in
theorem ggX12_readsAll_X12_readsPerson_c2 : GoodIn wsX12_readsAll ((((wsX12_readsPerson).drop 40).drop 40).take 40) := goodIn_r _ [114, 115, 85, 86, 87, 88, 93, 94, 95, 96, 97, 98, 99, 100, 101, 102, 103, 104, 105, 106, 107, 151, 152, 153, 154, 155, 156, 157, 158, 159, 160, 161, 162, 163, 164, 165, 166, 167, 168, 169] (by decide +kernel) (by decide +kernel)
set_option maxRecDepth 20000 in
theorem ggX12_readsAll_X12_readsPerson_c3 : GoodIn wsX12_readsAll ((((wsX12_readsPerson).drop 40).drop 40).drop 40) := goodIn_r _ [170, 171, 172, 173, 174, 175, 176, 177, 178, 179, 180, 181, 182, 183, 184, 185, 186, 187, 188, 189, 190, 191, 192, 193, 194, 195, 196, 197, 198, 199, 200, 201, 202, 203, 204, 205, 206, 207] (by decide +kernel) (by decide +kernel)
set_option maxRecDepth 20000 in
theorem ggX12_readsAll_X12_readsPerson : GoodIn wsX12_readsAll wsX12_readsPerson := (zgi (wsX12_readsPerson) 40 ggX12_readsAll_X12_readsPerson_c0 (zgi ((wsX12_readsPerson).drop 40) 40 ggX12_readsAll_X12_readsPerson_c1 (zgi (((wsX12_readsPerson).drop 40).drop 40) 40 ggX12_readsAll_X12_readsPerson_c2 ggX12_readsAll_X12_readsPerson_c3)))
set_option maxRecDepth 20000 in
theorem gX12_readsAll_X12_readsPerson : GoodIn wsX12_readsAll (wsV RX12 307 RX12 yX12_readsPerson wsX12_readsPerson) := goodIn_app (goodIn_of _ (by decide +kernel)) ggX12_readsAll_X12_readsPerson
set_option maxRecDepth 20000 in
theorem ggX12_readsAll_X12_readsOne_c0 : GoodIn wsX12_readsAll ((wsX12_readsOne).take 40) := goodIn_r _ [127, 4, 1, 45, 49, 50, 51, 16, 52, 26, 53, 21, 22, 23, 24, 20, 19, 25, 27, 28, 6, 29, 30, 31, 32, 33, 34, 93, 94, 95, 96, 97, 98, 99, 100, 101, 102, 103, 104, 105] (by decide +kernel) (by decide +kernel)
set_option maxRecDepth 20000 in
theorem ggX12_readsAll_X12_readsOne_c1 : GoodIn wsX12_readsAll (((wsX12_readsOne).drop 40).take 40) := goodIn_r _ [106, 107, 151, 152, 153, 154, 155, 156, 157, 158, 159, 160, 161, 162, 163, 164, 165, 166, 167, 168, 169, 170, 171, 172, 173, 174, 175, 176, 177, 178, 179, 180, 181, 182, 183, 184, 185, 186, 187, 188] (by decide +kernel) (by decide +kernel)
set_option maxRecDepth 20000 in
theorem ggX12_readsAll_X12_readsOne_c2 : GoodIn wsX12_readsAll (((wsX12_readsOne).drop 40).drop 40) := goodIn_r _ [189, 190, 191, 192, 193, 194, 195, 196, 197, 198, 199, 200, 201, 202, 203, 204, 205, 206, 207] (by decide +kernel) (by decide +kernel)
set_option maxRecDepth 20000 in
theorem ggX12_readsAll_X12_readsOne : GoodIn wsX12_readsAll wsX12_readsOne := (zgi (wsX12_readsOne) 40 ggX12_readsAll_X12_readsOne_c0 (zgi ((wsX12_readsOne).drop 40) 40 ggX12_readsAll_X12_readsOne_c1 ggX12_readsAll_X12_readsOne_c2))
set_option maxRecDepth 20000 in
theorem gX12_readsAll_X12_readsOne : GoodIn wsX12_readsAll (wsV RX12 310 RX12 yX12_readsOne wsX12_readsOne) := goodIn_app (goodIn_of _ (by decide +kernel)) ggX12_readsAll_X12_readsOne
set_option maxRecDepth 20000 in
theorem ggX12_readsAll_X12_readsReads_c0 : GoodIn wsX12_readsAll ((wsX12_readsReads).take 40) := goodIn_r _ [131, 3, 2, 5, 49, 50, 51, 16, 52, 26, 53, 21, 22, 23, 24, 20, 19, 25, 27, 28, 6, 29, 30, 31, 32, 33, 34, 132, 133, 134, 135, 136, 73, 137, 74, 75, 138, 139, 140, 141] (by decide +kernel) (by decide +kernel)
set_option maxRecDepth 20000 in
theorem ggX12_readsAll_X12_readsReads_c1 : GoodIn wsX12_readsAll (((wsX12_readsReads).drop 40).take 40) := goodIn_r _ [142, 143, 144, 145, 35, 36, 37, 38, 104, 105, 106, 107, 146, 147, 148, 149, 150, 151, 152, 153, 154, 155, 156, 157, 158, 159, 160, 161, 162, 163, 164, 165, 166, 167, 168, 169, 170, 171, 172, 173] (by decide +kernel) (by decide +kernel)
set_option maxRecDepth 20000 in
theorem ggX12_readsAll_X12_readsReads_c2 : GoodIn wsX12_readsAll (((wsX12_readsReads).drop 40).drop 40) := goodIn_r _ [174, 175, 176, 177, 178, 179, 180, 181, 182, 183, 184, 185, 186, 187, 188, 189, 190, 191, 192, 193, 194, 195, 196, 197, 198, 199, 200, 201, 202, 203, 204, 205, 206, 207] (by decide +kernel) (by decide +kernel)
set_option maxRecDepth 20000 in
theorem ggX12_readsAll_X12_readsReads : GoodIn wsX12_readsAll wsX12_readsReads := (zgi (wsX12_readsReads) 40 ggX12_readsAll_X12_readsReads_c0 (zgi ((wsX12_readsReads).drop 40) 40 ggX12_readsAll_X12_readsReads_c1 ggX12_readsAll_X12_readsReads_c2))
set_option maxRecDepth 20000 in
theorem gX12_readsAll_X12_readsReads : GoodIn wsX12_readsAll (wsV RX12 313 RX12 yX12_readsReads wsX12_readsReads) := goodIn_app (goodIn_of _ (by decide +kernel)) ggX12_readsAll_X12_readsReads
set_option maxRecDepth 20000 in
theorem ggX12_readsAll_X12_fails_c0 : GoodIn wsX12_readsAll ((wsX12_fails).take 40) := goodIn_r _ [52, 26, 53, 151, 152, 153, 154, 155, 156, 157, 158, 159, 160, 161, 162, 163, 164, 165, 166, 167, 168, 169, 170, 171, 172, 173, 174, 175, 176, 177, 178, 179, 180, 181, 182, 183, 184, 185, 186, 187] (by decide +kernel) (by decide +kernel)
set_option maxRecDepth 20000 in
theorem ggX12_readsAll_X12_fails_c1 : GoodIn wsX12_readsAll ((wsX12_fails).drop 40) := goodIn_r _ [188, 189, 190, 191, 192, 193, 194, 195, 196, 197, 198, 199, 200, 201, 202, 203, 204, 205, 206, 207] (by decide +kernel) (by decide +kernel)
set_option maxRecDepth 20000 in
theorem ggX12_readsAll_X12_fails : GoodIn wsX12_readsAll wsX12_fails := (zgi (wsX12_fails) 40 ggX12_readsAll_X12_fails_c0 ggX12_readsAll_X12_fails_c1)
set_option maxRecDepth 20000 in
theorem gX12_readsAll_X12_fails : GoodIn wsX12_readsAll (wsV RX12 193 RX12 yX12_fails wsX12_fails) := goodIn_app (goodIn_of _ (by decide +kernel)) ggX12_readsAll_X12_fails
set_option maxRecDepth 20000 in
theorem ggX12_lays_X12_shifts : GoodIn wsX12_lays wsX12_shifts := goodIn_r _ [16] (by decide +kernel) (by decide +kernel)
set_option maxRecDepth 20000 in
theorem gX12_lays_X12_shifts : GoodIn wsX12_lays (va_wsS RX12 316 yX12_shifts wsX12_shifts) := goodIn_app (goodIn_of _ (by decide +kernel)) ggX12_lays_X12_shifts
set_option maxRecDepth 20000 in
theorem ggX12_lays_X12_shiftsNames : GoodIn wsX12_lays wsX12_shiftsNames := goodIn_r _ [19] (by decide +kernel) (by decide +kernel)
set_option maxRecDepth 20000 in
theorem gX12_lays_X12_shiftsNames : GoodIn wsX12_lays (va_wsS RX12 320 yX12_shiftsNames wsX12_shiftsNames) := goodIn_app (goodIn_of _ (by decide +kernel)) ggX12_lays_X12_shiftsNames
set_option maxRecDepth 20000 in
theorem ggX12_readsLine_X12_isWord_c0 : GoodIn wsX12_readsLine ((wsX12_isWord).take 40) := goodIn_r _ [14, 15, 16, 92, 93, 94, 95, 96, 97, 98, 99, 100, 101, 102, 103, 104, 105, 106, 107, 108, 109, 110, 111, 112, 113, 114, 115, 116, 117, 118, 119, 120, 121, 122, 123, 124, 125, 126, 127, 128] (by decide +kernel) (by decide +kernel)
set_option maxRecDepth 20000 in
theorem ggX12_readsLine_X12_isWord_c1 : GoodIn wsX12_readsLine ((wsX12_isWord).drop 40) := goodIn_r _ [129, 130, 131, 132, 133, 134, 135, 136, 137, 138, 139, 140, 141, 142, 143, 144, 145, 146, 147, 148] (by decide +kernel) (by decide +kernel)
set_option maxRecDepth 20000 in
theorem ggX12_readsLine_X12_isWord : GoodIn wsX12_readsLine wsX12_isWord := (zgi (wsX12_isWord) 40 ggX12_readsLine_X12_isWord_c0 ggX12_readsLine_X12_isWord_c1)
set_option maxRecDepth 20000 in
theorem gX12_readsLine_X12_isWord : GoodIn wsX12_readsLine (wsV RX12 185 RX12 yX12_isWord wsX12_isWord) := goodIn_app (goodIn_of _ (by decide +kernel)) ggX12_readsLine_X12_isWord
set_option maxRecDepth 20000 in
theorem ggX12_readsLine_X12_fails_c0 : GoodIn wsX12_readsLine ((wsX12_fails).take 40) := goodIn_r _ [20, 21, 22, 92, 93, 94, 95, 96, 97, 98, 99, 100, 101, 102, 103, 104, 105, 106, 107, 108, 109, 110, 111, 112, 113, 114, 115, 116, 117, 118, 119, 120, 121, 122, 123, 124, 125, 126, 127, 128] (by decide +kernel) (by decide +kernel)
set_option maxRecDepth 20000 in
theorem ggX12_readsLine_X12_fails_c1 : GoodIn wsX12_readsLine ((wsX12_fails).drop 40) := goodIn_r _ [129, 130, 131, 132, 133, 134, 135, 136, 137, 138, 139, 140, 141, 142, 143, 144, 145, 146, 147, 148] (by decide +kernel) (by decide +kernel)
set_option maxRecDepth 20000 in
theorem ggX12_readsLine_X12_fails : GoodIn wsX12_readsLine wsX12_fails := (zgi (wsX12_fails) 40 ggX12_readsLine_X12_fails_c0 ggX12_readsLine_X12_fails_c1)
set_option maxRecDepth 20000 in
theorem gX12_readsLine_X12_fails : GoodIn wsX12_readsLine (wsV RX12 193 RX12 yX12_fails wsX12_fails) := goodIn_app (goodIn_of _ (by decide +kernel)) ggX12_readsLine_X12_fails
set_option maxRecDepth 20000 in
theorem ggX12_readsLine_X12_nextToken_c0 : GoodIn wsX12_readsLine ((wsX12_nextToken).take 40) := goodIn_r _ [26, 27, 28, 29, 21, 16, 30, 15, 31, 32, 33, 34, 35, 13, 36, 92, 93, 94, 95, 96, 97, 98, 99, 100, 101, 102, 103, 104, 105, 106, 107, 108, 109, 110, 111, 112, 113, 114, 115, 116] (by decide +kernel) (by decide +kernel)
set_option maxRecDepth 20000 in
theorem ggX12_readsLine_X12_nextToken_c1 : GoodIn wsX12_readsLine ((wsX12_nextToken).drop 40) := goodIn_r _ [117, 118, 119, 120, 121, 122, 123, 124, 125, 126, 127, 128, 129, 130, 131, 132, 133, 134, 135, 136, 137, 138, 139, 140, 141, 142, 143, 144, 145, 146, 147, 148] (by decide +kernel) (by decide +kernel)
set_option maxRecDepth 20000 in
theorem ggX12_readsLine_X12_nextToken : GoodIn wsX12_readsLine wsX12_nextToken := (zgi (wsX12_nextToken) 40 ggX12_readsLine_X12_nextToken_c0 ggX12_readsLine_X12_nextToken_c1)
set_option maxRecDepth 20000 in
theorem gX12_readsLine_X12_nextToken : GoodIn wsX12_readsLine (wsV RX12 200 RX12 yX12_nextToken wsX12_nextToken) := goodIn_app (goodIn_of _ (by decide +kernel)) ggX12_readsLine_X12_nextToken
set_option maxRecDepth 20000 in
theorem ggX12_readsLine_X12_needsPerson_c0 : GoodIn wsX12_readsLine ((wsX12_needsPerson).take 40) := goodIn_r _ [40, 8, 41, 42, 43, 13, 44, 15, 16, 45, 46, 47, 48, 49, 50, 51, 52, 53, 54, 1, 2, 3, 4, 55, 56, 57, 58, 59, 60, 61, 17, 18, 19, 20, 21, 22, 62, 63, 64, 65] (by decide +kernel) (by decide +kernel)
set_option maxRecDepth 20000 in
theorem ggX12_readsLine_X12_needsPerson_c1 : GoodIn wsX12_readsLine (((wsX12_needsPerson).drop 40).take 40) := goodIn_r _ [66, 67, 92, 93, 94, 95, 96, 97, 98, 99, 100, 101, 102, 103, 104, 105, 106, 107, 108, 109, 110, 111, 112, 113, 114, 115, 116, 117, 118, 119, 120, 121, 122, 123, 124, 125, 126, 127, 128, 129] (by decide +kernel) (by decide +kernel)
set_option maxRecDepth 20000 in
theorem ggX12_readsLine_X12_needsPerson_c2 : GoodIn wsX12_readsLine (((wsX12_needsPerson).drop 40).drop 40) := goodIn_r _ [130, 131, 132, 133, 134, 135, 136, 137, 138, 139, 140, 141, 142, 143, 144, 145, 146, 147, 148] (by decide +kernel) (by decide +kernel)
set_option maxRecDepth 20000 in
theorem ggX12_readsLine_X12_needsPerson : GoodIn wsX12_readsLine wsX12_needsPerson := (zgi (wsX12_needsPerson) 40 ggX12_readsLine_X12_needsPerson_c0 (zgi ((wsX12_needsPerson).drop 40) 40 ggX12_readsLine_X12_needsPerson_c1 ggX12_readsLine_X12_needsPerson_c2))
set_option maxRecDepth 20000 in
theorem gX12_readsLine_X12_needsPerson : GoodIn wsX12_readsLine (wsV RX12 324 RX12 yX12_needsPerson wsX12_needsPerson) := goodIn_app (goodIn_of _ (by decide +kernel)) ggX12_readsLine_X12_needsPerson
set_option maxRecDepth 20000 in
theorem ggX12_readsLine_X12_needsTown_c0 : GoodIn wsX12_readsLine ((wsX12_needsTown).take 40) := goodIn_r _ [71, 8, 41, 42, 43, 13, 44, 15, 16, 45, 46, 47, 48, 49, 50, 51, 52, 53, 54, 1, 2, 3, 4, 55, 56, 57, 58, 59, 60, 61, 17, 18, 19, 20, 21, 22, 72, 73, 74, 75] (by decide +kernel) (by decide +kernel)
set_option maxRecDepth 20000 in
theorem ggX12_readsLine_X12_needsTown_c1 : GoodIn wsX12_readsLine (((wsX12_needsTown).drop 40).take 40) := goodIn_r _ [66, 76, 92, 93, 94, 95, 96, 97, 98, 99, 100, 101, 102, 103, 104, 105, 106, 107, 108, 109, 110, 111, 112, 113, 114, 115, 116, 117, 118, 119, 120, 121, 122, 123, 124, 125, 126, 127, 128, 129] (by decide +kernel) (by decide +kernel)
set_option maxRecDepth 20000 in
theorem ggX12_readsLine_X12_needsTown_c2 : GoodIn wsX12_readsLine (((wsX12_needsTown).drop 40).drop 40) := goodIn_r _ [130, 131, 132, 133, 134, 135, 136, 137, 138, 139, 140, 141, 142, 143, 144, 145, 146, 147, 148] (by decide +kernel) (by decide +kernel)
set_option maxRecDepth 20000 in
theorem ggX12_readsLine_X12_needsTown : GoodIn wsX12_readsLine wsX12_needsTown := (zgi (wsX12_needsTown) 40 ggX12_readsLine_X12_needsTown_c0 (zgi ((wsX12_needsTown).drop 40) 40 ggX12_readsLine_X12_needsTown_c1 ggX12_readsLine_X12_needsTown_c2))
set_option maxRecDepth 20000 in
theorem gX12_readsLine_X12_needsTown : GoodIn wsX12_readsLine (wsV RX12 289 RX12 yX12_needsTown wsX12_needsTown) := goodIn_app (goodIn_of _ (by decide +kernel)) ggX12_readsLine_X12_needsTown
set_option maxRecDepth 20000 in
theorem ggX12_readsLine_X12_needsNumber_c0 : GoodIn wsX12_readsLine ((wsX12_needsNumber).take 40) := goodIn_r _ [80, 15, 30, 8, 17, 18, 19, 13, 20, 21, 22, 81, 82, 83, 23, 24, 25, 26, 27, 28, 29, 16, 31, 32, 33, 34, 35, 36, 92, 93, 94, 95, 96, 97, 98, 99, 100, 101, 102, 103] (by decide +kernel) (by decide +kernel)
set_option maxRecDepth 20000 in
theorem ggX12_readsLine_X12_needsNumber_c1 : GoodIn wsX12_readsLine (((wsX12_needsNumber).drop 40).take 40) := goodIn_r _ [104, 105, 106, 107, 108, 109, 110, 111, 112, 113, 114, 115, 116, 117, 118, 119, 120, 121, 122, 123, 124, 125, 126, 127, 128, 129, 130, 131, 132, 133, 134, 135, 136, 137, 138, 139, 140, 141, 142, 143] (by decide +kernel) (by decide +kernel)
set_option maxRecDepth 20000 in
theorem ggX12_readsLine_X12_needsNumber_c2 : GoodIn wsX12_readsLine (((wsX12_needsNumber).drop 40).drop 40) := goodIn_r _ [144, 145, 146, 147, 148] (by decide +kernel) (by decide +kernel)
set_option maxRecDepth 20000 in
theorem ggX12_readsLine_X12_needsNumber : GoodIn wsX12_readsLine wsX12_needsNumber := (zgi (wsX12_needsNumber) 40 ggX12_readsLine_X12_needsNumber_c0 (zgi ((wsX12_needsNumber).drop 40) 40 ggX12_readsLine_X12_needsNumber_c1 ggX12_readsLine_X12_needsNumber_c2))
set_option maxRecDepth 20000 in
theorem gX12_readsLine_X12_needsNumber : GoodIn wsX12_readsLine (wsV RX12 262 RX12 yX12_needsNumber wsX12_needsNumber) := goodIn_app (goodIn_of _ (by decide +kernel)) ggX12_readsLine_X12_needsNumber
set_option maxRecDepth 20000 in
theorem ggX12_readsLine_X12_closes_c0 : GoodIn wsX12_readsLine ((wsX12_closes).take 40) := goodIn_r _ [87, 88, 89, 90, 13, 91, 15, 29, 21, 17, 18, 19, 20, 22, 23, 24, 25, 26, 27, 28, 16, 30, 31, 32, 33, 34, 35, 36, 92, 93, 94, 95, 96, 97, 98, 99, 100, 101, 102, 103] (by decide +kernel) (by decide +kernel)
set_option maxRecDepth 20000 in
theorem ggX12_readsLine_X12_closes_c1 : GoodIn wsX12_readsLine (((wsX12_closes).drop 40).take 40) := goodIn_r _ [104, 105, 106, 107, 108, 109, 110, 111, 112, 113, 114, 115, 116, 117, 118, 119, 120, 121, 122, 123, 124, 125, 126, 127, 128, 129, 130, 131, 132, 133, 134, 135, 136, 137, 138, 139, 140, 141, 142, 143] (by decide +kernel) (by decide +kernel)
set_option maxRecDepth 20000 in
theorem ggX12_readsLine_X12_closes_c2 : GoodIn wsX12_readsLine (((wsX12_closes).drop 40).drop 40) := goodIn_r _ [144, 145, 146, 147, 148] (by decide +kernel) (by decide +kernel)
set_option maxRecDepth 20000 in
theorem ggX12_readsLine_X12_closes : GoodIn wsX12_readsLine wsX12_closes := (zgi (wsX12_closes) 40 ggX12_readsLine_X12_closes_c0 (zgi ((wsX12_closes).drop 40) 40 ggX12_readsLine_X12_closes_c1 ggX12_readsLine_X12_closes_c2))
set_option maxRecDepth 20000 in
theorem gX12_readsLine_X12_closes : GoodIn wsX12_readsLine (wsV RX12 286 RX12 yX12_closes wsX12_closes) := goodIn_app (goodIn_of _ (by decide +kernel)) ggX12_readsLine_X12_closes
set_option maxRecDepth 20000 in
theorem ggX12_land_X12_readsAll_c0 : GoodIn wsX12_land ((wsX12_readsAll).take 40) := goodIn_r _ [11, 12, 13, 14, 15, 16, 17, 18, 19, 20, 21, 22, 23, 24, 25, 26, 10, 27, 28, 29, 30, 31, 32, 33, 34, 35, 36, 37, 38, 39, 40, 41, 42, 43, 44, 45, 46, 47, 48, 49] (by decide +kernel) (by decide +kernel)
set_option maxRecDepth 20000 in
theorem ggX12_land_X12_readsAll_c1 : GoodIn wsX12_land (((wsX12_readsAll).drop 40).take 40) := goodIn_r _ [50, 51, 52, 53, 54, 55, 56, 57, 58, 59, 60, 61, 62, 2, 63, 64, 65, 66, 67, 68, 69, 70, 71, 72, 73, 74, 75, 76, 77, 78, 79, 80, 81, 82, 83, 84, 85, 86, 87, 88] (by decide +kernel) (by decide +kernel)
set_option maxRecDepth 20000 in
theorem ggX12_land_X12_readsAll_c2 : GoodIn wsX12_land ((((wsX12_readsAll).drop 40).drop 40).take 40) := goodIn_r _ [89, 90, 91, 92, 93, 94, 95, 96, 97, 98, 99, 100, 101, 102, 103, 104, 105, 106, 107, 108, 109, 110, 111, 112, 113, 114, 115, 116, 117, 118, 119, 120, 121, 122, 123, 124, 125, 126, 127, 128] (by decide +kernel) (by decide +kernel)
set_option maxRecDepth 20000 in
theorem ggX12_land_X12_readsAll_c3 : GoodIn wsX12_land (((((wsX12_readsAll).drop 40).drop 40).drop 40).take 40) := goodIn_r _ [129, 130, 131, 132, 133, 134, 135, 136, 137, 138, 139, 140, 141, 142, 143, 144, 145, 146, 147, 148, 149, 150, 151, 152, 153, 154, 155, 156, 157, 158, 159, 175, 176, 177, 178, 179, 180, 181, 182, 183] (by decide +kernel) (by decide +kernel)
set_option maxRecDepth 20000 in
theorem ggX12_land_X12_readsAll_c4 : GoodIn wsX12_land ((((((wsX12_readsAll).drop 40).drop 40).drop 40).drop 40).take 40) := goodIn_r _ [184, 185, 186, 187, 188, 189, 190, 191, 192, 193, 194, 195, 196, 197, 198, 199, 200, 201, 202, 203, 204, 205, 206, 207, 208, 209, 210, 211, 212, 213, 214, 215, 216, 217, 218, 219, 220, 221, 222, 223] (by decide +kernel) (by decide +kernel)
set_option maxRecDepth 20000 in
theorem ggX12_land_X12_readsAll_c5 : GoodIn wsX12_land ((((((wsX12_readsAll).drop 40).drop 40).drop 40).drop 40).drop 40) := goodIn_r _ [224, 225, 226, 227, 228, 229, 230, 231] (by decide +kernel) (by decide +kernel)
set_option maxRecDepth 20000 in
theorem ggX12_land_X12_readsAll : GoodIn wsX12_land wsX12_readsAll := (zgi (wsX12_readsAll) 40 ggX12_land_X12_readsAll_c0 (zgi ((wsX12_readsAll).drop 40) 40 ggX12_land_X12_readsAll_c1 (zgi (((wsX12_readsAll).drop 40).drop 40) 40 ggX12_land_X12_readsAll_c2 (zgi ((((wsX12_readsAll).drop 40).drop 40).drop 40) 40 ggX12_land_X12_readsAll_c3 (zgi (((((wsX12_readsAll).drop 40).drop 40).drop 40).drop 40) 40 ggX12_land_X12_readsAll_c4 ggX12_land_X12_readsAll_c5)))))
set_option maxRecDepth 20000 in
theorem gX12_land_X12_readsAll : GoodIn wsX12_land (wsV RX12 327 RX12 yX12_readsAll wsX12_readsAll) := goodIn_app (goodIn_of _ (by decide +kernel)) ggX12_land_X12_readsAll
set_option maxRecDepth 20000 in
theorem ggX12_land_X12_lays_c0 : GoodIn wsX12_land ((wsX12_lays).take 40) := goodIn_r _ [163, 12, 57, 93, 54, 56, 129, 130, 131, 132, 159, 13, 14, 164, 165, 10, 166, 167, 168, 169, 175, 176, 177, 178, 179, 180, 181, 182, 183, 184, 185, 186, 187, 188, 189, 190, 191, 192, 193, 194] (by decide +kernel) (by decide +kernel)
set_option maxRecDepth 20000 in
theorem ggX12_land_X12_lays_c1 : GoodIn wsX12_land ((wsX12_lays).drop 40) := goodIn_r _ [195, 196, 197, 198, 199, 200, 201, 202, 203, 204, 205, 206, 207, 208, 209, 210, 211, 212, 213, 214, 215, 216, 217, 218, 219, 220, 221, 222, 223, 224, 225, 226, 227, 228, 229, 230, 231] (by decide +kernel) (by decide +kernel)
set_option maxRecDepth 20000 in
theorem ggX12_land_X12_lays : GoodIn wsX12_land wsX12_lays := (zgi (wsX12_lays) 40 ggX12_land_X12_lays_c0 ggX12_land_X12_lays_c1)
set_option maxRecDepth 20000 in
theorem gX12_land_X12_lays : GoodIn wsX12_land (wsV RX12 330 RX12 yX12_lays wsX12_lays) := goodIn_app (goodIn_of _ (by decide +kernel)) ggX12_land_X12_lays
set_option maxRecDepth 20000 in
theorem ggX12_land_X12_fresh0_c0 : GoodIn wsX12_land ((wsX12_fresh0).take 40) := goodIn_r _ [173, 174, 12, 130, 131, 132, 175, 176, 177, 178, 179, 180, 181, 182, 183, 184, 185, 186, 187, 188, 189, 190, 191, 192, 193, 194, 195, 196, 197, 198, 199, 200, 201, 202, 203, 204, 205, 206, 207, 208] (by decide +kernel) (by decide +kernel)
set_option maxRecDepth 20000 in
theorem ggX12_land_X12_fresh0_c1 : GoodIn wsX12_land ((wsX12_fresh0).drop 40) := goodIn_r _ [209, 210, 211, 212, 213, 214, 215, 216, 217, 218, 219, 220, 221, 222, 223, 224, 225, 226, 227, 228, 229, 230, 231] (by decide +kernel) (by decide +kernel)
set_option maxRecDepth 20000 in
theorem ggX12_land_X12_fresh0 : GoodIn wsX12_land wsX12_fresh0 := (zgi (wsX12_fresh0) 40 ggX12_land_X12_fresh0_c0 ggX12_land_X12_fresh0_c1)
set_option maxRecDepth 20000 in
theorem gX12_land_X12_fresh0 : GoodIn wsX12_land (wsV RX12 333 RX12 yX12_fresh0 wsX12_fresh0) := goodIn_app (goodIn_of _ (by decide +kernel)) ggX12_land_X12_fresh0
set_option maxRecDepth 20000 in
theorem ggX12_journey_X12_begins_c0 : GoodIn wsX12_journey ((wsX12_begins).take 40) := goodIn_r _ [10, 11, 12, 13, 14, 15, 16, 9, 17, 18, 19, 20, 21, 4, 22, 23, 24, 25, 26, 27, 106, 107, 108, 109, 110, 111, 112, 113, 114, 115, 116, 117, 118, 119, 120, 121, 122, 123, 124, 125] (by decide +kernel) (by decide +kernel)
set_option maxRecDepth 20000 in
theorem ggX12_journey_X12_begins_c1 : GoodIn wsX12_journey ((wsX12_begins).drop 40) := goodIn_r _ [126, 127, 128, 129, 130, 131, 132, 133, 134, 135, 136, 137, 138, 139, 140, 141, 142, 143, 144, 145, 146, 147, 148, 149, 150, 151, 152, 153, 154, 155, 156, 157, 158, 159, 160, 161, 162] (by decide +kernel) (by decide +kernel)
set_option maxRecDepth 20000 in
theorem ggX12_journey_X12_begins : GoodIn wsX12_journey wsX12_begins := (zgi (wsX12_begins) 40 ggX12_journey_X12_begins_c0 ggX12_journey_X12_begins_c1)
set_option maxRecDepth 20000 in
theorem gX12_journey_X12_begins : GoodIn wsX12_journey (wsV RX12 298 RX12 yX12_begins wsX12_begins) := goodIn_app (goodIn_of _ (by decide +kernel)) ggX12_journey_X12_begins
set_option maxRecDepth 20000 in
theorem ggX12_journey_X12_readsLine_c0 : GoodIn wsX12_journey ((wsX12_readsLine).take 40) := goodIn_r _ [31, 32, 33, 34, 35, 2, 36, 37, 3, 38, 39, 40, 41, 9, 42, 4, 20, 43, 44, 45, 46, 19, 5, 14, 15, 16, 17, 13, 12, 18, 21, 22, 23, 24, 25, 26, 27, 47, 48, 49] (by decide +kernel) (by decide +kernel)
set_option maxRecDepth 20000 in
theorem ggX12_journey_X12_readsLine_c1 : GoodIn wsX12_journey (((wsX12_readsLine).drop 40).take 40) := goodIn_r _ [50, 51, 52, 53, 54, 55, 56, 57, 58, 59, 60, 61, 62, 63, 64, 65, 66, 67, 68, 69, 70, 71, 72, 73, 74, 75, 76, 77, 78, 79, 80, 81, 82, 83, 84, 85, 86, 87, 88, 89] (by decide +kernel) (by decide +kernel)
set_option maxRecDepth 20000 in
theorem ggX12_journey_X12_readsLine_c2 : GoodIn wsX12_journey ((((wsX12_readsLine).drop 40).drop 40).take 40) := goodIn_r _ [90, 91, 92, 93, 94, 95, 96, 97, 98, 99, 100, 101, 106, 107, 108, 109, 110, 111, 112, 113, 114, 115, 116, 117, 118, 119, 120, 121, 122, 123, 124, 125, 126, 127, 128, 129, 130, 131, 132, 133] (by decide +kernel) (by decide +kernel)
set_option maxRecDepth 20000 in
theorem ggX12_journey_X12_readsLine_c3 : GoodIn wsX12_journey ((((wsX12_readsLine).drop 40).drop 40).drop 40) := goodIn_r _ [134, 135, 136, 137, 138, 139, 140, 141, 142, 143, 144, 145, 146, 147, 148, 149, 150, 151, 152, 153, 154, 155, 156, 157, 158, 159, 160, 161, 162] (by decide +kernel) (by decide +kernel)
set_option maxRecDepth 20000 in
theorem ggX12_journey_X12_readsLine : GoodIn wsX12_journey wsX12_readsLine := (zgi (wsX12_readsLine) 40 ggX12_journey_X12_readsLine_c0 (zgi ((wsX12_readsLine).drop 40) 40 ggX12_journey_X12_readsLine_c1 (zgi (((wsX12_readsLine).drop 40).drop 40) 40 ggX12_journey_X12_readsLine_c2 ggX12_journey_X12_readsLine_c3)))
set_option maxRecDepth 20000 in
theorem gX12_journey_X12_readsLine : GoodIn wsX12_journey (wsV RX12 339 RX12 yX12_readsLine wsX12_readsLine) := goodIn_app (goodIn_of _ (by decide +kernel)) ggX12_journey_X12_readsLine
