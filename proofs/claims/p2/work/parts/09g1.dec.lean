set_option maxRecDepth 20000 in
theorem ggX12_closes_X12_fails_c0 : GoodIn wsX12_closes ((wsX12_fails).take 40) := goodIn_r _ [12, 8, 13, 28, 29, 30, 31, 32, 33, 34, 35, 36, 37, 38, 39, 40, 41, 42, 43, 44, 45, 46, 47, 48, 49, 50, 51, 52, 53, 54, 55, 56, 57, 58, 59, 60, 61, 62, 63, 64] (by decide +kernel) (by decide +kernel)
set_option maxRecDepth 20000 in
theorem ggX12_closes_X12_fails_c1 : GoodIn wsX12_closes ((wsX12_fails).drop 40) := goodIn_r _ [65, 66, 67, 68, 69, 70, 71, 72, 73, 74, 75, 76, 77, 78, 79, 80, 81, 82, 83, 84] (by decide +kernel) (by decide +kernel)
set_option maxRecDepth 20000 in
theorem ggX12_closes_X12_fails : GoodIn wsX12_closes wsX12_fails := (zgi (wsX12_fails) 40 ggX12_closes_X12_fails_c0 ggX12_closes_X12_fails_c1)
set_option maxRecDepth 20000 in
theorem gX12_closes_X12_fails : GoodIn wsX12_closes (wsV RX12 193 RX12 yX12_fails wsX12_fails) := goodIn_app (goodIn_of _ (by decide +kernel)) ggX12_closes_X12_fails
set_option maxRecDepth 20000 in
theorem ggX12_closes_X12_nextToken_c0 : GoodIn wsX12_closes ((wsX12_nextToken).take 40) := goodIn_r _ [17, 18, 19, 7, 8, 20, 21, 6, 22, 23, 24, 25, 26, 4, 27, 28, 29, 30, 31, 32, 33, 34, 35, 36, 37, 38, 39, 40, 41, 42, 43, 44, 45, 46, 47, 48, 49, 50, 51, 52] (by decide +kernel) (by decide +kernel)
set_option maxRecDepth 20000 in
theorem ggX12_closes_X12_nextToken_c1 : GoodIn wsX12_closes ((wsX12_nextToken).drop 40) := goodIn_r _ [53, 54, 55, 56, 57, 58, 59, 60, 61, 62, 63, 64, 65, 66, 67, 68, 69, 70, 71, 72, 73, 74, 75, 76, 77, 78, 79, 80, 81, 82, 83, 84] (by decide +kernel) (by decide +kernel)
set_option maxRecDepth 20000 in
theorem ggX12_closes_X12_nextToken : GoodIn wsX12_closes wsX12_nextToken := (zgi (wsX12_nextToken) 40 ggX12_closes_X12_nextToken_c0 ggX12_closes_X12_nextToken_c1)
set_option maxRecDepth 20000 in
theorem gX12_closes_X12_nextToken : GoodIn wsX12_closes (wsV RX12 200 RX12 yX12_nextToken wsX12_nextToken) := goodIn_app (goodIn_of _ (by decide +kernel)) ggX12_closes_X12_nextToken
set_option maxRecDepth 20000 in
theorem ggX12_needsNew_X12_isKept_c0 : GoodIn wsX12_needsNew ((wsX12_isKept).take 40) := goodIn_r _ [7, 8, 1, 9, 10, 11, 12, 13, 14, 15, 16, 17, 18, 19, 20, 21, 22, 23, 24, 25, 26, 27, 28, 29, 61, 62, 63, 64, 65, 66, 67, 68, 69, 70, 71, 72, 73, 74, 75, 76] (by decide +kernel) (by decide +kernel)
set_option maxRecDepth 20000 in
theorem ggX12_needsNew_X12_isKept_c1 : GoodIn wsX12_needsNew (((wsX12_isKept).drop 40).take 40) := goodIn_r _ [77, 78, 79, 80, 81, 82, 83, 84, 85, 86, 87, 88, 89, 90, 91, 92, 93, 94, 95, 96, 97, 98, 99, 100, 101, 102, 103, 104, 105, 106, 107, 108, 109, 110, 111, 112, 113, 114, 115, 116] (by decide +kernel) (by decide +kernel)
set_option maxRecDepth 20000 in
theorem ggX12_needsNew_X12_isKept_c2 : GoodIn wsX12_needsNew (((wsX12_isKept).drop 40).drop 40) := goodIn_r _ [117] (by decide +kernel) (by decide +kernel)
set_option maxRecDepth 20000 in
theorem ggX12_needsNew_X12_isKept : GoodIn wsX12_needsNew wsX12_isKept := (zgi (wsX12_isKept) 40 ggX12_needsNew_X12_isKept_c0 (zgi ((wsX12_isKept).drop 40) 40 ggX12_needsNew_X12_isKept_c1 ggX12_needsNew_X12_isKept_c2))
set_option maxRecDepth 20000 in
theorem gX12_needsNew_X12_isKept : GoodIn wsX12_needsNew (wsV RX12 266 RX12 yX12_isKept wsX12_isKept) := goodIn_app (goodIn_of _ (by decide +kernel)) ggX12_needsNew_X12_isKept
set_option maxRecDepth 20000 in
theorem ggX12_needsNew_X12_fails_c0 : GoodIn wsX12_needsNew ((wsX12_fails).take 40) := goodIn_r _ [33, 34, 35, 61, 62, 63, 64, 65, 66, 67, 68, 69, 70, 71, 72, 73, 74, 75, 76, 77, 78, 79, 80, 81, 82, 83, 84, 85, 86, 87, 88, 89, 90, 91, 92, 93, 94, 95, 96, 97] (by decide +kernel) (by decide +kernel)
set_option maxRecDepth 20000 in
theorem ggX12_needsNew_X12_fails_c1 : GoodIn wsX12_needsNew ((wsX12_fails).drop 40) := goodIn_r _ [98, 99, 100, 101, 102, 103, 104, 105, 106, 107, 108, 109, 110, 111, 112, 113, 114, 115, 116, 117] (by decide +kernel) (by decide +kernel)
set_option maxRecDepth 20000 in
theorem ggX12_needsNew_X12_fails : GoodIn wsX12_needsNew wsX12_fails := (zgi (wsX12_fails) 40 ggX12_needsNew_X12_fails_c0 ggX12_needsNew_X12_fails_c1)
set_option maxRecDepth 20000 in
theorem gX12_needsNew_X12_fails : GoodIn wsX12_needsNew (wsV RX12 193 RX12 yX12_fails wsX12_fails) := goodIn_app (goodIn_of _ (by decide +kernel)) ggX12_needsNew_X12_fails
set_option maxRecDepth 20000 in
theorem ggX12_needsNew_X12_townNamed_c0 : GoodIn wsX12_needsNew ((wsX12_townNamed).take 40) := goodIn_r _ [39, 40, 41, 1, 61, 62, 63, 64, 65, 66, 67, 68, 69, 70, 71, 72, 73, 74, 75, 76, 77, 78, 79, 80, 81, 82, 83, 84, 85, 86, 87, 88, 89, 90, 91, 92, 93, 94, 95, 96] (by decide +kernel) (by decide +kernel)
set_option maxRecDepth 20000 in
theorem ggX12_needsNew_X12_townNamed_c1 : GoodIn wsX12_needsNew ((wsX12_townNamed).drop 40) := goodIn_r _ [97, 98, 99, 100, 101, 102, 103, 104, 105, 106, 107, 108, 109, 110, 111, 112, 113, 114, 115, 116, 117] (by decide +kernel) (by decide +kernel)
set_option maxRecDepth 20000 in
theorem ggX12_needsNew_X12_townNamed : GoodIn wsX12_needsNew wsX12_townNamed := (zgi (wsX12_townNamed) 40 ggX12_needsNew_X12_townNamed_c0 ggX12_needsNew_X12_townNamed_c1)
set_option maxRecDepth 20000 in
theorem gX12_needsNew_X12_townNamed : GoodIn wsX12_needsNew (wsV RX12 270 RX12 yX12_townNamed wsX12_townNamed) := goodIn_app (goodIn_of _ (by decide +kernel)) ggX12_needsNew_X12_townNamed
set_option maxRecDepth 20000 in
theorem ggX12_needsNew_X12_personNamed_c0 : GoodIn wsX12_needsNew ((wsX12_personNamed).take 40) := goodIn_r _ [45, 40, 46, 1, 61, 62, 63, 64, 65, 66, 67, 68, 69, 70, 71, 72, 73, 74, 75, 76, 77, 78, 79, 80, 81, 82, 83, 84, 85, 86, 87, 88, 89, 90, 91, 92, 93, 94, 95, 96] (by decide +kernel) (by decide +kernel)
set_option maxRecDepth 20000 in
theorem ggX12_needsNew_X12_personNamed_c1 : GoodIn wsX12_needsNew ((wsX12_personNamed).drop 40) := goodIn_r _ [97, 98, 99, 100, 101, 102, 103, 104, 105, 106, 107, 108, 109, 110, 111, 112, 113, 114, 115, 116, 117] (by decide +kernel) (by decide +kernel)
set_option maxRecDepth 20000 in
theorem ggX12_needsNew_X12_personNamed : GoodIn wsX12_needsNew wsX12_personNamed := (zgi (wsX12_personNamed) 40 ggX12_needsNew_X12_personNamed_c0 ggX12_needsNew_X12_personNamed_c1)
set_option maxRecDepth 20000 in
theorem gX12_needsNew_X12_personNamed : GoodIn wsX12_needsNew (wsV RX12 273 RX12 yX12_personNamed wsX12_personNamed) := goodIn_app (goodIn_of _ (by decide +kernel)) ggX12_needsNew_X12_personNamed
set_option maxRecDepth 20000 in
theorem ggX12_needsNew_X12_nextToken_c0 : GoodIn wsX12_needsNew ((wsX12_nextToken).take 40) := goodIn_r _ [50, 51, 52, 53, 34, 1, 54, 8, 55, 56, 57, 58, 59, 6, 60, 61, 62, 63, 64, 65, 66, 67, 68, 69, 70, 71, 72, 73, 74, 75, 76, 77, 78, 79, 80, 81, 82, 83, 84, 85] (by decide +kernel) (by decide +kernel)
set_option maxRecDepth 20000 in
theorem ggX12_needsNew_X12_nextToken_c1 : GoodIn wsX12_needsNew ((wsX12_nextToken).drop 40) := goodIn_r _ [86, 87, 88, 89, 90, 91, 92, 93, 94, 95, 96, 97, 98, 99, 100, 101, 102, 103, 104, 105, 106, 107, 108, 109, 110, 111, 112, 113, 114, 115, 116, 117] (by decide +kernel) (by decide +kernel)
set_option maxRecDepth 20000 in
theorem ggX12_needsNew_X12_nextToken : GoodIn wsX12_needsNew wsX12_nextToken := (zgi (wsX12_nextToken) 40 ggX12_needsNew_X12_nextToken_c0 ggX12_needsNew_X12_nextToken_c1)
set_option maxRecDepth 20000 in
theorem gX12_needsNew_X12_nextToken : GoodIn wsX12_needsNew (wsV RX12 200 RX12 yX12_nextToken wsX12_nextToken) := goodIn_app (goodIn_of _ (by decide +kernel)) ggX12_needsNew_X12_nextToken
set_option maxRecDepth 20000 in
theorem ggX12_needsTown_X12_isKept_c0 : GoodIn wsX12_needsTown ((wsX12_isKept).take 40) := goodIn_r _ [6, 7, 8, 9, 10, 11, 12, 13, 14, 15, 16, 17, 18, 19, 20, 21, 22, 23, 24, 25, 26, 27, 28, 29, 42, 43, 44, 45, 46, 47, 48, 49, 50, 51, 52, 53, 54, 55, 56, 57] (by decide +kernel) (by decide +kernel)
set_option maxRecDepth 20000 in
theorem ggX12_needsTown_X12_isKept_c1 : GoodIn wsX12_needsTown (((wsX12_isKept).drop 40).take 40) := goodIn_r _ [58, 59, 60, 61, 62, 63, 64, 65, 66, 67, 68, 69, 70, 71, 72, 73, 74, 75, 76, 77, 78, 79, 80, 81, 82, 83, 84, 85, 86, 87, 88, 89, 90, 91, 92, 93, 94, 95, 96, 97] (by decide +kernel) (by decide +kernel)
set_option maxRecDepth 20000 in
theorem ggX12_needsTown_X12_isKept_c2 : GoodIn wsX12_needsTown (((wsX12_isKept).drop 40).drop 40) := goodIn_r _ [98] (by decide +kernel) (by decide +kernel)
set_option maxRecDepth 20000 in
theorem ggX12_needsTown_X12_isKept : GoodIn wsX12_needsTown wsX12_isKept := (zgi (wsX12_isKept) 40 ggX12_needsTown_X12_isKept_c0 (zgi ((wsX12_isKept).drop 40) 40 ggX12_needsTown_X12_isKept_c1 ggX12_needsTown_X12_isKept_c2))
set_option maxRecDepth 20000 in
theorem gX12_needsTown_X12_isKept : GoodIn wsX12_needsTown (wsV RX12 266 RX12 yX12_isKept wsX12_isKept) := goodIn_app (goodIn_of _ (by decide +kernel)) ggX12_needsTown_X12_isKept
set_option maxRecDepth 20000 in
theorem ggX12_needsTown_X12_fails_c0 : GoodIn wsX12_needsTown ((wsX12_fails).take 40) := goodIn_r _ [33, 34, 35, 42, 43, 44, 45, 46, 47, 48, 49, 50, 51, 52, 53, 54, 55, 56, 57, 58, 59, 60, 61, 62, 63, 64, 65, 66, 67, 68, 69, 70, 71, 72, 73, 74, 75, 76, 77, 78] (by decide +kernel) (by decide +kernel)
set_option maxRecDepth 20000 in
theorem ggX12_needsTown_X12_fails_c1 : GoodIn wsX12_needsTown ((wsX12_fails).drop 40) := goodIn_r _ [79, 80, 81, 82, 83, 84, 85, 86, 87, 88, 89, 90, 91, 92, 93, 94, 95, 96, 97, 98] (by decide +kernel) (by decide +kernel)
set_option maxRecDepth 20000 in
theorem ggX12_needsTown_X12_fails : GoodIn wsX12_needsTown wsX12_fails := (zgi (wsX12_fails) 40 ggX12_needsTown_X12_fails_c0 ggX12_needsTown_X12_fails_c1)
set_option maxRecDepth 20000 in
theorem gX12_needsTown_X12_fails : GoodIn wsX12_needsTown (wsV RX12 193 RX12 yX12_fails wsX12_fails) := goodIn_app (goodIn_of _ (by decide +kernel)) ggX12_needsTown_X12_fails
set_option maxRecDepth 20000 in
theorem ggX12_needsTown_X12_townNamed_c0 : GoodIn wsX12_needsTown ((wsX12_townNamed).take 40) := goodIn_r _ [39, 40, 41, 8, 42, 43, 44, 45, 46, 47, 48, 49, 50, 51, 52, 53, 54, 55, 56, 57, 58, 59, 60, 61, 62, 63, 64, 65, 66, 67, 68, 69, 70, 71, 72, 73, 74, 75, 76, 77] (by decide +kernel) (by decide +kernel)
set_option maxRecDepth 20000 in
theorem ggX12_needsTown_X12_townNamed_c1 : GoodIn wsX12_needsTown ((wsX12_townNamed).drop 40) := goodIn_r _ [78, 79, 80, 81, 82, 83, 84, 85, 86, 87, 88, 89, 90, 91, 92, 93, 94, 95, 96, 97, 98] (by decide +kernel) (by decide +kernel)
set_option maxRecDepth 20000 in
theorem ggX12_needsTown_X12_townNamed : GoodIn wsX12_needsTown wsX12_townNamed := (zgi (wsX12_townNamed) 40 ggX12_needsTown_X12_townNamed_c0 ggX12_needsTown_X12_townNamed_c1)
set_option maxRecDepth 20000 in
theorem gX12_needsTown_X12_townNamed : GoodIn wsX12_needsTown (wsV RX12 270 RX12 yX12_townNamed wsX12_townNamed) := goodIn_app (goodIn_of _ (by decide +kernel)) ggX12_needsTown_X12_townNamed
set_option maxRecDepth 20000 in
theorem ggX12_needsPerson_X12_isKept_c0 : GoodIn wsX12_needsPerson ((wsX12_isKept).take 40) := goodIn_r _ [6, 7, 8, 9, 10, 11, 12, 13, 14, 15, 16, 17, 18, 19, 20, 21, 22, 23, 24, 25, 26, 27, 28, 29, 42, 43, 44, 45, 46, 47, 48, 49, 50, 51, 52, 53, 54, 55, 56, 57] (by decide +kernel) (by decide +kernel)
set_option maxRecDepth 20000 in
theorem ggX12_needsPerson_X12_isKept_c1 : GoodIn wsX12_needsPerson (((wsX12_isKept).drop 40).take 40) := goodIn_r _ [58, 59, 60, 61, 62, 63, 64, 65, 66, 67, 68, 69, 70, 71, 72, 73, 74, 75, 76, 77, 78, 79, 80, 81, 82, 83, 84, 85, 86, 87, 88, 89, 90, 91, 92, 93, 94, 95, 96, 97] (by decide +kernel) (by decide +kernel)
set_option maxRecDepth 20000 in
theorem ggX12_needsPerson_X12_isKept_c2 : GoodIn wsX12_needsPerson (((wsX12_isKept).drop 40).drop 40) := goodIn_r _ [98] (by decide +kernel) (by decide +kernel)
set_option maxRecDepth 20000 in
theorem ggX12_needsPerson_X12_isKept : GoodIn wsX12_needsPerson wsX12_isKept := (zgi (wsX12_isKept) 40 ggX12_needsPerson_X12_isKept_c0 (zgi ((wsX12_isKept).drop 40) 40 ggX12_needsPerson_X12_isKept_c1 ggX12_needsPerson_X12_isKept_c2))
set_option maxRecDepth 20000 in
theorem gX12_needsPerson_X12_isKept : GoodIn wsX12_needsPerson (wsV RX12 266 RX12 yX12_isKept wsX12_isKept) := goodIn_app (goodIn_of _ (by decide +kernel)) ggX12_needsPerson_X12_isKept
set_option maxRecDepth 20000 in
theorem ggX12_needsPerson_X12_fails_c0 : GoodIn wsX12_needsPerson ((wsX12_fails).take 40) := goodIn_r _ [33, 34, 35, 42, 43, 44, 45, 46, 47, 48, 49, 50, 51, 52, 53, 54, 55, 56, 57, 58, 59, 60, 61, 62, 63, 64, 65, 66, 67, 68, 69, 70, 71, 72, 73, 74, 75, 76, 77, 78] (by decide +kernel) (by decide +kernel)
set_option maxRecDepth 20000 in
theorem ggX12_needsPerson_X12_fails_c1 : GoodIn wsX12_needsPerson ((wsX12_fails).drop 40) := goodIn_r _ [79, 80, 81, 82, 83, 84, 85, 86, 87, 88, 89, 90, 91, 92, 93, 94, 95, 96, 97, 98] (by decide +kernel) (by decide +kernel)
set_option maxRecDepth 20000 in
theorem ggX12_needsPerson_X12_fails : GoodIn wsX12_needsPerson wsX12_fails := (zgi (wsX12_fails) 40 ggX12_needsPerson_X12_fails_c0 ggX12_needsPerson_X12_fails_c1)
set_option maxRecDepth 20000 in
theorem gX12_needsPerson_X12_fails : GoodIn wsX12_needsPerson (wsV RX12 193 RX12 yX12_fails wsX12_fails) := goodIn_app (goodIn_of _ (by decide +kernel)) ggX12_needsPerson_X12_fails
set_option maxRecDepth 20000 in
theorem ggX12_needsPerson_X12_personNamed_c0 : GoodIn wsX12_needsPerson ((wsX12_personNamed).take 40) := goodIn_r _ [39, 40, 41, 8, 42, 43, 44, 45, 46, 47, 48, 49, 50, 51, 52, 53, 54, 55, 56, 57, 58, 59, 60, 61, 62, 63, 64, 65, 66, 67, 68, 69, 70, 71, 72, 73, 74, 75, 76, 77] (by decide +kernel) (by decide +kernel)
set_option maxRecDepth 20000 in
theorem ggX12_needsPerson_X12_personNamed_c1 : GoodIn wsX12_needsPerson ((wsX12_personNamed).drop 40) := goodIn_r _ [78, 79, 80, 81, 82, 83, 84, 85, 86, 87, 88, 89, 90, 91, 92, 93, 94, 95, 96, 97, 98] (by decide +kernel) (by decide +kernel)
set_option maxRecDepth 20000 in
theorem ggX12_needsPerson_X12_personNamed : GoodIn wsX12_needsPerson wsX12_personNamed := (zgi (wsX12_personNamed) 40 ggX12_needsPerson_X12_personNamed_c0 ggX12_needsPerson_X12_personNamed_c1)
set_option maxRecDepth 20000 in
theorem gX12_needsPerson_X12_personNamed : GoodIn wsX12_needsPerson (wsV RX12 273 RX12 yX12_personNamed wsX12_personNamed) := goodIn_app (goodIn_of _ (by decide +kernel)) ggX12_needsPerson_X12_personNamed
set_option maxRecDepth 20000 in
theorem ggX12_readsTown_X12_fails_c0 : GoodIn wsX12_readsTown ((wsX12_fails).take 40) := goodIn_r _ [12, 13, 14, 95, 96, 97, 98, 99, 100, 101, 102, 103, 104, 105, 106, 107, 108, 109, 110, 111, 112, 113, 114, 115, 116, 117, 118, 119, 120, 121, 122, 123, 124, 125, 126, 127, 128, 129, 130, 131] (by decide +kernel) (by decide +kernel)
set_option maxRecDepth 20000 in
theorem ggX12_readsTown_X12_fails_c1 : GoodIn wsX12_readsTown ((wsX12_fails).drop 40) := goodIn_r _ [132, 133, 134, 135, 136, 137, 138, 139, 140, 141, 142, 143, 144, 145, 146, 147, 148, 149, 150, 151] (by decide +kernel) (by decide +kernel)
set_option maxRecDepth 20000 in
theorem ggX12_readsTown_X12_fails : GoodIn wsX12_readsTown wsX12_fails := (zgi (wsX12_fails) 40 ggX12_readsTown_X12_fails_c0 ggX12_readsTown_X12_fails_c1)
set_option maxRecDepth 20000 in
theorem gX12_readsTown_X12_fails : GoodIn wsX12_readsTown (wsV RX12 193 RX12 yX12_fails wsX12_fails) := goodIn_app (goodIn_of _ (by decide +kernel)) ggX12_readsTown_X12_fails
set_option maxRecDepth 20000 in
theorem ggX12_readsTown_X12_nextToken_c0 : GoodIn wsX12_readsTown ((wsX12_nextToken).take 40) := goodIn_r _ [18, 19, 20, 21, 13, 22, 23, 24, 25, 26, 27, 28, 29, 11, 30, 95, 96, 97, 98, 99, 100, 101, 102, 103, 104, 105, 106, 107, 108, 109, 110, 111, 112, 113, 114, 115, 116, 117, 118, 119] (by decide +kernel) (by decide +kernel)
set_option maxRecDepth 20000 in
theorem ggX12_readsTown_X12_nextToken_c1 : GoodIn wsX12_readsTown ((wsX12_nextToken).drop 40) := goodIn_r _ [120, 121, 122, 123, 124, 125, 126, 127, 128, 129, 130, 131, 132, 133, 134, 135, 136, 137, 138, 139, 140, 141, 142, 143, 144, 145, 146, 147, 148, 149, 150, 151] (by decide +kernel) (by decide +kernel)
set_option maxRecDepth 20000 in
theorem ggX12_readsTown_X12_nextToken : GoodIn wsX12_readsTown wsX12_nextToken := (zgi (wsX12_nextToken) 40 ggX12_readsTown_X12_nextToken_c0 ggX12_readsTown_X12_nextToken_c1)
set_option maxRecDepth 20000 in
theorem gX12_readsTown_X12_nextToken : GoodIn wsX12_readsTown (wsV RX12 200 RX12 yX12_nextToken wsX12_nextToken) := goodIn_app (goodIn_of _ (by decide +kernel)) ggX12_readsTown_X12_nextToken
set_option maxRecDepth 20000 in
theorem ggX12_readsTown_X12_needsNew_c0 : GoodIn wsX12_readsTown ((wsX12_needsNew).take 40) := goodIn_r _ [34, 22, 7, 35, 36, 37, 11, 38, 24, 39, 2, 40, 41, 42, 43, 44, 45, 46, 47, 48, 49, 50, 51, 52, 53, 54, 55, 56, 57, 58, 8, 9, 10, 12, 13, 14, 59, 60, 61, 62] (by decide +kernel) (by decide +kernel)
set_option maxRecDepth 20000 in
theorem ggX12_readsTown_X12_needsNew_c1 : GoodIn wsX12_readsTown (((wsX12_needsNew).drop 40).take 40) := goodIn_r _ [1, 6, 63, 64, 65, 66, 67, 15, 16, 17, 18, 19, 20, 21, 23, 25, 26, 27, 28, 29, 30, 95, 96, 97, 98, 99, 100, 101, 102, 103, 104, 105, 106, 107, 108, 109, 110, 111, 112, 113] (by decide +kernel) (by decide +kernel)
set_option maxRecDepth 20000 in
theorem ggX12_readsTown_X12_needsNew_c2 : GoodIn wsX12_readsTown (((wsX12_needsNew).drop 40).drop 40) := goodIn_r _ [114, 115, 116, 117, 118, 119, 120, 121, 122, 123, 124, 125, 126, 127, 128, 129, 130, 131, 132, 133, 134, 135, 136, 137, 138, 139, 140, 141, 142, 143, 144, 145, 146, 147, 148, 149, 150, 151] (by decide +kernel) (by decide +kernel)
set_option maxRecDepth 20000 in
theorem ggX12_readsTown_X12_needsNew : GoodIn wsX12_readsTown wsX12_needsNew := (zgi (wsX12_needsNew) 40 ggX12_readsTown_X12_needsNew_c0 (zgi ((wsX12_needsNew).drop 40) 40 ggX12_readsTown_X12_needsNew_c1 ggX12_readsTown_X12_needsNew_c2))
set_option maxRecDepth 20000 in
theorem gX12_readsTown_X12_needsNew : GoodIn wsX12_readsTown (wsV RX12 279 RX12 yX12_needsNew wsX12_needsNew) := goodIn_app (goodIn_of _ (by decide +kernel)) ggX12_readsTown_X12_needsNew
set_option maxRecDepth 20000 in
theorem ggX12_readsTown_X12_needsBoth_c0 : GoodIn wsX12_readsTown ((wsX12_needsBoth).take 40) := goodIn_r _ [71, 72, 73, 74, 11, 75, 76, 77, 78, 79, 24, 22, 8, 9, 10, 12, 13, 14, 15, 16, 17, 18, 19, 20, 21, 23, 25, 26, 27, 28, 29, 30, 80, 81, 82, 83, 4, 84, 85, 86] (by decide +kernel) (by decide +kernel)
set_option maxRecDepth 20000 in
theorem ggX12_readsTown_X12_needsBoth_c1 : GoodIn wsX12_readsTown (((wsX12_needsBoth).drop 40).take 40) := goodIn_r _ [95, 96, 97, 98, 99, 100, 101, 102, 103, 104, 105, 106, 107, 108, 109, 110, 111, 112, 113, 114, 115, 116, 117, 118, 119, 120, 121, 122, 123, 124, 125, 126, 127, 128, 129, 130, 131, 132, 133, 134] (by decide +kernel) (by decide +kernel)
set_option maxRecDepth 20000 in
theorem ggX12_readsTown_X12_needsBoth_c2 : GoodIn wsX12_readsTown (((wsX12_needsBoth).drop 40).drop 40) := goodIn_r _ [135, 136, 137, 138, 139, 140, 141, 142, 143, 144, 145, 146, 147, 148, 149, 150, 151] (by decide +kernel) (by decide +kernel)
set_option maxRecDepth 20000 in
theorem ggX12_readsTown_X12_needsBoth : GoodIn wsX12_readsTown wsX12_needsBoth := (zgi (wsX12_needsBoth) 40 ggX12_readsTown_X12_needsBoth_c0 (zgi ((wsX12_needsBoth).drop 40) 40 ggX12_readsTown_X12_needsBoth_c1 ggX12_readsTown_X12_needsBoth_c2))
set_option maxRecDepth 20000 in
theorem gX12_readsTown_X12_needsBoth : GoodIn wsX12_readsTown (wsV RX12 282 RX12 yX12_needsBoth wsX12_needsBoth) := goodIn_app (goodIn_of _ (by decide +kernel)) ggX12_readsTown_X12_needsBoth
set_option maxRecDepth 20000 in
theorem ggX12_readsTown_X12_closes_c0 : GoodIn wsX12_readsTown ((wsX12_closes).take 40) := goodIn_r _ [90, 91, 92, 93, 11, 94, 24, 21, 13, 8, 9, 10, 12, 14, 15, 16, 17, 18, 19, 20, 22, 23, 25, 26, 27, 28, 29, 30, 95, 96, 97, 98, 99, 100, 101, 102, 103, 104, 105, 106] (by decide +kernel) (by decide +kernel)
set_option maxRecDepth 20000 in
theorem ggX12_readsTown_X12_closes_c1 : GoodIn wsX12_readsTown (((wsX12_closes).drop 40).take 40) := goodIn_r _ [107, 108, 109, 110, 111, 112, 113, 114, 115, 116, 117, 118, 119, 120, 121, 122, 123, 124, 125, 126, 127, 128, 129, 130, 131, 132, 133, 134, 135, 136, 137, 138, 139, 140, 141, 142, 143, 144, 145, 146] (by decide +kernel) (by decide +kernel)
set_option maxRecDepth 20000 in
theorem ggX12_readsTown_X12_closes_c2 : GoodIn wsX12_readsTown (((wsX12_closes).drop 40).drop 40) := goodIn_r _ [147, 148, 149, 150, 151] (by decide +kernel) (by decide +kernel)
set_option maxRecDepth 20000 in
theorem ggX12_readsTown_X12_closes : GoodIn wsX12_readsTown wsX12_closes := (zgi (wsX12_closes) 40 ggX12_readsTown_X12_closes_c0 (zgi ((wsX12_closes).drop 40) 40 ggX12_readsTown_X12_closes_c1 ggX12_readsTown_X12_closes_c2))
set_option maxRecDepth 20000 in
theorem gX12_readsTown_X12_closes : GoodIn wsX12_readsTown (wsV RX12 286 RX12 yX12_closes wsX12_closes) := goodIn_app (goodIn_of _ (by decide +kernel)) ggX12_readsTown_X12_closes
set_option maxRecDepth 20000 in
theorem ggX12_readsRoad_X12_nextToken_c0 : GoodIn wsX12_readsRoad ((wsX12_nextToken).take 40) := goodIn_r _ [7, 8, 9, 10, 11, 12, 13, 14, 15, 16, 17, 18, 19, 6, 20, 69, 70, 71, 72, 73, 74, 75, 76, 77, 78, 79, 80, 81, 82, 83, 84, 85, 86, 87, 88, 89, 90, 91, 92, 93] (by decide +kernel) (by decide +kernel)
set_option maxRecDepth 20000 in
theorem ggX12_readsRoad_X12_nextToken_c1 : GoodIn wsX12_readsRoad ((wsX12_nextToken).drop 40) := goodIn_r _ [94, 95, 96, 97, 98, 99, 100, 101, 102, 103, 104, 105, 106, 107, 108, 109, 110, 111, 112, 113, 114, 115, 116, 117, 118, 119, 120, 121, 122, 123, 124, 125] (by decide +kernel) (by decide +kernel)
set_option maxRecDepth 20000 in
theorem ggX12_readsRoad_X12_nextToken : GoodIn wsX12_readsRoad wsX12_nextToken := (zgi (wsX12_nextToken) 40 ggX12_readsRoad_X12_nextToken_c0 ggX12_readsRoad_X12_nextToken_c1)
set_option maxRecDepth 20000 in
theorem gX12_readsRoad_X12_nextToken : GoodIn wsX12_readsRoad (wsV RX12 200 RX12 yX12_nextToken wsX12_nextToken) := goodIn_app (goodIn_of _ (by decide +kernel)) ggX12_readsRoad_X12_nextToken
set_option maxRecDepth 20000 in
theorem ggX12_readsRoad_X12_needsTown_c0 : GoodIn wsX12_readsRoad ((wsX12_needsTown).take 40) := goodIn_r _ [24, 1, 25, 26, 27, 6, 28, 14, 12, 29, 30, 31, 32, 33, 34, 35, 36, 37, 38, 39, 40, 41, 42, 43, 44, 45, 46, 47, 48, 49, 50, 51, 52, 53, 11, 54, 55, 56, 57, 58] (by decide +kernel) (by decide +kernel)
set_option maxRecDepth 20000 in
theorem ggX12_readsRoad_X12_needsTown_c1 : GoodIn wsX12_readsRoad (((wsX12_needsTown).drop 40).take 40) := goodIn_r _ [59, 60, 69, 70, 71, 72, 73, 74, 75, 76, 77, 78, 79, 80, 81, 82, 83, 84, 85, 86, 87, 88, 89, 90, 91, 92, 93, 94, 95, 96, 97, 98, 99, 100, 101, 102, 103, 104, 105, 106] (by decide +kernel) (by decide +kernel)
set_option maxRecDepth 20000 in
theorem ggX12_readsRoad_X12_needsTown_c2 : GoodIn wsX12_readsRoad (((wsX12_needsTown).drop 40).drop 40) := goodIn_r _ [107, 108, 109, 110, 111, 112, 113, 114, 115, 116, 117, 118, 119, 120, 121, 122, 123, 124, 125] (by decide +kernel) (by decide +kernel)
set_option maxRecDepth 20000 in
theorem ggX12_readsRoad_X12_needsTown : GoodIn wsX12_readsRoad wsX12_needsTown := (zgi (wsX12_needsTown) 40 ggX12_readsRoad_X12_needsTown_c0 (zgi ((wsX12_needsTown).drop 40) 40 ggX12_readsRoad_X12_needsTown_c1 ggX12_readsRoad_X12_needsTown_c2))
set_option maxRecDepth 20000 in
theorem gX12_readsRoad_X12_needsTown : GoodIn wsX12_readsRoad (wsV RX12 289 RX12 yX12_needsTown wsX12_needsTown) := goodIn_app (goodIn_of _ (by decide +kernel)) ggX12_readsRoad_X12_needsTown
