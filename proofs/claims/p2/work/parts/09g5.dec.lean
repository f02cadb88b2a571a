set_option maxRecDepth 20000 in
theorem ggX12_forge_X12_within : GoodIn wsX12_forge wsX12_within := goodIn_r _ [11] (by decide +kernel) (by decide +kernel)
set_option maxRecDepth 20000 in
theorem gX12_forge_X12_within : GoodIn wsX12_forge (va_wsS RX12 252 yX12_within wsX12_within) := goodIn_app (goodIn_of _ (by decide +kernel)) ggX12_forge_X12_within
set_option maxRecDepth 20000 in
theorem ggX12_forge_X12_canForge_c0 : GoodIn wsX12_forge ((wsX12_canForge).take 40) := goodIn_r _ [15, 16, 2, 8, 30, 31, 32, 33, 34, 35, 36, 37, 38, 39, 40, 41, 42, 43, 44, 45, 46, 47, 48, 49, 50, 51, 52, 53, 54, 55, 56, 57, 58, 59, 60, 61, 62, 63, 64, 65] (by decide +kernel) (by decide +kernel)
set_option maxRecDepth 20000 in
theorem ggX12_forge_X12_canForge_c1 : GoodIn wsX12_forge ((wsX12_canForge).drop 40) := goodIn_r _ [66, 67, 68, 69, 70, 71, 72, 73, 74, 75, 76, 77, 78, 79, 80, 81, 82, 83, 84, 85, 86] (by decide +kernel) (by decide +kernel)
set_option maxRecDepth 20000 in
theorem ggX12_forge_X12_canForge : GoodIn wsX12_forge wsX12_canForge := (zgi (wsX12_canForge) 40 ggX12_forge_X12_canForge_c0 ggX12_forge_X12_canForge_c1)
set_option maxRecDepth 20000 in
theorem gX12_forge_X12_canForge : GoodIn wsX12_forge (wsV RX12 392 RX12 yX12_canForge wsX12_canForge) := goodIn_app (goodIn_of _ (by decide +kernel)) ggX12_forge_X12_canForge
set_option maxRecDepth 20000 in
theorem ggX12_forge_X12_keeps_c0 : GoodIn wsX12_forge ((wsX12_keeps).take 40) := goodIn_r _ [20, 21, 22, 2, 23, 24, 6, 25, 30, 31, 32, 33, 34, 35, 36, 37, 38, 39, 40, 41, 42, 43, 44, 45, 46, 47, 48, 49, 50, 51, 52, 53, 54, 55, 56, 57, 58, 59, 60, 61] (by decide +kernel) (by decide +kernel)
set_option maxRecDepth 20000 in
theorem ggX12_forge_X12_keeps_c1 : GoodIn wsX12_forge ((wsX12_keeps).drop 40) := goodIn_r _ [62, 63, 64, 65, 66, 67, 68, 69, 70, 71, 72, 73, 74, 75, 76, 77, 78, 79, 80, 81, 82, 83, 84, 85, 86] (by decide +kernel) (by decide +kernel)
set_option maxRecDepth 20000 in
theorem ggX12_forge_X12_keeps : GoodIn wsX12_forge wsX12_keeps := (zgi (wsX12_keeps) 40 ggX12_forge_X12_keeps_c0 ggX12_forge_X12_keeps_c1)
set_option maxRecDepth 20000 in
theorem gX12_forge_X12_keeps : GoodIn wsX12_forge (wsV RX12 386 RX12 yX12_keeps wsX12_keeps) := goodIn_app (goodIn_of _ (by decide +kernel)) ggX12_forge_X12_keeps
set_option maxRecDepth 20000 in
theorem ggX12_forge_X12_forges_c0 : GoodIn wsX12_forge ((wsX12_forges).take 40) := goodIn_r _ [29, 2, 8, 30, 31, 32, 33, 34, 35, 36, 37, 38, 39, 40, 41, 42, 43, 44, 45, 46, 47, 48, 49, 50, 51, 52, 53, 54, 55, 56, 57, 58, 59, 60, 61, 62, 63, 64, 65, 66] (by decide +kernel) (by decide +kernel)
set_option maxRecDepth 20000 in
theorem ggX12_forge_X12_forges_c1 : GoodIn wsX12_forge ((wsX12_forges).drop 40) := goodIn_r _ [67, 68, 69, 70, 71, 72, 73, 74, 75, 76, 77, 78, 79, 80, 81, 82, 83, 84, 85, 86] (by decide +kernel) (by decide +kernel)
set_option maxRecDepth 20000 in
theorem ggX12_forge_X12_forges : GoodIn wsX12_forge wsX12_forges := (zgi (wsX12_forges) 40 ggX12_forge_X12_forges_c0 ggX12_forge_X12_forges_c1)
set_option maxRecDepth 20000 in
theorem gX12_forge_X12_forges : GoodIn wsX12_forge (wsV RX12 395 RX12 yX12_forges wsX12_forges) := goodIn_app (goodIn_of _ (by decide +kernel)) ggX12_forge_X12_forges
set_option maxRecDepth 20000 in
theorem ggX12_shave_X12_isPerson_c0 : GoodIn wsX12_shave ((wsX12_isPerson).take 40) := goodIn_r _ [6, 7, 22, 23, 24, 25, 26, 27, 28, 29, 30, 31, 32, 33, 34, 35, 36, 37, 38, 39, 40, 41, 42, 43, 44, 45, 46, 47, 48, 49, 50, 51, 52, 53, 54, 55, 56, 57, 58, 59] (by decide +kernel) (by decide +kernel)
set_option maxRecDepth 20000 in
theorem ggX12_shave_X12_isPerson_c1 : GoodIn wsX12_shave ((wsX12_isPerson).drop 40) := goodIn_r _ [60, 61, 62, 63, 64, 65, 66, 67, 68, 69, 70, 71, 72, 73, 74, 75, 76, 77, 78] (by decide +kernel) (by decide +kernel)
set_option maxRecDepth 20000 in
theorem ggX12_shave_X12_isPerson : GoodIn wsX12_shave wsX12_isPerson := (zgi (wsX12_isPerson) 40 ggX12_shave_X12_isPerson_c0 ggX12_shave_X12_isPerson_c1)
set_option maxRecDepth 20000 in
theorem gX12_shave_X12_isPerson : GoodIn wsX12_shave (wsV RX12 370 RX12 yX12_isPerson wsX12_isPerson) := goodIn_app (goodIn_of _ (by decide +kernel)) ggX12_shave_X12_isPerson
set_option maxRecDepth 20000 in
theorem ggX12_shave_X12_keeps_c0 : GoodIn wsX12_shave ((wsX12_keeps).take 40) := goodIn_r _ [11, 12, 13, 14, 15, 16, 5, 17, 22, 23, 24, 25, 26, 27, 28, 29, 30, 31, 32, 33, 34, 35, 36, 37, 38, 39, 40, 41, 42, 43, 44, 45, 46, 47, 48, 49, 50, 51, 52, 53] (by decide +kernel) (by decide +kernel)
set_option maxRecDepth 20000 in
theorem ggX12_shave_X12_keeps_c1 : GoodIn wsX12_shave ((wsX12_keeps).drop 40) := goodIn_r _ [54, 55, 56, 57, 58, 59, 60, 61, 62, 63, 64, 65, 66, 67, 68, 69, 70, 71, 72, 73, 74, 75, 76, 77, 78] (by decide +kernel) (by decide +kernel)
set_option maxRecDepth 20000 in
theorem ggX12_shave_X12_keeps : GoodIn wsX12_shave wsX12_keeps := (zgi (wsX12_keeps) 40 ggX12_shave_X12_keeps_c0 ggX12_shave_X12_keeps_c1)
set_option maxRecDepth 20000 in
theorem gX12_shave_X12_keeps : GoodIn wsX12_shave (wsV RX12 386 RX12 yX12_keeps wsX12_keeps) := goodIn_app (goodIn_of _ (by decide +kernel)) ggX12_shave_X12_keeps
set_option maxRecDepth 20000 in
theorem ggX12_shave_X12_shaves_c0 : GoodIn wsX12_shave ((wsX12_shaves).take 40) := goodIn_r _ [21, 14, 22, 23, 24, 25, 26, 27, 28, 29, 30, 31, 32, 33, 34, 35, 36, 37, 38, 39, 40, 41, 42, 43, 44, 45, 46, 47, 48, 49, 50, 51, 52, 53, 54, 55, 56, 57, 58, 59] (by decide +kernel) (by decide +kernel)
set_option maxRecDepth 20000 in
theorem ggX12_shave_X12_shaves_c1 : GoodIn wsX12_shave ((wsX12_shaves).drop 40) := goodIn_r _ [60, 61, 62, 63, 64, 65, 66, 67, 68, 69, 70, 71, 72, 73, 74, 75, 76, 77, 78] (by decide +kernel) (by decide +kernel)
set_option maxRecDepth 20000 in
theorem ggX12_shave_X12_shaves : GoodIn wsX12_shave wsX12_shaves := (zgi (wsX12_shaves) 40 ggX12_shave_X12_shaves_c0 ggX12_shave_X12_shaves_c1)
set_option maxRecDepth 20000 in
theorem gX12_shave_X12_shaves : GoodIn wsX12_shave (wsV RX12 398 RX12 yX12_shaves wsX12_shaves) := goodIn_app (goodIn_of _ (by decide +kernel)) ggX12_shave_X12_shaves
set_option maxRecDepth 20000 in
theorem ggX12_week_X12_keeps_c0 : GoodIn wsX12_week ((wsX12_keeps).take 40) := goodIn_r _ [7, 8, 9, 2, 10, 11, 6, 12, 23, 24, 25, 26, 27, 28, 29, 30, 31, 32, 33, 34, 35, 36, 37, 38, 39, 40, 41, 42, 43, 44, 45, 46, 47, 48, 49, 50, 51, 52, 53, 54] (by decide +kernel) (by decide +kernel)
set_option maxRecDepth 20000 in
theorem ggX12_week_X12_keeps_c1 : GoodIn wsX12_week ((wsX12_keeps).drop 40) := goodIn_r _ [55, 56, 57, 58, 59, 60, 61, 62, 63, 64, 65, 66, 67, 68, 69, 70, 71, 72, 73, 74, 75, 76, 77, 78, 79] (by decide +kernel) (by decide +kernel)
set_option maxRecDepth 20000 in
theorem ggX12_week_X12_keeps : GoodIn wsX12_week wsX12_keeps := (zgi (wsX12_keeps) 40 ggX12_week_X12_keeps_c0 ggX12_week_X12_keeps_c1)
set_option maxRecDepth 20000 in
theorem gX12_week_X12_keeps : GoodIn wsX12_week (wsV RX12 386 RX12 yX12_keeps wsX12_keeps) := goodIn_app (goodIn_of _ (by decide +kernel)) ggX12_week_X12_keeps
set_option maxRecDepth 20000 in
theorem ggX12_week_X12_passes_c0 : GoodIn wsX12_week ((wsX12_passes).take 40) := goodIn_r _ [16, 17, 18, 2, 19, 20, 21, 22, 23, 24, 25, 26, 27, 28, 29, 30, 31, 32, 33, 34, 35, 36, 37, 38, 39, 40, 41, 42, 43, 44, 45, 46, 47, 48, 49, 50, 51, 52, 53, 54] (by decide +kernel) (by decide +kernel)
set_option maxRecDepth 20000 in
theorem ggX12_week_X12_passes_c1 : GoodIn wsX12_week ((wsX12_passes).drop 40) := goodIn_r _ [55, 56, 57, 58, 59, 60, 61, 62, 63, 64, 65, 66, 67, 68, 69, 70, 71, 72, 73, 74, 75, 76, 77, 78, 79] (by decide +kernel) (by decide +kernel)
set_option maxRecDepth 20000 in
theorem ggX12_week_X12_passes : GoodIn wsX12_week wsX12_passes := (zgi (wsX12_passes) 40 ggX12_week_X12_passes_c0 ggX12_week_X12_passes_c1)
set_option maxRecDepth 20000 in
theorem gX12_week_X12_passes : GoodIn wsX12_week (wsV RX12 401 RX12 yX12_passes wsX12_passes) := goodIn_app (goodIn_of _ (by decide +kernel)) ggX12_week_X12_passes
set_option maxRecDepth 20000 in
theorem ggX12_undo_X12_copies : GoodIn wsX12_undo wsX12_copies := goodIn_r _ [8] (by decide +kernel) (by decide +kernel)
set_option maxRecDepth 20000 in
theorem gX12_undo_X12_copies : GoodIn wsX12_undo (va_wsS RX12 379 yX12_copies wsX12_copies) := goodIn_app (goodIn_of _ (by decide +kernel)) ggX12_undo_X12_copies
set_option maxRecDepth 20000 in
theorem ggX12_follows_X12_canGo_c0 : GoodIn wsX12_follows ((wsX12_canGo).take 40) := goodIn_r _ [8, 9, 10, 11, 12, 13, 7, 14, 15, 16, 17, 18, 19, 20, 21, 22, 23, 24, 25, 26, 27, 28, 29, 30, 31, 32, 33, 34, 35, 36, 37, 38, 39, 40, 41, 42, 43, 44, 45, 46] (by decide +kernel) (by decide +kernel)
set_option maxRecDepth 20000 in
theorem ggX12_follows_X12_canGo_c1 : GoodIn wsX12_follows (((wsX12_canGo).drop 40).take 40) := goodIn_r _ [47, 48, 49, 50, 51, 52, 53, 54, 55, 56, 57, 58, 59, 84, 85, 86, 87, 88, 89, 90, 91, 92, 93, 94, 95, 96, 97, 98, 99, 100, 101, 102, 103, 104, 105, 106, 107, 108, 109, 110] (by decide +kernel) (by decide +kernel)
set_option maxRecDepth 20000 in
theorem ggX12_follows_X12_canGo_c2 : GoodIn wsX12_follows (((wsX12_canGo).drop 40).drop 40) := goodIn_r _ [111, 112, 113, 114, 115, 116, 117, 118, 119, 120, 121, 122, 123, 124, 125, 126, 127, 128, 129, 130, 131, 132, 133, 134, 135, 136, 137, 138, 139, 140] (by decide +kernel) (by decide +kernel)
set_option maxRecDepth 20000 in
theorem ggX12_follows_X12_canGo : GoodIn wsX12_follows wsX12_canGo := (zgi (wsX12_canGo) 40 ggX12_follows_X12_canGo_c0 (zgi ((wsX12_canGo).drop 40) 40 ggX12_follows_X12_canGo_c1 ggX12_follows_X12_canGo_c2))
set_option maxRecDepth 20000 in
theorem gX12_follows_X12_canGo : GoodIn wsX12_follows (wsV RX12 383 RX12 yX12_canGo wsX12_canGo) := goodIn_app (goodIn_of _ (by decide +kernel)) ggX12_follows_X12_canGo
set_option maxRecDepth 20000 in
theorem ggX12_follows_X12_goes_c0 : GoodIn wsX12_follows ((wsX12_goes).take 40) := goodIn_r _ [63, 10, 84, 85, 86, 87, 88, 89, 90, 91, 92, 93, 94, 95, 96, 97, 98, 99, 100, 101, 102, 103, 104, 105, 106, 107, 108, 109, 110, 111, 112, 113, 114, 115, 116, 117, 118, 119, 120, 121] (by decide +kernel) (by decide +kernel)
set_option maxRecDepth 20000 in
theorem ggX12_follows_X12_goes_c1 : GoodIn wsX12_follows ((wsX12_goes).drop 40) := goodIn_r _ [122, 123, 124, 125, 126, 127, 128, 129, 130, 131, 132, 133, 134, 135, 136, 137, 138, 139, 140] (by decide +kernel) (by decide +kernel)
set_option maxRecDepth 20000 in
theorem ggX12_follows_X12_goes : GoodIn wsX12_follows wsX12_goes := (zgi (wsX12_goes) 40 ggX12_follows_X12_goes_c0 ggX12_follows_X12_goes_c1)
set_option maxRecDepth 20000 in
theorem gX12_follows_X12_goes : GoodIn wsX12_follows (wsV RX12 389 RX12 yX12_goes wsX12_goes) := goodIn_app (goodIn_of _ (by decide +kernel)) ggX12_follows_X12_goes
set_option maxRecDepth 20000 in
theorem ggX12_follows_X12_canForge_c0 : GoodIn wsX12_follows ((wsX12_canForge).take 40) := goodIn_r _ [67, 15, 10, 20, 84, 85, 86, 87, 88, 89, 90, 91, 92, 93, 94, 95, 96, 97, 98, 99, 100, 101, 102, 103, 104, 105, 106, 107, 108, 109, 110, 111, 112, 113, 114, 115, 116, 117, 118, 119] (by decide +kernel) (by decide +kernel)
set_option maxRecDepth 20000 in
theorem ggX12_follows_X12_canForge_c1 : GoodIn wsX12_follows ((wsX12_canForge).drop 40) := goodIn_r _ [120, 121, 122, 123, 124, 125, 126, 127, 128, 129, 130, 131, 132, 133, 134, 135, 136, 137, 138, 139, 140] (by decide +kernel) (by decide +kernel)
set_option maxRecDepth 20000 in
theorem ggX12_follows_X12_canForge : GoodIn wsX12_follows wsX12_canForge := (zgi (wsX12_canForge) 40 ggX12_follows_X12_canForge_c0 ggX12_follows_X12_canForge_c1)
set_option maxRecDepth 20000 in
theorem gX12_follows_X12_canForge : GoodIn wsX12_follows (wsV RX12 392 RX12 yX12_canForge wsX12_canForge) := goodIn_app (goodIn_of _ (by decide +kernel)) ggX12_follows_X12_canForge
set_option maxRecDepth 20000 in
theorem ggX12_follows_X12_forges_c0 : GoodIn wsX12_follows ((wsX12_forges).take 40) := goodIn_r _ [71, 10, 20, 84, 85, 86, 87, 88, 89, 90, 91, 92, 93, 94, 95, 96, 97, 98, 99, 100, 101, 102, 103, 104, 105, 106, 107, 108, 109, 110, 111, 112, 113, 114, 115, 116, 117, 118, 119, 120] (by decide +kernel) (by decide +kernel)
set_option maxRecDepth 20000 in
theorem ggX12_follows_X12_forges_c1 : GoodIn wsX12_follows ((wsX12_forges).drop 40) := goodIn_r _ [121, 122, 123, 124, 125, 126, 127, 128, 129, 130, 131, 132, 133, 134, 135, 136, 137, 138, 139, 140] (by decide +kernel) (by decide +kernel)
set_option maxRecDepth 20000 in
theorem ggX12_follows_X12_forges : GoodIn wsX12_follows wsX12_forges := (zgi (wsX12_forges) 40 ggX12_follows_X12_forges_c0 ggX12_follows_X12_forges_c1)
set_option maxRecDepth 20000 in
theorem gX12_follows_X12_forges : GoodIn wsX12_follows (wsV RX12 395 RX12 yX12_forges wsX12_forges) := goodIn_app (goodIn_of _ (by decide +kernel)) ggX12_follows_X12_forges
set_option maxRecDepth 20000 in
theorem ggX12_follows_X12_shaves_c0 : GoodIn wsX12_follows ((wsX12_shaves).take 40) := goodIn_r _ [75, 10, 84, 85, 86, 87, 88, 89, 90, 91, 92, 93, 94, 95, 96, 97, 98, 99, 100, 101, 102, 103, 104, 105, 106, 107, 108, 109, 110, 111, 112, 113, 114, 115, 116, 117, 118, 119, 120, 121] (by decide +kernel) (by decide +kernel)
set_option maxRecDepth 20000 in
theorem ggX12_follows_X12_shaves_c1 : GoodIn wsX12_follows ((wsX12_shaves).drop 40) := goodIn_r _ [122, 123, 124, 125, 126, 127, 128, 129, 130, 131, 132, 133, 134, 135, 136, 137, 138, 139, 140] (by decide +kernel) (by decide +kernel)
set_option maxRecDepth 20000 in
theorem ggX12_follows_X12_shaves : GoodIn wsX12_follows wsX12_shaves := (zgi (wsX12_shaves) 40 ggX12_follows_X12_shaves_c0 ggX12_follows_X12_shaves_c1)
set_option maxRecDepth 20000 in
theorem gX12_follows_X12_shaves : GoodIn wsX12_follows (wsV RX12 398 RX12 yX12_shaves wsX12_shaves) := goodIn_app (goodIn_of _ (by decide +kernel)) ggX12_follows_X12_shaves
set_option maxRecDepth 20000 in
theorem ggX12_follows_X12_passes_c0 : GoodIn wsX12_follows ((wsX12_passes).take 40) := goodIn_r _ [79, 20, 15, 10, 80, 81, 82, 83, 84, 85, 86, 87, 88, 89, 90, 91, 92, 93, 94, 95, 96, 97, 98, 99, 100, 101, 102, 103, 104, 105, 106, 107, 108, 109, 110, 111, 112, 113, 114, 115] (by decide +kernel) (by decide +kernel)
set_option maxRecDepth 20000 in
theorem ggX12_follows_X12_passes_c1 : GoodIn wsX12_follows ((wsX12_passes).drop 40) := goodIn_r _ [116, 117, 118, 119, 120, 121, 122, 123, 124, 125, 126, 127, 128, 129, 130, 131, 132, 133, 134, 135, 136, 137, 138, 139, 140] (by decide +kernel) (by decide +kernel)
set_option maxRecDepth 20000 in
theorem ggX12_follows_X12_passes : GoodIn wsX12_follows wsX12_passes := (zgi (wsX12_passes) 40 ggX12_follows_X12_passes_c0 ggX12_follows_X12_passes_c1)
set_option maxRecDepth 20000 in
theorem gX12_follows_X12_passes : GoodIn wsX12_follows (wsV RX12 401 RX12 yX12_passes wsX12_passes) := goodIn_app (goodIn_of _ (by decide +kernel)) ggX12_follows_X12_passes
set_option maxRecDepth 20000 in
theorem ggX12_judged_X12_within : GoodIn wsX12_judged wsX12_within := goodIn_r _ [11] (by decide +kernel) (by decide +kernel)
set_option maxRecDepth 20000 in
theorem gX12_judged_X12_within : GoodIn wsX12_judged (va_wsS RX12 252 yX12_within wsX12_within) := goodIn_app (goodIn_of _ (by decide +kernel)) ggX12_judged_X12_within
set_option maxRecDepth 20000 in
theorem ggX12_judged_X12_copies : GoodIn wsX12_judged wsX12_copies := goodIn_r _ [14] (by decide +kernel) (by decide +kernel)
set_option maxRecDepth 20000 in
theorem gX12_judged_X12_copies : GoodIn wsX12_judged (va_wsS RX12 379 yX12_copies wsX12_copies) := goodIn_app (goodIn_of _ (by decide +kernel)) ggX12_judged_X12_copies
set_option maxRecDepth 20000 in
theorem ggX12_judged_X12_fresh0_c0 : GoodIn wsX12_judged ((wsX12_fresh0).take 40) := goodIn_r _ [18, 2, 19, 20, 21, 22, 115, 116, 117, 118, 119, 120, 121, 122, 123, 124, 125, 126, 127, 128, 129, 130, 131, 132, 133, 134, 135, 136, 137, 138, 139, 140, 141, 142, 143, 144, 145, 146, 147, 148] (by decide +kernel) (by decide +kernel)
set_option maxRecDepth 20000 in
theorem ggX12_judged_X12_fresh0_c1 : GoodIn wsX12_judged ((wsX12_fresh0).drop 40) := goodIn_r _ [149, 150, 151, 152, 153, 154, 155, 156, 157, 158, 159, 160, 161, 162, 163, 164, 165, 166, 167, 168, 169, 170, 171] (by decide +kernel) (by decide +kernel)
set_option maxRecDepth 20000 in
theorem ggX12_judged_X12_fresh0 : GoodIn wsX12_judged wsX12_fresh0 := (zgi (wsX12_fresh0) 40 ggX12_judged_X12_fresh0_c0 ggX12_judged_X12_fresh0_c1)
set_option maxRecDepth 20000 in
theorem gX12_judged_X12_fresh0 : GoodIn wsX12_judged (wsV RX12 333 RX12 yX12_fresh0 wsX12_fresh0) := goodIn_app (goodIn_of _ (by decide +kernel)) ggX12_judged_X12_fresh0
set_option maxRecDepth 20000 in
theorem ggX12_judged_X12_allOf_c0 : GoodIn wsX12_judged ((wsX12_allOf).take 40) := goodIn_r _ [26, 2, 115, 116, 117, 118, 119, 120, 121, 122, 123, 124, 125, 126, 127, 128, 129, 130, 131, 132, 133, 134, 135, 136, 137, 138, 139, 140, 141, 142, 143, 144, 145, 146, 147, 148, 149, 150, 151, 152] (by decide +kernel) (by decide +kernel)
set_option maxRecDepth 20000 in
theorem ggX12_judged_X12_allOf_c1 : GoodIn wsX12_judged ((wsX12_allOf).drop 40) := goodIn_r _ [153, 154, 155, 156, 157, 158, 159, 160, 161, 162, 163, 164, 165, 166, 167, 168, 169, 170, 171] (by decide +kernel) (by decide +kernel)
set_option maxRecDepth 20000 in
theorem ggX12_judged_X12_allOf : GoodIn wsX12_judged wsX12_allOf := (zgi (wsX12_allOf) 40 ggX12_judged_X12_allOf_c0 ggX12_judged_X12_allOf_c1)
set_option maxRecDepth 20000 in
theorem gX12_judged_X12_allOf : GoodIn wsX12_judged (wsV RX12 407 RX12 yX12_allOf wsX12_allOf) := goodIn_app (goodIn_of _ (by decide +kernel)) ggX12_judged_X12_allOf
