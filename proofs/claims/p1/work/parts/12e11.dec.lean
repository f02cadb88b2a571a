set_option maxRecDepth 20000 in
theorem ggX12_mark_X12_laysSeen : GoodIn wsX12_mark wsX12_laysSeen := goodIn_r _ [21, 22, 23, 24, 28, 29, 30, 31, 32, 33, 34, 35, 36, 37, 38, 39, 40, 41, 42, 43, 44, 45, 46, 47, 48, 49, 50, 51, 52, 53, 54, 55, 56, 57, 58, 59, 60, 61, 62, 63, 64, 65, 66, 67, 68, 69, 70, 71, 72, 73, 74, 75, 76, 77, 78, 79, 80, 81, 82, 83, 84] (by decide +kernel) (by decide +kernel)
set_option maxRecDepth 20000 in
theorem gX12_mark_X12_laysSeen : GoodIn wsX12_mark (wsV RX12 480 RX12 yX12_laysSeen wsX12_laysSeen) := goodIn_app (goodIn_of _ (by decide +kernel)) ggX12_mark_X12_laysSeen
