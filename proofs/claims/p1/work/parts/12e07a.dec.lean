set_option maxRecDepth 20000 in
theorem ggX12_ask_X12_lengths_c0 : GoodIn wsX12_ask ((wsX12_lengths).take 40) := goodIn_r _ [12, 1, 13, 14, 11, 15, 16, 17, 18, 19, 20, 3, 21, 22, 23, 24, 25, 26, 27, 28, 29, 30, 31, 32, 33, 34, 35, 36, 37, 38, 39, 40, 41, 42, 43, 44, 45, 46, 47, 48] (by decide +kernel) (by decide +kernel)
set_option maxRecDepth 20000 in
theorem ggX12_ask_X12_lengths_c1 : GoodIn wsX12_ask (((wsX12_lengths).drop 40).take 40) := goodIn_r _ [49, 50, 51, 52, 53, 54, 55, 56, 57, 58, 59, 60, 61, 62, 63, 64, 65, 66, 67, 68, 69, 70, 71, 72, 73, 74, 75, 76, 77, 78, 79, 80, 81, 82, 83, 84, 85, 86, 87, 88] (by decide +kernel) (by decide +kernel)
set_option maxRecDepth 20000 in
theorem ggX12_ask_X12_lengths_c2 : GoodIn wsX12_ask (((wsX12_lengths).drop 40).drop 40) := goodIn_r _ [89, 90, 91, 92, 93, 94, 95, 96, 97, 98, 99, 100, 101, 102, 103, 104, 105, 106, 107, 108, 109, 110, 111, 112, 113] (by decide +kernel) (by decide +kernel)
set_option maxRecDepth 20000 in
theorem ggX12_ask_X12_lengths : GoodIn wsX12_ask wsX12_lengths := (zgi (wsX12_lengths) 40 ggX12_ask_X12_lengths_c0 (zgi ((wsX12_lengths).drop 40) 40 ggX12_ask_X12_lengths_c1 ggX12_ask_X12_lengths_c2))
set_option maxRecDepth 20000 in
theorem gX12_ask_X12_lengths : GoodIn wsX12_ask (wsV RX12 444 RX12 yX12_lengths wsX12_lengths) := goodIn_app (goodIn_of _ (by decide +kernel)) ggX12_ask_X12_lengths
