set_option maxRecDepth 20000 in
theorem ggX12_years_X12_livesWeek_c0 : GoodIn wsX12_years ((wsX12_livesWeek).take 40) := goodIn_r _ [17, 18, 19, 5, 3, 4, 20, 21, 22, 9, 23, 2, 24, 25, 26, 27, 28, 29, 30, 31, 32, 33, 34, 35, 36, 37, 38, 39, 40, 41, 42, 43, 44, 45, 46, 47, 48, 49, 50, 51] (by decide +kernel) (by decide +kernel)
set_option maxRecDepth 20000 in
theorem ggX12_years_X12_livesWeek_c1 : GoodIn wsX12_years (((wsX12_livesWeek).drop 40).take 40) := goodIn_r _ [52, 53, 54, 55, 56, 57, 58, 59, 60, 61, 62, 63, 64, 65, 66, 67, 68, 69, 70, 71, 72, 73, 74, 75, 76, 77, 78, 79, 80, 81, 82, 83, 84, 85, 86, 87, 88, 89, 90, 91] (by decide +kernel) (by decide +kernel)
set_option maxRecDepth 20000 in
theorem ggX12_years_X12_livesWeek_c2 : GoodIn wsX12_years ((((wsX12_livesWeek).drop 40).drop 40).take 40) := goodIn_r _ [92, 93, 94, 95, 100, 101, 102, 103, 104, 105, 106, 107, 108, 109, 110, 111, 112, 113, 114, 115, 116, 117, 118, 119, 120, 121, 122, 123, 124, 125, 126, 127, 128, 129, 130, 131, 132, 133, 134, 135] (by decide +kernel) (by decide +kernel)
