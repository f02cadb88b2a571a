set_option maxRecDepth 20000 in
theorem ggX12_years_X12_livesWeek_c3 : GoodIn wsX12_years ((((wsX12_livesWeek).drop 40).drop 40).drop 40) := goodIn_r _ [136, 137, 138, 139, 140, 141, 142, 143, 144, 145, 146, 147, 148, 149, 150, 151, 152, 153, 154, 155, 156] (by decide +kernel) (by decide +kernel)
set_option maxRecDepth 20000 in
theorem ggX12_years_X12_livesWeek : GoodIn wsX12_years wsX12_livesWeek := (zgi (wsX12_livesWeek) 40 ggX12_years_X12_livesWeek_c0 (zgi ((wsX12_livesWeek).drop 40) 40 ggX12_years_X12_livesWeek_c1 (zgi (((wsX12_livesWeek).drop 40).drop 40) 40 ggX12_years_X12_livesWeek_c2 ggX12_years_X12_livesWeek_c3)))
set_option maxRecDepth 20000 in
theorem gX12_years_X12_livesWeek : GoodIn wsX12_years (wsV RX12 474 RX12 yX12_livesWeek wsX12_livesWeek) := goodIn_app (goodIn_of _ (by decide +kernel)) ggX12_years_X12_livesWeek
