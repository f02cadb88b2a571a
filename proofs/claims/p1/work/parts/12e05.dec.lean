set_option maxRecDepth 20000 in
theorem ggX12_journey_X12_begins : GoodIn wsX12_journey wsX12_begins := goodIn_r _ [10, 11, 12, 13, 14, 15, 16, 9, 17, 18, 19, 20, 21, 4, 22, 23, 24, 25, 26, 27, 106, 107, 108, 109, 110, 111, 112, 113, 114, 115, 116, 117, 118, 119, 120, 121, 122, 123, 124, 125, 126, 127, 128, 129, 130, 131, 132, 133, 134, 135, 136, 137, 138, 139, 140, 141, 142, 143, 144, 145, 146, 147, 148, 149, 150, 151, 152, 153, 154, 155, 156, 157, 158, 159, 160, 161, 162] (by decide +kernel) (by decide +kernel)
set_option maxRecDepth 20000 in
theorem gX12_journey_X12_begins : GoodIn wsX12_journey (wsV RX12 298 RX12 yX12_begins wsX12_begins) := goodIn_app (goodIn_of _ (by decide +kernel)) ggX12_journey_X12_begins
