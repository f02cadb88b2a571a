set_option maxRecDepth 20000 in
theorem ggX12_land_X12_readsAll_c3 : GoodIn wsX12_land (((((wsX12_readsAll).drop 40).drop 40).drop 40).take 40) := goodIn_r _ [129, 130, 131, 132, 133, 134, 135, 136, 137, 138, 139, 140, 141, 142, 143, 144, 145, 146, 147, 148, 149, 150, 151, 152, 153, 154, 155, 156, 157, 158, 159, 175, 176, 177, 178, 179, 180, 181, 182, 183] (by decide +kernel) (by decide +kernel)
set_option maxRecDepth 20000 in
theorem ggX12_land_X12_readsAll_c4 : GoodIn wsX12_land ((((((wsX12_readsAll).drop 40).drop 40).drop 40).drop 40).take 40) := goodIn_r _ [184, 185, 186, 187, 188, 189, 190, 191, 192, 193, 194, 195, 196, 197, 198, 199, 200, 201, 202, 203, 204, 205, 206, 207, 208, 209, 210, 211, 212, 213, 214, 215, 216, 217, 218, 219, 220, 221, 222, 223] (by decide +kernel) (by decide +kernel)
set_option maxRecDepth 20000 in
theorem ggX12_land_X12_readsAll_c5 : GoodIn wsX12_land ((((((wsX12_readsAll).drop 40).drop 40).drop 40).drop 40).drop 40) := goodIn_r _ [224, 225, 226, 227, 228, 229, 230, 231] (by decide +kernel) (by decide +kernel)
set_option maxRecDepth 20000 in
theorem ggX12_land_X12_readsAll : GoodIn wsX12_land wsX12_readsAll := (zgi (wsX12_readsAll) 40 ggX12_land_X12_readsAll_c0 (zgi ((wsX12_readsAll).drop 40) 40 ggX12_land_X12_readsAll_c1 (zgi (((wsX12_readsAll).drop 40).drop 40) 40 ggX12_land_X12_readsAll_c2 (zgi ((((wsX12_readsAll).drop 40).drop 40).drop 40) 40 ggX12_land_X12_readsAll_c3 (zgi (((((wsX12_readsAll).drop 40).drop 40).drop 40).drop 40) 40 ggX12_land_X12_readsAll_c4 ggX12_land_X12_readsAll_c5)))))
set_option maxRecDepth 20000 in
theorem gX12_land_X12_readsAll : GoodIn wsX12_land (wsV RX12 327 RX12 yX12_readsAll wsX12_readsAll) := goodIn_app (goodIn_of _ (by decide +kernel)) ggX12_land_X12_readsAll
