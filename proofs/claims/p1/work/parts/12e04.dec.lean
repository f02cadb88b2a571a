set_option maxRecDepth 20000 in
theorem ggX12_land_X12_fresh0 : GoodIn wsX12_land wsX12_fresh0 := goodIn_r _ [173, 174, 12, 130, 131, 132, 175, 176, 177, 178, 179, 180, 181, 182, 183, 184, 185, 186, 187, 188, 189, 190, 191, 192, 193, 194, 195, 196, 197, 198, 199, 200, 201, 202, 203, 204, 205, 206, 207, 208, 209, 210, 211, 212, 213, 214, 215, 216, 217, 218, 219, 220, 221, 222, 223, 224, 225, 226, 227, 228, 229, 230, 231] (by decide +kernel) (by decide +kernel)
set_option maxRecDepth 20000 in
theorem gX12_land_X12_fresh0 : GoodIn wsX12_land (wsV RX12 333 RX12 yX12_fresh0 wsX12_fresh0) := goodIn_app (goodIn_of _ (by decide +kernel)) ggX12_land_X12_fresh0
