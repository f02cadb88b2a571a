set_option maxRecDepth 20000 in
theorem ggX12_rests_X12_within : GoodIn wsX12_rests wsX12_within := goodIn_r _ [5] (by decide +kernel) (by decide +kernel)
set_option maxRecDepth 20000 in
theorem gX12_rests_X12_within : GoodIn wsX12_rests (va_wsS RX12 252 yX12_within wsX12_within) := goodIn_app (goodIn_of _ (by decide +kernel)) ggX12_rests_X12_within

set_option maxRecDepth 20000 in
theorem ggX12_rests_X12_guardGets : GoodIn wsX12_rests wsX12_guardGets := goodIn_r _ [8] (by decide +kernel) (by decide +kernel)
set_option maxRecDepth 20000 in
theorem gX12_rests_X12_guardGets : GoodIn wsX12_rests (va_wsS RX12 447 yX12_guardGets wsX12_guardGets) := goodIn_app (goodIn_of _ (by decide +kernel)) ggX12_rests_X12_guardGets
set_option maxRecDepth 20000 in
theorem ggX12_rests_X12_travellerGets : GoodIn wsX12_rests wsX12_travellerGets := goodIn_r _ [11] (by decide +kernel) (by decide +kernel)
set_option maxRecDepth 20000 in
theorem gX12_rests_X12_travellerGets : GoodIn wsX12_rests (va_wsS RX12 451 yX12_travellerGets wsX12_travellerGets) := goodIn_app (goodIn_of _ (by decide +kernel)) ggX12_rests_X12_travellerGets
