set_option maxRecDepth 20000 in
theorem ggX11_isAtRest_X11_guardGets : GoodIn wsX11_isAtRest wsX11_guardGets := goodIn_r _ [4] (by decide +kernel) (by decide +kernel)
set_option maxRecDepth 20000 in
theorem gX11_isAtRest_X11_guardGets : GoodIn wsX11_isAtRest (va_wsS RX11 341 yX11_guardGets wsX11_guardGets) := goodIn_app (goodIn_of _ (by decide +kernel)) ggX11_isAtRest_X11_guardGets
set_option maxRecDepth 20000 in
theorem ggX11_isAtRest_X11_travellerGets : GoodIn wsX11_isAtRest wsX11_travellerGets := goodIn_r _ [7] (by decide +kernel) (by decide +kernel)
set_option maxRecDepth 20000 in
theorem gX11_isAtRest_X11_travellerGets : GoodIn wsX11_isAtRest (va_wsS RX11 345 yX11_travellerGets wsX11_travellerGets) := goodIn_app (goodIn_of _ (by decide +kernel)) ggX11_isAtRest_X11_travellerGets
