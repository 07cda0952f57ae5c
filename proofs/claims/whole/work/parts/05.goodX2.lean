set_option maxRecDepth 20000 in
theorem ggX2_load_X2_place : GoodIn wsX2_load wsX2_place := goodIn_r _ [4, 5, 6] rfl (by decide +kernel)
set_option maxRecDepth 20000 in
theorem gX2_load_X2_place : GoodIn wsX2_load (va_wsS RX2 27 yX2_place wsX2_place) := goodIn_app (goodIn_of _ (by decide +kernel)) ggX2_load_X2_place
set_option maxRecDepth 20000 in
theorem ggX2_load_X2_at : GoodIn wsX2_load wsX2_at := goodIn_r _ [10, 11, 12, 5, 13, 14, 15, 16] rfl (by decide +kernel)
set_option maxRecDepth 20000 in
theorem gX2_load_X2_at : GoodIn wsX2_load (wsV RX2 31 RX2 yX2_at wsX2_at) := goodIn_app (goodIn_of _ (by decide +kernel)) ggX2_load_X2_at
set_option maxRecDepth 20000 in
theorem ggX2_store_X2_place : GoodIn wsX2_store wsX2_place := goodIn_r _ [4, 5, 6] rfl (by decide +kernel)
set_option maxRecDepth 20000 in
theorem gX2_store_X2_place : GoodIn wsX2_store (va_wsS RX2 27 yX2_place wsX2_place) := goodIn_app (goodIn_of _ (by decide +kernel)) ggX2_store_X2_place
set_option maxRecDepth 20000 in
theorem ggX2_store_X2_put : GoodIn wsX2_store wsX2_put := goodIn_r _ [10, 11, 12, 13, 14, 5, 15, 16, 17, 18] rfl (by decide +kernel)
set_option maxRecDepth 20000 in
theorem gX2_store_X2_put : GoodIn wsX2_store (wsV RX2 35 RX2 yX2_put wsX2_put) := goodIn_app (goodIn_of _ (by decide +kernel)) ggX2_store_X2_put
