set_option maxRecDepth 20000 in
theorem ggX6_memory_X6_isWide : GoodIn wsX6_memory wsX6_isWide := goodIn_r _ [7, 1, 108, 109, 110, 111, 112, 113, 114, 115, 116, 117, 118, 119, 120, 121, 122, 123, 124, 125, 126, 127, 128, 129, 130, 131, 132, 133, 134, 135, 136] rfl (by decide +kernel)
set_option maxRecDepth 20000 in
theorem gX6_memory_X6_isWide : GoodIn wsX6_memory (wsV RX6 158 RX6 yX6_isWide wsX6_isWide) := goodIn_app (goodIn_of _ (by decide +kernel)) ggX6_memory_X6_isWide
set_option maxRecDepth 20000 in
theorem ggX6_memory_X6_setRegister : GoodIn wsX6_memory wsX6_setRegister := goodIn_r _ [11, 12, 13, 14, 108, 109, 110, 111, 112, 113, 114, 115, 116, 117, 118, 119, 120, 121, 122, 123, 124, 125, 126, 127, 128, 129, 130, 131, 132, 133, 134, 135, 136] rfl (by decide +kernel)
set_option maxRecDepth 20000 in
theorem gX6_memory_X6_setRegister : GoodIn wsX6_memory (wsV RX6 101 RX6 yX6_setRegister wsX6_setRegister) := goodIn_app (goodIn_of _ (by decide +kernel)) ggX6_memory_X6_setRegister
set_option maxRecDepth 20000 in
theorem ggX6_memory_X6_segmentOr : GoodIn wsX6_memory wsX6_segmentOr := goodIn_r _ [18, 19, 20, 108, 109, 110, 111, 112, 113, 114, 115, 116, 117, 118, 119, 120, 121, 122, 123, 124, 125, 126, 127, 128, 129, 130, 131, 132, 133, 134, 135, 136] rfl (by decide +kernel)
set_option maxRecDepth 20000 in
theorem gX6_memory_X6_segmentOr : GoodIn wsX6_memory (wsV RX6 142 RX6 yX6_segmentOr wsX6_segmentOr) := goodIn_app (goodIn_of _ (by decide +kernel)) ggX6_memory_X6_segmentOr
set_option maxRecDepth 20000 in
theorem ggX6_memory_X6_get : GoodIn wsX6_memory wsX6_get := goodIn_r _ [24, 25, 26, 6, 27, 13, 28, 29, 30, 31, 32, 33, 34, 108, 109, 110, 111, 112, 113, 114, 115, 116, 117, 118, 119, 120, 121, 122, 123, 124, 125, 126, 127, 128, 129, 130, 131, 132, 133, 134, 135, 136] rfl (by decide +kernel)
set_option maxRecDepth 20000 in
theorem gX6_memory_X6_get : GoodIn wsX6_memory (wsV RX6 61 RX6 yX6_get wsX6_get) := goodIn_app (goodIn_of _ (by decide +kernel)) ggX6_memory_X6_get
