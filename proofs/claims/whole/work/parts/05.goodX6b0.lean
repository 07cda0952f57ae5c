set_option maxRecDepth 20000 in
theorem ggX6_follows_X6_fetchMode : GoodIn wsX6_follows wsX6_fetchMode := goodIn_r _ [15, 6, 5, 16, 17, 3, 18, 19, 20, 21, 22, 10, 23, 24, 25, 26, 27, 28, 29, 30, 31, 32, 33, 34, 35, 36, 37, 38, 39, 40, 41, 42, 43, 44, 45, 46, 47, 56, 57, 58, 59, 60, 61, 62, 63, 64, 65, 66, 67, 68, 69, 70, 71, 72, 73, 74, 75, 76, 77, 78, 79, 80, 81, 82, 83, 84] rfl (by decide +kernel)
set_option maxRecDepth 20000 in
theorem gX6_follows_X6_fetchMode : GoodIn wsX6_follows (wsV RX6 155 RX6 yX6_fetchMode wsX6_fetchMode) := goodIn_app (goodIn_of _ (by decide +kernel)) ggX6_follows_X6_fetchMode
set_option maxRecDepth 20000 in
theorem ggX6_follows_X6_isWide : GoodIn wsX6_follows wsX6_isWide := goodIn_r _ [51, 1, 56, 57, 58, 59, 60, 61, 62, 63, 64, 65, 66, 67, 68, 69, 70, 71, 72, 73, 74, 75, 76, 77, 78, 79, 80, 81, 82, 83, 84] rfl (by decide +kernel)
set_option maxRecDepth 20000 in
theorem gX6_follows_X6_isWide : GoodIn wsX6_follows (wsV RX6 158 RX6 yX6_isWide wsX6_isWide) := goodIn_app (goodIn_of _ (by decide +kernel)) ggX6_follows_X6_isWide
set_option maxRecDepth 20000 in
theorem ggX6_follows_X6_fetchNumber : GoodIn wsX6_follows wsX6_fetchNumber := goodIn_r _ [55, 36, 37, 38, 10, 39, 20, 21, 22, 23, 24, 25, 26, 27, 28, 3, 29, 30, 31, 32, 33, 34, 35, 56, 57, 58, 59, 60, 61, 62, 63, 64, 65, 66, 67, 68, 69, 70, 71, 72, 73, 74, 75, 76, 77, 78, 79, 80, 81, 82, 83, 84] rfl (by decide +kernel)
set_option maxRecDepth 20000 in
theorem gX6_follows_X6_fetchNumber : GoodIn wsX6_follows (wsV RX6 161 RX6 yX6_fetchNumber wsX6_fetchNumber) := goodIn_app (goodIn_of _ (by decide +kernel)) ggX6_follows_X6_fetchNumber
set_option maxRecDepth 20000 in
theorem ggX6_follows_X6_fetch : GoodIn wsX6_follows wsX6_fetch := goodIn_r _ [23, 24, 25, 26, 27, 10, 28, 3, 29, 30, 31, 32, 33, 34, 35, 56, 57, 58, 59, 60, 61, 62, 63, 64, 65, 66, 67, 68, 69, 70, 71, 72, 73, 74, 75, 76, 77, 78, 79, 80, 81, 82, 83, 84] rfl (by decide +kernel)
set_option maxRecDepth 20000 in
theorem gX6_follows_X6_fetch : GoodIn wsX6_follows (wsV RX6 117 RX6 yX6_fetch wsX6_fetch) := goodIn_app (goodIn_of _ (by decide +kernel)) ggX6_follows_X6_fetch
set_option maxRecDepth 20000 in
theorem ggX6_follows_X6_extended : GoodIn wsX6_follows wsX6_extended := goodIn_r _ [42] rfl (by decide +kernel)
set_option maxRecDepth 20000 in
theorem gX6_follows_X6_extended : GoodIn wsX6_follows (va_wsS RX6 136 yX6_extended wsX6_extended) := goodIn_app (goodIn_of _ (by decide +kernel)) ggX6_follows_X6_extended
set_option maxRecDepth 20000 in
theorem ggX6_follows_X6_fetchWord : GoodIn wsX6_follows wsX6_fetchWord := goodIn_r _ [39, 20, 21, 22, 10, 23, 24, 25, 26, 27, 28, 3, 29, 30, 31, 32, 33, 34, 35, 56, 57, 58, 59, 60, 61, 62, 63, 64, 65, 66, 67, 68, 69, 70, 71, 72, 73, 74, 75, 76, 77, 78, 79, 80, 81, 82, 83, 84] rfl (by decide +kernel)
set_option maxRecDepth 20000 in
theorem gX6_follows_X6_fetchWord : GoodIn wsX6_follows (wsV RX6 121 RX6 yX6_fetchWord wsX6_fetchWord) := goodIn_app (goodIn_of _ (by decide +kernel)) ggX6_follows_X6_fetchWord
set_option maxRecDepth 20000 in
theorem ggX6_decode_X6_fetch : GoodIn wsX6_decode wsX6_fetch := goodIn_r _ [11, 12, 3, 13, 14, 10, 15, 16, 17, 18, 19, 20, 21, 22, 23, 63, 64, 65, 66, 67, 68, 69, 70, 71, 72, 73, 74, 75, 76, 77, 78, 79, 80, 81, 82, 83, 84, 85, 86, 87, 88, 89, 90, 91] rfl (by decide +kernel)
set_option maxRecDepth 20000 in
theorem gX6_decode_X6_fetch : GoodIn wsX6_decode (wsV RX6 117 RX6 yX6_fetch wsX6_fetch) := goodIn_app (goodIn_of _ (by decide +kernel)) ggX6_decode_X6_fetch
set_option maxRecDepth 20000 in
theorem ggX6_decode_X6_follows : GoodIn wsX6_decode wsX6_follows := goodIn_r _ [27, 6, 28, 16, 29, 30, 31, 32, 33, 34, 10, 35, 36, 37, 38, 39, 40, 41, 42, 43, 7, 8, 9, 11, 12, 3, 13, 14, 15, 17, 18, 19, 20, 21, 22, 23, 44, 45, 46, 47, 48, 49, 50, 51, 52, 53, 54, 4, 55, 56, 57, 58, 59, 60, 61, 62, 63, 64, 65, 66, 67, 68, 69, 70, 71, 72, 73, 74, 75, 76, 77, 78, 79, 80, 81, 82, 83, 84, 85, 86, 87, 88, 89, 90, 91] rfl (by decide +kernel)
set_option maxRecDepth 20000 in
theorem gX6_decode_X6_follows : GoodIn wsX6_decode (wsV RX6 179 RX6 yX6_follows wsX6_follows) := goodIn_app (goodIn_of _ (by decide +kernel)) ggX6_decode_X6_follows
set_option maxRecDepth 20000 in
theorem ggX6_operand_X6_register : GoodIn wsX6_operand wsX6_register := goodIn_r _ [9, 10, 26, 27, 28, 29, 30, 31, 32, 33, 34, 35, 36, 37, 38, 39, 40, 41, 42, 43, 44, 45, 46, 47, 48, 49, 50, 51, 52, 53, 54] rfl (by decide +kernel)
set_option maxRecDepth 20000 in
theorem gX6_operand_X6_register : GoodIn wsX6_operand (wsV RX6 105 RX6 yX6_register wsX6_register) := goodIn_app (goodIn_of _ (by decide +kernel)) ggX6_operand_X6_register
set_option maxRecDepth 20000 in
theorem ggX6_operand_X6_get : GoodIn wsX6_operand wsX6_get := goodIn_r _ [14, 15, 16, 8, 17, 18, 19, 20, 21, 22, 23, 24, 25, 26, 27, 28, 29, 30, 31, 32, 33, 34, 35, 36, 37, 38, 39, 40, 41, 42, 43, 44, 45, 46, 47, 48, 49, 50, 51, 52, 53, 54] rfl (by decide +kernel)
set_option maxRecDepth 20000 in
theorem gX6_operand_X6_get : GoodIn wsX6_operand (wsV RX6 61 RX6 yX6_get wsX6_get) := goodIn_app (goodIn_of _ (by decide +kernel)) ggX6_operand_X6_get
set_option maxRecDepth 20000 in
theorem ggX6_give_X6_setRegister : GoodIn wsX6_give wsX6_setRegister := goodIn_r _ [9, 10, 11, 12, 29, 30, 31, 32, 33, 34, 35, 36, 37, 38, 39, 40, 41, 42, 43, 44, 45, 46, 47, 48, 49, 50, 51, 52, 53, 54, 55, 56, 57] rfl (by decide +kernel)
set_option maxRecDepth 20000 in
theorem gX6_give_X6_setRegister : GoodIn wsX6_give (wsV RX6 101 RX6 yX6_setRegister wsX6_setRegister) := goodIn_app (goodIn_of _ (by decide +kernel)) ggX6_give_X6_setRegister
set_option maxRecDepth 20000 in
theorem ggX6_give_X6_put : GoodIn wsX6_give wsX6_put := goodIn_r _ [16, 17, 18, 8, 19, 11, 20, 21, 22, 23, 24, 25, 26, 27, 28, 29, 30, 31, 32, 33, 34, 35, 36, 37, 38, 39, 40, 41, 42, 43, 44, 45, 46, 47, 48, 49, 50, 51, 52, 53, 54, 55, 56, 57] rfl (by decide +kernel)
set_option maxRecDepth 20000 in
theorem gX6_give_X6_put : GoodIn wsX6_give (wsV RX6 57 RX6 yX6_put wsX6_put) := goodIn_app (goodIn_of _ (by decide +kernel)) ggX6_give_X6_put
set_option maxRecDepth 20000 in
theorem ggX6_interrupt_X6_push : GoodIn wsX6_interrupt wsX6_push := goodIn_r _ [9, 10, 11, 3, 12, 13, 14, 8, 15, 16, 17, 18, 19, 20, 21, 22, 23, 24, 25, 26, 27, 36, 37, 38, 39, 40, 41, 42, 43, 44, 45, 46, 47, 48, 49, 50, 51, 52, 53, 54, 55, 56, 57, 58, 59, 60, 61, 62, 63, 64] rfl (by decide +kernel)
set_option maxRecDepth 20000 in
theorem gX6_interrupt_X6_push : GoodIn wsX6_interrupt (wsV RX6 183 RX6 yX6_push wsX6_push) := goodIn_app (goodIn_of _ (by decide +kernel)) ggX6_interrupt_X6_push
set_option maxRecDepth 20000 in
theorem ggX6_interrupt_X6_get : GoodIn wsX6_interrupt wsX6_get := goodIn_r _ [31, 16, 17, 8, 18, 11, 19, 32, 33, 34, 35, 24, 27, 36, 37, 38, 39, 40, 41, 42, 43, 44, 45, 46, 47, 48, 49, 50, 51, 52, 53, 54, 55, 56, 57, 58, 59, 60, 61, 62, 63, 64] rfl (by decide +kernel)
set_option maxRecDepth 20000 in
theorem gX6_interrupt_X6_get : GoodIn wsX6_interrupt (wsV RX6 61 RX6 yX6_get wsX6_get) := goodIn_app (goodIn_of _ (by decide +kernel)) ggX6_interrupt_X6_get
set_option maxRecDepth 20000 in
theorem ggX6_callFar_X6_push : GoodIn wsX6_callFar wsX6_push := goodIn_r _ [7, 8, 9, 1, 10, 11, 12, 6, 13, 14, 15, 16, 17, 18, 19, 20, 21, 22, 23, 24, 25, 26, 27, 28, 29, 30, 31, 32, 33, 34, 35, 36, 37, 38, 39, 40, 41, 42, 43, 44, 45, 46, 47, 48, 49, 50, 51, 52, 53, 54] rfl (by decide +kernel)
set_option maxRecDepth 20000 in
theorem gX6_callFar_X6_push : GoodIn wsX6_callFar (wsV RX6 183 RX6 yX6_push wsX6_push) := goodIn_app (goodIn_of _ (by decide +kernel)) ggX6_callFar_X6_push
set_option maxRecDepth 20000 in
theorem ggX6_string_X6_isWide : GoodIn wsX6_string wsX6_isWide := goodIn_r _ [9, 1, 87, 88, 89, 90, 91, 92, 93, 94, 95, 96, 97, 98, 99, 100, 101, 102, 103, 104, 105, 106, 107, 108, 109, 110, 111, 112, 113, 114, 115] rfl (by decide +kernel)
set_option maxRecDepth 20000 in
theorem gX6_string_X6_isWide : GoodIn wsX6_string (wsV RX6 158 RX6 yX6_isWide wsX6_isWide) := goodIn_app (goodIn_of _ (by decide +kernel)) ggX6_string_X6_isWide
set_option maxRecDepth 20000 in
theorem ggX6_string_X6_has : GoodIn wsX6_string wsX6_has := goodIn_r _ [13, 14, 87, 88, 89, 90, 91, 92, 93, 94, 95, 96, 97, 98, 99, 100, 101, 102, 103, 104, 105, 106, 107, 108, 109, 110, 111, 112, 113, 114, 115] rfl (by decide +kernel)
set_option maxRecDepth 20000 in
theorem gX6_string_X6_has : GoodIn wsX6_string (wsV RX6 97 RX6 yX6_has wsX6_has) := goodIn_app (goodIn_of _ (by decide +kernel)) ggX6_string_X6_has
