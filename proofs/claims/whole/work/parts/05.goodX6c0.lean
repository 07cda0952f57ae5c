set_option maxRecDepth 20000 in
theorem ggX6_memory_X6_register : GoodIn wsX6_memory wsX6_register := goodIn_r _ [38, 12, 108, 109, 110, 111, 112, 113, 114, 115, 116, 117, 118, 119, 120, 121, 122, 123, 124, 125, 126, 127, 128, 129, 130, 131, 132, 133, 134, 135, 136] rfl (by decide +kernel)
set_option maxRecDepth 20000 in
theorem gX6_memory_X6_register : GoodIn wsX6_memory (wsV RX6 105 RX6 yX6_register wsX6_register) := goodIn_app (goodIn_of _ (by decide +kernel)) ggX6_memory_X6_register
set_option maxRecDepth 20000 in
theorem ggX6_memory_X6_put : GoodIn wsX6_memory wsX6_put := goodIn_r _ [42, 25, 26, 6, 27, 13, 28, 43, 44, 45, 46, 33, 47, 48, 34, 108, 109, 110, 111, 112, 113, 114, 115, 116, 117, 118, 119, 120, 121, 122, 123, 124, 125, 126, 127, 128, 129, 130, 131, 132, 133, 134, 135, 136] rfl (by decide +kernel)
set_option maxRecDepth 20000 in
theorem gX6_memory_X6_put : GoodIn wsX6_memory (wsV RX6 57 RX6 yX6_put wsX6_put) := goodIn_app (goodIn_of _ (by decide +kernel)) ggX6_memory_X6_put
set_option maxRecDepth 20000 in
theorem ggX6_memory_X6_isString : GoodIn wsX6_memory wsX6_isString := goodIn_r _ [52, 1, 108, 109, 110, 111, 112, 113, 114, 115, 116, 117, 118, 119, 120, 121, 122, 123, 124, 125, 126, 127, 128, 129, 130, 131, 132, 133, 134, 135, 136] rfl (by decide +kernel)
set_option maxRecDepth 20000 in
theorem gX6_memory_X6_isString : GoodIn wsX6_memory (wsV RX6 223 RX6 yX6_isString wsX6_isString) := goodIn_app (goodIn_of _ (by decide +kernel)) ggX6_memory_X6_isString
set_option maxRecDepth 20000 in
theorem ggX6_memory_X6_strings : GoodIn wsX6_memory wsX6_strings := goodIn_r _ [56, 57, 12, 58, 59, 60, 61, 62, 63, 6, 64, 1, 19, 13, 3, 4, 5, 7, 65, 66, 67, 68, 69, 15, 16, 17, 18, 20, 21, 22, 23, 24, 25, 26, 27, 28, 29, 30, 31, 32, 33, 34, 35, 36, 37, 38, 39, 40, 41, 42, 43, 44, 45, 46, 47, 48, 8, 9, 10, 11, 14, 70, 71, 72, 73, 74, 75, 76, 77, 78, 79, 80, 81, 82, 83, 84, 85, 86, 87, 88, 89, 90, 91, 92, 93, 94, 95, 96, 97, 98, 99, 100, 101, 102, 103, 104, 105, 106, 107, 108, 109, 110, 111, 112, 113, 114, 115, 116, 117, 118, 119, 120, 121, 122, 123, 124, 125, 126, 127, 128, 129, 130, 131, 132, 133, 134, 135, 136] rfl (by decide +kernel)
set_option maxRecDepth 20000 in
theorem gX6_memory_X6_strings : GoodIn wsX6_memory (wsV RX6 226 RX6 yX6_strings wsX6_strings) := goodIn_app (goodIn_of _ (by decide +kernel)) ggX6_memory_X6_strings
set_option maxRecDepth 20000 in
theorem ggX6_memory_X6_operation : GoodIn wsX6_memory wsX6_operation := goodIn_r _ [73, 69, 74, 75, 76, 6, 77, 78, 79, 80, 81, 82, 83, 84, 85, 86, 87, 13, 88, 89, 90, 91, 92, 93, 94, 95, 96, 97, 98, 99, 100, 101, 102, 103, 108, 109, 110, 111, 112, 113, 114, 115, 116, 117, 118, 119, 120, 121, 122, 123, 124, 125, 126, 127, 128, 129, 130, 131, 132, 133, 134, 135, 136] rfl (by decide +kernel)
set_option maxRecDepth 20000 in
theorem gX6_memory_X6_operation : GoodIn wsX6_memory (wsV RX6 187 RX6 yX6_operation wsX6_operation) := goodIn_app (goodIn_of _ (by decide +kernel)) ggX6_memory_X6_operation
set_option maxRecDepth 20000 in
theorem ggX6_returns_X6_pop : GoodIn wsX6_returns wsX6_pop := goodIn_r _ [9, 2, 3, 4, 10, 11, 12, 8, 13, 14, 15, 16, 17, 18, 19, 20, 21, 22, 23, 24, 25, 26, 27, 28, 29, 30, 31, 32, 33, 34, 35, 36, 37, 38, 39, 40, 41, 42, 43, 44, 45, 46, 47, 48, 49, 50, 51, 52] rfl (by decide +kernel)
set_option maxRecDepth 20000 in
theorem gX6_returns_X6_pop : GoodIn wsX6_returns (wsV RX6 206 RX6 yX6_pop wsX6_pop) := goodIn_app (goodIn_of _ (by decide +kernel)) ggX6_returns_X6_pop
set_option maxRecDepth 20000 in
theorem ggX6_returnsAndMore_X6_returns : GoodIn wsX6_returnsAndMore wsX6_returns := goodIn_r _ [13, 14, 3, 6, 15, 16, 17, 18, 12, 19, 20, 21, 22, 23, 24, 25, 26, 27, 28, 29, 30, 31, 32, 33, 80, 81, 82, 83, 84, 85, 86, 87, 88, 89, 90, 91, 92, 93, 94, 95, 96, 97, 98, 99, 100, 101, 102, 103, 104, 105, 106, 107, 108] rfl (by decide +kernel)
set_option maxRecDepth 20000 in
theorem gX6_returnsAndMore_X6_returns : GoodIn wsX6_returnsAndMore (wsV RX6 229 RX6 yX6_returns wsX6_returns) := goodIn_app (goodIn_of _ (by decide +kernel)) ggX6_returnsAndMore_X6_returns
set_option maxRecDepth 20000 in
theorem ggX6_returnsAndMore_X6_operand : GoodIn wsX6_returnsAndMore wsX6_operand := goodIn_r _ [37, 38, 39, 4, 5, 40, 41, 42, 12, 43, 6, 20, 21, 22, 23, 24, 25, 26, 15, 27, 28, 29, 30, 31, 32, 33, 80, 81, 82, 83, 84, 85, 86, 87, 88, 89, 90, 91, 92, 93, 94, 95, 96, 97, 98, 99, 100, 101, 102, 103, 104, 105, 106, 107, 108] rfl (by decide +kernel)
set_option maxRecDepth 20000 in
theorem gX6_returnsAndMore_X6_operand : GoodIn wsX6_returnsAndMore (wsV RX6 199 RX6 yX6_operand wsX6_operand) := goodIn_app (goodIn_of _ (by decide +kernel)) ggX6_returnsAndMore_X6_operand
set_option maxRecDepth 20000 in
theorem ggX6_returnsAndMore_X6_get : GoodIn wsX6_returnsAndMore wsX6_get := goodIn_r _ [23, 24, 25, 12, 26, 15, 27, 28, 29, 30, 31, 32, 33, 80, 81, 82, 83, 84, 85, 86, 87, 88, 89, 90, 91, 92, 93, 94, 95, 96, 97, 98, 99, 100, 101, 102, 103, 104, 105, 106, 107, 108] rfl (by decide +kernel)
set_option maxRecDepth 20000 in
theorem gX6_returnsAndMore_X6_get : GoodIn wsX6_returnsAndMore (wsV RX6 61 RX6 yX6_get wsX6_get) := goodIn_app (goodIn_of _ (by decide +kernel)) ggX6_returnsAndMore_X6_get
set_option maxRecDepth 20000 in
theorem ggX6_returnsAndMore_X6_isWide : GoodIn wsX6_returnsAndMore wsX6_isWide := goodIn_r _ [47, 1, 80, 81, 82, 83, 84, 85, 86, 87, 88, 89, 90, 91, 92, 93, 94, 95, 96, 97, 98, 99, 100, 101, 102, 103, 104, 105, 106, 107, 108] rfl (by decide +kernel)
set_option maxRecDepth 20000 in
theorem gX6_returnsAndMore_X6_isWide : GoodIn wsX6_returnsAndMore (wsV RX6 158 RX6 yX6_isWide wsX6_isWide) := goodIn_app (goodIn_of _ (by decide +kernel)) ggX6_returnsAndMore_X6_isWide
set_option maxRecDepth 20000 in
theorem ggX6_returnsAndMore_X6_give : GoodIn wsX6_returnsAndMore wsX6_give := goodIn_r _ [51, 38, 39, 4, 5, 52, 53, 54, 12, 55, 6, 15, 56, 57, 58, 59, 60, 24, 25, 26, 27, 61, 62, 63, 64, 32, 65, 66, 33, 80, 81, 82, 83, 84, 85, 86, 87, 88, 89, 90, 91, 92, 93, 94, 95, 96, 97, 98, 99, 100, 101, 102, 103, 104, 105, 106, 107, 108] rfl (by decide +kernel)
set_option maxRecDepth 20000 in
theorem gX6_returnsAndMore_X6_give : GoodIn wsX6_returnsAndMore (wsV RX6 202 RX6 yX6_give wsX6_give) := goodIn_app (goodIn_of _ (by decide +kernel)) ggX6_returnsAndMore_X6_give
set_option maxRecDepth 20000 in
theorem ggX6_returnsAndMore_X6_interrupt : GoodIn wsX6_returnsAndMore wsX6_interrupt := goodIn_r _ [70, 8, 71, 3, 14, 72, 73, 74, 12, 75, 6, 15, 57, 58, 59, 60, 24, 25, 26, 27, 61, 62, 63, 64, 32, 65, 66, 33, 20, 21, 22, 23, 28, 29, 30, 31, 80, 81, 82, 83, 84, 85, 86, 87, 88, 89, 90, 91, 92, 93, 94, 95, 96, 97, 98, 99, 100, 101, 102, 103, 104, 105, 106, 107, 108] rfl (by decide +kernel)
set_option maxRecDepth 20000 in
theorem gX6_returnsAndMore_X6_interrupt : GoodIn wsX6_returnsAndMore (wsV RX6 232 RX6 yX6_interrupt wsX6_interrupt) := goodIn_app (goodIn_of _ (by decide +kernel)) ggX6_returnsAndMore_X6_interrupt
set_option maxRecDepth 20000 in
theorem ggX6_returnsAndMore_X6_has : GoodIn wsX6_returnsAndMore wsX6_has := goodIn_r _ [79, 8, 80, 81, 82, 83, 84, 85, 86, 87, 88, 89, 90, 91, 92, 93, 94, 95, 96, 97, 98, 99, 100, 101, 102, 103, 104, 105, 106, 107, 108] rfl (by decide +kernel)
set_option maxRecDepth 20000 in
theorem gX6_returnsAndMore_X6_has : GoodIn wsX6_returnsAndMore (wsV RX6 97 RX6 yX6_has wsX6_has) := goodIn_app (goodIn_of _ (by decide +kernel)) ggX6_returnsAndMore_X6_has
set_option maxRecDepth 20000 in
theorem ggX6_returnsAndMore_X6_pop : GoodIn wsX6_returnsAndMore wsX6_pop := goodIn_r _ [19, 3, 6, 15, 20, 21, 22, 12, 23, 24, 25, 26, 27, 28, 29, 30, 31, 32, 33, 80, 81, 82, 83, 84, 85, 86, 87, 88, 89, 90, 91, 92, 93, 94, 95, 96, 97, 98, 99, 100, 101, 102, 103, 104, 105, 106, 107, 108] rfl (by decide +kernel)
set_option maxRecDepth 20000 in
theorem gX6_returnsAndMore_X6_pop : GoodIn wsX6_returnsAndMore (wsV RX6 206 RX6 yX6_pop wsX6_pop) := goodIn_app (goodIn_of _ (by decide +kernel)) ggX6_returnsAndMore_X6_pop
set_option maxRecDepth 20000 in
theorem ggX6_shiftsAndMore_X6_isWide : GoodIn wsX6_shiftsAndMore wsX6_isWide := goodIn_r _ [9, 2, 100, 101, 102, 103, 104, 105, 106, 107, 108, 109, 110, 111, 112, 113, 114, 115, 116, 117, 118, 119, 120, 121, 122, 123, 124, 125, 126, 127, 128] rfl (by decide +kernel)
set_option maxRecDepth 20000 in
theorem gX6_shiftsAndMore_X6_isWide : GoodIn wsX6_shiftsAndMore (wsV RX6 158 RX6 yX6_isWide wsX6_isWide) := goodIn_app (goodIn_of _ (by decide +kernel)) ggX6_shiftsAndMore_X6_isWide
set_option maxRecDepth 20000 in
theorem ggX6_shiftsAndMore_X6_operand : GoodIn wsX6_shiftsAndMore wsX6_operand := goodIn_r _ [13, 14, 15, 16, 17, 18, 19, 20, 8, 21, 1, 22, 23, 24, 25, 26, 27, 28, 29, 30, 31, 32, 33, 34, 35, 36, 100, 101, 102, 103, 104, 105, 106, 107, 108, 109, 110, 111, 112, 113, 114, 115, 116, 117, 118, 119, 120, 121, 122, 123, 124, 125, 126, 127, 128] rfl (by decide +kernel)
set_option maxRecDepth 20000 in
theorem gX6_shiftsAndMore_X6_operand : GoodIn wsX6_shiftsAndMore (wsV RX6 199 RX6 yX6_operand wsX6_operand) := goodIn_app (goodIn_of _ (by decide +kernel)) ggX6_shiftsAndMore_X6_operand
set_option maxRecDepth 20000 in
theorem ggX6_shiftsAndMore_X6_shifts : GoodIn wsX6_shiftsAndMore wsX6_shifts := goodIn_r _ [40, 41, 42, 43, 8, 44, 45, 46, 47, 48, 49, 50, 51, 52, 29, 53, 54, 55, 56, 57, 58, 59, 60, 100, 101, 102, 103, 104, 105, 106, 107, 108, 109, 110, 111, 112, 113, 114, 115, 116, 117, 118, 119, 120, 121, 122, 123, 124, 125, 126, 127, 128] rfl (by decide +kernel)
set_option maxRecDepth 20000 in
theorem gX6_shiftsAndMore_X6_shifts : GoodIn wsX6_shiftsAndMore (wsV RX6 235 RX6 yX6_shifts wsX6_shifts) := goodIn_app (goodIn_of _ (by decide +kernel)) ggX6_shiftsAndMore_X6_shifts
