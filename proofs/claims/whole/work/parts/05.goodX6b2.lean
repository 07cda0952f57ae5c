set_option maxRecDepth 20000 in
theorem ggX6_first_X6_adjustDecimal : GoodIn wsX6_first wsX6_adjustDecimal := goodIn_r _ [104, 23, 105, 106, 107, 9, 108, 43, 58, 59, 60, 61, 78, 79, 80, 81, 31, 82, 62, 63, 64, 65, 51, 52, 53, 54, 113, 114, 115, 116, 117, 118, 119, 120, 121, 122, 123, 124, 125, 126, 127, 128, 129, 130, 131, 132, 133, 134, 135, 136, 137, 138, 139, 140, 141] rfl (by decide +kernel)
set_option maxRecDepth 20000 in
theorem gX6_first_X6_adjustDecimal : GoodIn wsX6_first (wsV RX6 213 RX6 yX6_adjustDecimal wsX6_adjustDecimal) := goodIn_app (goodIn_of _ (by decide +kernel)) ggX6_first_X6_adjustDecimal
set_option maxRecDepth 20000 in
theorem ggX6_first_X6_adjustDigit : GoodIn wsX6_first wsX6_adjustDigit := goodIn_r _ [112, 23, 105, 106, 107, 9, 108, 43, 58, 59, 60, 61, 113, 114, 115, 116, 117, 118, 119, 120, 121, 122, 123, 124, 125, 126, 127, 128, 129, 130, 131, 132, 133, 134, 135, 136, 137, 138, 139, 140, 141] rfl (by decide +kernel)
set_option maxRecDepth 20000 in
theorem gX6_first_X6_adjustDigit : GoodIn wsX6_first (wsV RX6 217 RX6 yX6_adjustDigit wsX6_adjustDigit) := goodIn_app (goodIn_of _ (by decide +kernel)) ggX6_first_X6_adjustDigit
set_option maxRecDepth 20000 in
theorem ggX6_second_X6_operation : GoodIn wsX6_second wsX6_operation := goodIn_r _ [9, 10, 11, 12, 13, 8, 14, 15, 16, 17, 18, 19, 20, 21, 22, 23, 24, 3, 25, 26, 27, 28, 29, 30, 31, 32, 33, 34, 35, 36, 37, 38, 39, 40, 69, 70, 71, 72, 73, 74, 75, 76, 77, 78, 79, 80, 81, 82, 83, 84, 85, 86, 87, 88, 89, 90, 91, 92, 93, 94, 95, 96, 97] rfl (by decide +kernel)
set_option maxRecDepth 20000 in
theorem gX6_second_X6_operation : GoodIn wsX6_second (wsV RX6 187 RX6 yX6_operation wsX6_operation) := goodIn_app (goodIn_of _ (by decide +kernel)) ggX6_second_X6_operation
set_option maxRecDepth 20000 in
theorem ggX6_second_X6_put : GoodIn wsX6_second wsX6_put := goodIn_r _ [44, 45, 46, 8, 47, 3, 48, 49, 50, 51, 52, 53, 54, 55, 56, 69, 70, 71, 72, 73, 74, 75, 76, 77, 78, 79, 80, 81, 82, 83, 84, 85, 86, 87, 88, 89, 90, 91, 92, 93, 94, 95, 96, 97] rfl (by decide +kernel)
set_option maxRecDepth 20000 in
theorem gX6_second_X6_put : GoodIn wsX6_second (wsV RX6 57 RX6 yX6_put wsX6_put) := goodIn_app (goodIn_of _ (by decide +kernel)) ggX6_second_X6_put
set_option maxRecDepth 20000 in
theorem ggX6_second_X6_pop : GoodIn wsX6_second wsX6_pop := goodIn_r _ [60, 4, 2, 3, 61, 62, 63, 8, 64, 45, 46, 47, 48, 65, 66, 67, 68, 53, 56, 69, 70, 71, 72, 73, 74, 75, 76, 77, 78, 79, 80, 81, 82, 83, 84, 85, 86, 87, 88, 89, 90, 91, 92, 93, 94, 95, 96, 97] rfl (by decide +kernel)
set_option maxRecDepth 20000 in
theorem gX6_second_X6_pop : GoodIn wsX6_second (wsV RX6 206 RX6 yX6_pop wsX6_pop) := goodIn_app (goodIn_of _ (by decide +kernel)) ggX6_second_X6_pop
set_option maxRecDepth 20000 in
theorem ggX6_moves_X6_isWide : GoodIn wsX6_moves wsX6_isWide := goodIn_r _ [12, 1, 97, 98, 99, 100, 101, 102, 103, 104, 105, 106, 107, 108, 109, 110, 111, 112, 113, 114, 115, 116, 117, 118, 119, 120, 121, 122, 123, 124, 125] rfl (by decide +kernel)
set_option maxRecDepth 20000 in
theorem gX6_moves_X6_isWide : GoodIn wsX6_moves (wsV RX6 158 RX6 yX6_isWide wsX6_isWide) := goodIn_app (goodIn_of _ (by decide +kernel)) ggX6_moves_X6_isWide
set_option maxRecDepth 20000 in
theorem ggX6_moves_X6_operand : GoodIn wsX6_moves wsX6_operand := goodIn_r _ [16, 17, 18, 19, 6, 20, 21, 22, 11, 23, 5, 24, 25, 26, 27, 28, 29, 30, 31, 32, 33, 34, 35, 36, 37, 38, 97, 98, 99, 100, 101, 102, 103, 104, 105, 106, 107, 108, 109, 110, 111, 112, 113, 114, 115, 116, 117, 118, 119, 120, 121, 122, 123, 124, 125] rfl (by decide +kernel)
set_option maxRecDepth 20000 in
theorem gX6_moves_X6_operand : GoodIn wsX6_moves (wsV RX6 199 RX6 yX6_operand wsX6_operand) := goodIn_app (goodIn_of _ (by decide +kernel)) ggX6_moves_X6_operand
set_option maxRecDepth 20000 in
theorem ggX6_moves_X6_operation : GoodIn wsX6_moves wsX6_operation := goodIn_r _ [42, 43, 44, 45, 46, 11, 47, 48, 49, 50, 51, 52, 53, 54, 55, 56, 57, 31, 58, 59, 60, 61, 62, 63, 64, 65, 66, 67, 68, 69, 70, 71, 72, 73, 97, 98, 99, 100, 101, 102, 103, 104, 105, 106, 107, 108, 109, 110, 111, 112, 113, 114, 115, 116, 117, 118, 119, 120, 121, 122, 123, 124, 125] rfl (by decide +kernel)
set_option maxRecDepth 20000 in
theorem gX6_moves_X6_operation : GoodIn wsX6_moves (wsV RX6 187 RX6 yX6_operation wsX6_operation) := goodIn_app (goodIn_of _ (by decide +kernel)) ggX6_moves_X6_operation
set_option maxRecDepth 20000 in
theorem ggX6_moves_X6_give : GoodIn wsX6_moves wsX6_give := goodIn_r _ [77, 17, 18, 19, 6, 78, 79, 80, 11, 81, 5, 31, 82, 83, 84, 85, 86, 28, 29, 30, 32, 87, 88, 89, 90, 37, 91, 92, 38, 97, 98, 99, 100, 101, 102, 103, 104, 105, 106, 107, 108, 109, 110, 111, 112, 113, 114, 115, 116, 117, 118, 119, 120, 121, 122, 123, 124, 125] rfl (by decide +kernel)
set_option maxRecDepth 20000 in
theorem gX6_moves_X6_give : GoodIn wsX6_moves (wsV RX6 202 RX6 yX6_give wsX6_give) := goodIn_app (goodIn_of _ (by decide +kernel)) ggX6_moves_X6_give
set_option maxRecDepth 20000 in
theorem ggX6_moves_X6_register : GoodIn wsX6_moves wsX6_register := goodIn_r _ [23, 5, 97, 98, 99, 100, 101, 102, 103, 104, 105, 106, 107, 108, 109, 110, 111, 112, 113, 114, 115, 116, 117, 118, 119, 120, 121, 122, 123, 124, 125] rfl (by decide +kernel)
set_option maxRecDepth 20000 in
theorem gX6_moves_X6_register : GoodIn wsX6_moves (wsV RX6 105 RX6 yX6_register wsX6_register) := goodIn_app (goodIn_of _ (by decide +kernel)) ggX6_moves_X6_register
set_option maxRecDepth 20000 in
theorem ggX6_moves_X6_setRegister : GoodIn wsX6_moves wsX6_setRegister := goodIn_r _ [81, 5, 31, 82, 97, 98, 99, 100, 101, 102, 103, 104, 105, 106, 107, 108, 109, 110, 111, 112, 113, 114, 115, 116, 117, 118, 119, 120, 121, 122, 123, 124, 125] rfl (by decide +kernel)
set_option maxRecDepth 20000 in
theorem gX6_moves_X6_setRegister : GoodIn wsX6_moves (wsV RX6 101 RX6 yX6_setRegister wsX6_setRegister) := goodIn_app (goodIn_of _ (by decide +kernel)) ggX6_moves_X6_setRegister
set_option maxRecDepth 20000 in
theorem ggX6_moves_X6_pop : GoodIn wsX6_moves wsX6_pop := goodIn_r _ [96, 4, 5, 31, 24, 25, 26, 11, 27, 28, 29, 30, 32, 33, 34, 35, 36, 37, 38, 97, 98, 99, 100, 101, 102, 103, 104, 105, 106, 107, 108, 109, 110, 111, 112, 113, 114, 115, 116, 117, 118, 119, 120, 121, 122, 123, 124, 125] rfl (by decide +kernel)
set_option maxRecDepth 20000 in
theorem gX6_moves_X6_pop : GoodIn wsX6_moves (wsV RX6 206 RX6 yX6_pop wsX6_pop) := goodIn_app (goodIn_of _ (by decide +kernel)) ggX6_moves_X6_pop
set_option maxRecDepth 20000 in
theorem ggX6_others_X6_extended : GoodIn wsX6_others wsX6_extended := goodIn_r _ [12] rfl (by decide +kernel)
set_option maxRecDepth 20000 in
theorem gX6_others_X6_extended : GoodIn wsX6_others (va_wsS RX6 136 yX6_extended wsX6_extended) := goodIn_app (goodIn_of _ (by decide +kernel)) ggX6_others_X6_extended
set_option maxRecDepth 20000 in
theorem ggX6_others_X6_callFar : GoodIn wsX6_others wsX6_callFar := goodIn_r _ [16, 17, 18, 19, 20, 21, 11, 22, 2, 3, 23, 24, 25, 26, 27, 28, 29, 30, 31, 32, 33, 34, 35, 36, 37, 38, 55, 56, 57, 58, 59, 60, 61, 62, 63, 64, 65, 66, 67, 68, 69, 70, 71, 72, 73, 74, 75, 76, 77, 78, 79, 80, 81, 82, 83] rfl (by decide +kernel)
set_option maxRecDepth 20000 in
theorem gX6_others_X6_callFar : GoodIn wsX6_others (wsV RX6 220 RX6 yX6_callFar wsX6_callFar) := goodIn_app (goodIn_of _ (by decide +kernel)) ggX6_others_X6_callFar
set_option maxRecDepth 20000 in
theorem ggX6_others_X6_push : GoodIn wsX6_others wsX6_push := goodIn_r _ [22, 2, 3, 17, 23, 24, 25, 11, 26, 27, 28, 29, 30, 31, 32, 33, 34, 35, 36, 37, 38, 55, 56, 57, 58, 59, 60, 61, 62, 63, 64, 65, 66, 67, 68, 69, 70, 71, 72, 73, 74, 75, 76, 77, 78, 79, 80, 81, 82, 83] rfl (by decide +kernel)
set_option maxRecDepth 20000 in
theorem gX6_others_X6_push : GoodIn wsX6_others (wsV RX6 183 RX6 yX6_push wsX6_push) := goodIn_app (goodIn_of _ (by decide +kernel)) ggX6_others_X6_push
set_option maxRecDepth 20000 in
theorem ggX6_others_X6_pop : GoodIn wsX6_others wsX6_pop := goodIn_r _ [42, 17, 2, 3, 43, 44, 45, 11, 46, 27, 28, 29, 30, 47, 48, 49, 50, 35, 38, 55, 56, 57, 58, 59, 60, 61, 62, 63, 64, 65, 66, 67, 68, 69, 70, 71, 72, 73, 74, 75, 76, 77, 78, 79, 80, 81, 82, 83] rfl (by decide +kernel)
set_option maxRecDepth 20000 in
theorem gX6_others_X6_pop : GoodIn wsX6_others (wsV RX6 206 RX6 yX6_pop wsX6_pop) := goodIn_app (goodIn_of _ (by decide +kernel)) ggX6_others_X6_pop
set_option maxRecDepth 20000 in
theorem ggX6_others_X6_setRegister : GoodIn wsX6_others wsX6_setRegister := goodIn_r _ [54, 2, 3, 8, 55, 56, 57, 58, 59, 60, 61, 62, 63, 64, 65, 66, 67, 68, 69, 70, 71, 72, 73, 74, 75, 76, 77, 78, 79, 80, 81, 82, 83] rfl (by decide +kernel)
set_option maxRecDepth 20000 in
theorem gX6_others_X6_setRegister : GoodIn wsX6_others (wsV RX6 101 RX6 yX6_setRegister wsX6_setRegister) := goodIn_app (goodIn_of _ (by decide +kernel)) ggX6_others_X6_setRegister
