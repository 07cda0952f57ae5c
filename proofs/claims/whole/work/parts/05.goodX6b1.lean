set_option maxRecDepth 20000 in
theorem ggX6_string_X6_segmentOr : GoodIn wsX6_string wsX6_segmentOr := goodIn_r _ [18, 3, 19, 87, 88, 89, 90, 91, 92, 93, 94, 95, 96, 97, 98, 99, 100, 101, 102, 103, 104, 105, 106, 107, 108, 109, 110, 111, 112, 113, 114, 115] rfl (by decide +kernel)
set_option maxRecDepth 20000 in
theorem gX6_string_X6_segmentOr : GoodIn wsX6_string (wsV RX6 142 RX6 yX6_segmentOr wsX6_segmentOr) := goodIn_app (goodIn_of _ (by decide +kernel)) ggX6_string_X6_segmentOr
set_option maxRecDepth 20000 in
theorem ggX6_string_X6_get : GoodIn wsX6_string wsX6_get := goodIn_r _ [23, 24, 25, 8, 26, 4, 27, 28, 29, 30, 31, 32, 33, 87, 88, 89, 90, 91, 92, 93, 94, 95, 96, 97, 98, 99, 100, 101, 102, 103, 104, 105, 106, 107, 108, 109, 110, 111, 112, 113, 114, 115] rfl (by decide +kernel)
set_option maxRecDepth 20000 in
theorem gX6_string_X6_get : GoodIn wsX6_string (wsV RX6 61 RX6 yX6_get wsX6_get) := goodIn_app (goodIn_of _ (by decide +kernel)) ggX6_string_X6_get
set_option maxRecDepth 20000 in
theorem ggX6_string_X6_register : GoodIn wsX6_string wsX6_register := goodIn_r _ [37, 2, 87, 88, 89, 90, 91, 92, 93, 94, 95, 96, 97, 98, 99, 100, 101, 102, 103, 104, 105, 106, 107, 108, 109, 110, 111, 112, 113, 114, 115] rfl (by decide +kernel)
set_option maxRecDepth 20000 in
theorem gX6_string_X6_register : GoodIn wsX6_string (wsV RX6 105 RX6 yX6_register wsX6_register) := goodIn_app (goodIn_of _ (by decide +kernel)) ggX6_string_X6_register
set_option maxRecDepth 20000 in
theorem ggX6_string_X6_put : GoodIn wsX6_string wsX6_put := goodIn_r _ [41, 24, 25, 8, 26, 4, 27, 42, 43, 44, 45, 32, 46, 47, 33, 87, 88, 89, 90, 91, 92, 93, 94, 95, 96, 97, 98, 99, 100, 101, 102, 103, 104, 105, 106, 107, 108, 109, 110, 111, 112, 113, 114, 115] rfl (by decide +kernel)
set_option maxRecDepth 20000 in
theorem gX6_string_X6_put : GoodIn wsX6_string (wsV RX6 57 RX6 yX6_put wsX6_put) := goodIn_app (goodIn_of _ (by decide +kernel)) ggX6_string_X6_put
set_option maxRecDepth 20000 in
theorem ggX6_string_X6_setRegister : GoodIn wsX6_string wsX6_setRegister := goodIn_r _ [51, 2, 4, 52, 87, 88, 89, 90, 91, 92, 93, 94, 95, 96, 97, 98, 99, 100, 101, 102, 103, 104, 105, 106, 107, 108, 109, 110, 111, 112, 113, 114, 115] rfl (by decide +kernel)
set_option maxRecDepth 20000 in
theorem gX6_string_X6_setRegister : GoodIn wsX6_string (wsV RX6 101 RX6 yX6_setRegister wsX6_setRegister) := goodIn_app (goodIn_of _ (by decide +kernel)) ggX6_string_X6_setRegister
set_option maxRecDepth 20000 in
theorem ggX6_string_X6_operation : GoodIn wsX6_string wsX6_operation := goodIn_r _ [56, 14, 57, 58, 59, 8, 60, 61, 62, 63, 64, 65, 66, 67, 68, 69, 70, 4, 71, 72, 73, 74, 75, 76, 77, 78, 79, 80, 81, 82, 83, 84, 85, 86, 87, 88, 89, 90, 91, 92, 93, 94, 95, 96, 97, 98, 99, 100, 101, 102, 103, 104, 105, 106, 107, 108, 109, 110, 111, 112, 113, 114, 115] rfl (by decide +kernel)
set_option maxRecDepth 20000 in
theorem gX6_string_X6_operation : GoodIn wsX6_string (wsV RX6 187 RX6 yX6_operation wsX6_operation) := goodIn_app (goodIn_of _ (by decide +kernel)) ggX6_string_X6_operation
set_option maxRecDepth 20000 in
theorem ggX6_strings_X6_string : GoodIn wsX6_strings wsX6_string := goodIn_r _ [10, 11, 2, 12, 13, 14, 15, 16, 9, 17, 18, 19, 20, 21, 22, 23, 24, 25, 26, 27, 28, 29, 30, 31, 32, 33, 34, 35, 36, 37, 38, 39, 40, 41, 42, 43, 44, 45, 46, 47, 48, 49, 50, 51, 52, 53, 54, 55, 56, 57, 58, 59, 60, 61, 62, 63, 64, 65, 66, 67, 68, 69, 70, 71, 72, 73, 74, 75, 76, 77, 78, 79, 80, 81, 82, 83, 84, 85, 86, 87, 88, 89, 90, 91, 92, 93, 94, 99, 100, 101, 102, 103, 104, 105, 106, 107, 108, 109, 110, 111, 112, 113, 114, 115, 116, 117, 118, 119, 120, 121, 122, 123, 124, 125, 126, 127] rfl (by decide +kernel)
set_option maxRecDepth 20000 in
theorem gX6_strings_X6_string : GoodIn wsX6_strings (wsV RX6 190 RX6 yX6_string wsX6_string) := goodIn_app (goodIn_of _ (by decide +kernel)) ggX6_strings_X6_string
set_option maxRecDepth 20000 in
theorem ggX6_strings_X6_compares : GoodIn wsX6_strings wsX6_compares := goodIn_r _ [98, 11, 99, 100, 101, 102, 103, 104, 105, 106, 107, 108, 109, 110, 111, 112, 113, 114, 115, 116, 117, 118, 119, 120, 121, 122, 123, 124, 125, 126, 127] rfl (by decide +kernel)
set_option maxRecDepth 20000 in
theorem gX6_strings_X6_compares : GoodIn wsX6_strings (wsV RX6 196 RX6 yX6_compares wsX6_compares) := goodIn_app (goodIn_of _ (by decide +kernel)) ggX6_strings_X6_compares
set_option maxRecDepth 20000 in
theorem ggX6_strings_X6_has : GoodIn wsX6_strings wsX6_has := goodIn_r _ [21, 22, 99, 100, 101, 102, 103, 104, 105, 106, 107, 108, 109, 110, 111, 112, 113, 114, 115, 116, 117, 118, 119, 120, 121, 122, 123, 124, 125, 126, 127] rfl (by decide +kernel)
set_option maxRecDepth 20000 in
theorem gX6_strings_X6_has : GoodIn wsX6_strings (wsV RX6 97 RX6 yX6_has wsX6_has) := goodIn_app (goodIn_of _ (by decide +kernel)) ggX6_strings_X6_has
set_option maxRecDepth 20000 in
theorem ggX6_first_X6_isWide : GoodIn wsX6_first wsX6_isWide := goodIn_r _ [10, 1, 113, 114, 115, 116, 117, 118, 119, 120, 121, 122, 123, 124, 125, 126, 127, 128, 129, 130, 131, 132, 133, 134, 135, 136, 137, 138, 139, 140, 141] rfl (by decide +kernel)
set_option maxRecDepth 20000 in
theorem gX6_first_X6_isWide : GoodIn wsX6_first (wsV RX6 158 RX6 yX6_isWide wsX6_isWide) := goodIn_app (goodIn_of _ (by decide +kernel)) ggX6_first_X6_isWide
set_option maxRecDepth 20000 in
theorem ggX6_first_X6_operand : GoodIn wsX6_first wsX6_operand := goodIn_r _ [14, 15, 16, 17, 18, 19, 20, 21, 9, 22, 23, 24, 25, 26, 27, 28, 29, 30, 31, 32, 33, 34, 35, 36, 37, 38, 113, 114, 115, 116, 117, 118, 119, 120, 121, 122, 123, 124, 125, 126, 127, 128, 129, 130, 131, 132, 133, 134, 135, 136, 137, 138, 139, 140, 141] rfl (by decide +kernel)
set_option maxRecDepth 20000 in
theorem gX6_first_X6_operand : GoodIn wsX6_first (wsV RX6 199 RX6 yX6_operand wsX6_operand) := goodIn_app (goodIn_of _ (by decide +kernel)) ggX6_first_X6_operand
set_option maxRecDepth 20000 in
theorem ggX6_first_X6_register : GoodIn wsX6_first wsX6_register := goodIn_r _ [22, 23, 113, 114, 115, 116, 117, 118, 119, 120, 121, 122, 123, 124, 125, 126, 127, 128, 129, 130, 131, 132, 133, 134, 135, 136, 137, 138, 139, 140, 141] rfl (by decide +kernel)
set_option maxRecDepth 20000 in
theorem gX6_first_X6_register : GoodIn wsX6_first (wsV RX6 105 RX6 yX6_register wsX6_register) := goodIn_app (goodIn_of _ (by decide +kernel)) ggX6_first_X6_register
set_option maxRecDepth 20000 in
theorem ggX6_first_X6_operation : GoodIn wsX6_first wsX6_operation := goodIn_r _ [42, 43, 44, 45, 46, 9, 47, 48, 49, 50, 51, 52, 53, 54, 55, 56, 57, 31, 58, 59, 60, 61, 62, 63, 64, 65, 66, 67, 68, 69, 70, 71, 72, 73, 113, 114, 115, 116, 117, 118, 119, 120, 121, 122, 123, 124, 125, 126, 127, 128, 129, 130, 131, 132, 133, 134, 135, 136, 137, 138, 139, 140, 141] rfl (by decide +kernel)
set_option maxRecDepth 20000 in
theorem gX6_first_X6_operation : GoodIn wsX6_first (wsV RX6 187 RX6 yX6_operation wsX6_operation) := goodIn_app (goodIn_of _ (by decide +kernel)) ggX6_first_X6_operation
set_option maxRecDepth 20000 in
theorem ggX6_first_X6_give : GoodIn wsX6_first wsX6_give := goodIn_r _ [77, 15, 16, 17, 18, 78, 79, 80, 9, 81, 23, 31, 82, 83, 84, 85, 86, 28, 29, 30, 32, 87, 88, 89, 90, 37, 91, 92, 38, 113, 114, 115, 116, 117, 118, 119, 120, 121, 122, 123, 124, 125, 126, 127, 128, 129, 130, 131, 132, 133, 134, 135, 136, 137, 138, 139, 140, 141] rfl (by decide +kernel)
set_option maxRecDepth 20000 in
theorem gX6_first_X6_give : GoodIn wsX6_first (wsV RX6 202 RX6 yX6_give wsX6_give) := goodIn_app (goodIn_of _ (by decide +kernel)) ggX6_first_X6_give
set_option maxRecDepth 20000 in
theorem ggX6_first_X6_setRegister : GoodIn wsX6_first wsX6_setRegister := goodIn_r _ [81, 23, 31, 82, 113, 114, 115, 116, 117, 118, 119, 120, 121, 122, 123, 124, 125, 126, 127, 128, 129, 130, 131, 132, 133, 134, 135, 136, 137, 138, 139, 140, 141] rfl (by decide +kernel)
set_option maxRecDepth 20000 in
theorem gX6_first_X6_setRegister : GoodIn wsX6_first (wsV RX6 101 RX6 yX6_setRegister wsX6_setRegister) := goodIn_app (goodIn_of _ (by decide +kernel)) ggX6_first_X6_setRegister
set_option maxRecDepth 20000 in
theorem ggX6_first_X6_push : GoodIn wsX6_first wsX6_push := goodIn_r _ [96, 23, 31, 4, 83, 84, 85, 9, 86, 28, 29, 30, 32, 87, 88, 89, 90, 37, 91, 92, 38, 113, 114, 115, 116, 117, 118, 119, 120, 121, 122, 123, 124, 125, 126, 127, 128, 129, 130, 131, 132, 133, 134, 135, 136, 137, 138, 139, 140, 141] rfl (by decide +kernel)
set_option maxRecDepth 20000 in
theorem gX6_first_X6_push : GoodIn wsX6_first (wsV RX6 183 RX6 yX6_push wsX6_push) := goodIn_app (goodIn_of _ (by decide +kernel)) ggX6_first_X6_push
set_option maxRecDepth 20000 in
theorem ggX6_first_X6_pop : GoodIn wsX6_first wsX6_pop := goodIn_r _ [100, 4, 23, 31, 24, 25, 26, 9, 27, 28, 29, 30, 32, 33, 34, 35, 36, 37, 38, 113, 114, 115, 116, 117, 118, 119, 120, 121, 122, 123, 124, 125, 126, 127, 128, 129, 130, 131, 132, 133, 134, 135, 136, 137, 138, 139, 140, 141] rfl (by decide +kernel)
set_option maxRecDepth 20000 in
theorem gX6_first_X6_pop : GoodIn wsX6_first (wsV RX6 206 RX6 yX6_pop wsX6_pop) := goodIn_app (goodIn_of _ (by decide +kernel)) ggX6_first_X6_pop
