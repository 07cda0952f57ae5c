set_option maxRecDepth 20000 in
theorem ggX6_byOne_X6_give : GoodIn wsX6_byOne wsX6_give := goodIn_r _ [75, 13, 14, 15, 16, 76, 77, 78, 6, 79, 21, 29, 80, 81, 82, 83, 84, 26, 27, 28, 30, 85, 86, 87, 88, 35, 89, 90, 36, 113, 114, 115, 116, 117, 118, 119, 120, 121, 122, 123, 124, 125, 126, 127, 128, 129, 130, 131, 132, 133, 134, 135, 136, 137, 138, 139, 140, 141] rfl (by decide +kernel)
set_option maxRecDepth 20000 in
theorem gX6_byOne_X6_give : GoodIn wsX6_byOne (wsV RX6 202 RX6 yX6_give wsX6_give) := goodIn_app (goodIn_of _ (by decide +kernel)) ggX6_byOne_X6_give
set_option maxRecDepth 20000 in
theorem ggX6_byOne_X6_product : GoodIn wsX6_byOne wsX6_product := goodIn_r _ [94, 21, 29, 17, 18, 19, 6, 20, 46, 47, 48, 49, 50, 51, 52, 53, 54, 55, 56, 57, 58, 59, 41, 113, 114, 115, 116, 117, 118, 119, 120, 121, 122, 123, 124, 125, 126, 127, 128, 129, 130, 131, 132, 133, 134, 135, 136, 137, 138, 139, 140, 141] rfl (by decide +kernel)
set_option maxRecDepth 20000 in
theorem gX6_byOne_X6_product : GoodIn wsX6_byOne (wsV RX6 247 RX6 yX6_product wsX6_product) := goodIn_app (goodIn_of _ (by decide +kernel)) ggX6_byOne_X6_product
set_option maxRecDepth 20000 in
theorem ggX6_byOne_X6_quotient : GoodIn wsX6_byOne wsX6_quotient := goodIn_r _ [98, 21, 99, 100, 101, 29, 46, 47, 6, 48, 49, 50, 51, 52, 53, 54, 55, 113, 114, 115, 116, 117, 118, 119, 120, 121, 122, 123, 124, 125, 126, 127, 128, 129, 130, 131, 132, 133, 134, 135, 136, 137, 138, 139, 140, 141] rfl (by decide +kernel)
set_option maxRecDepth 20000 in
theorem gX6_byOne_X6_quotient : GoodIn wsX6_byOne (wsV RX6 251 RX6 yX6_quotient wsX6_quotient) := goodIn_app (goodIn_of _ (by decide +kernel)) ggX6_byOne_X6_quotient
set_option maxRecDepth 20000 in
theorem ggX6_byOne_X6_interrupt : GoodIn wsX6_byOne wsX6_interrupt := goodIn_r _ [105, 41, 106, 107, 108, 109, 110, 111, 6, 112, 21, 29, 81, 82, 83, 84, 26, 27, 28, 30, 85, 86, 87, 88, 35, 89, 90, 36, 22, 23, 24, 25, 31, 32, 33, 34, 113, 114, 115, 116, 117, 118, 119, 120, 121, 122, 123, 124, 125, 126, 127, 128, 129, 130, 131, 132, 133, 134, 135, 136, 137, 138, 139, 140, 141] rfl (by decide +kernel)
set_option maxRecDepth 20000 in
theorem gX6_byOne_X6_interrupt : GoodIn wsX6_byOne (wsV RX6 232 RX6 yX6_interrupt wsX6_interrupt) := goodIn_app (goodIn_of _ (by decide +kernel)) ggX6_byOne_X6_interrupt
set_option maxRecDepth 20000 in
theorem ggX6_last_X6_isWide : GoodIn wsX6_last wsX6_isWide := goodIn_r _ [14, 15, 100, 101, 102, 103, 104, 105, 106, 107, 108, 109, 110, 111, 112, 113, 114, 115, 116, 117, 118, 119, 120, 121, 122, 123, 124, 125, 126, 127, 128] rfl (by decide +kernel)
set_option maxRecDepth 20000 in
theorem gX6_last_X6_isWide : GoodIn wsX6_last (wsV RX6 158 RX6 yX6_isWide wsX6_isWide) := goodIn_app (goodIn_of _ (by decide +kernel)) ggX6_last_X6_isWide
set_option maxRecDepth 20000 in
theorem ggX6_last_X6_operand : GoodIn wsX6_last wsX6_operand := goodIn_r _ [19, 1, 9, 2, 3, 20, 21, 22, 13, 23, 7, 24, 25, 26, 27, 28, 29, 30, 8, 31, 32, 33, 34, 35, 36, 37, 100, 101, 102, 103, 104, 105, 106, 107, 108, 109, 110, 111, 112, 113, 114, 115, 116, 117, 118, 119, 120, 121, 122, 123, 124, 125, 126, 127, 128] rfl (by decide +kernel)
set_option maxRecDepth 20000 in
theorem gX6_last_X6_operand : GoodIn wsX6_last (wsV RX6 199 RX6 yX6_operand wsX6_operand) := goodIn_app (goodIn_of _ (by decide +kernel)) ggX6_last_X6_operand
set_option maxRecDepth 20000 in
theorem ggX6_last_X6_get : GoodIn wsX6_last wsX6_get := goodIn_r _ [27, 28, 29, 13, 30, 8, 31, 32, 33, 34, 35, 36, 37, 100, 101, 102, 103, 104, 105, 106, 107, 108, 109, 110, 111, 112, 113, 114, 115, 116, 117, 118, 119, 120, 121, 122, 123, 124, 125, 126, 127, 128] rfl (by decide +kernel)
set_option maxRecDepth 20000 in
theorem gX6_last_X6_get : GoodIn wsX6_last (wsV RX6 61 RX6 yX6_get wsX6_get) := goodIn_app (goodIn_of _ (by decide +kernel)) ggX6_last_X6_get
set_option maxRecDepth 20000 in
theorem ggX6_last_X6_operation : GoodIn wsX6_last wsX6_operation := goodIn_r _ [41, 42, 43, 44, 45, 13, 46, 47, 48, 49, 50, 51, 52, 53, 54, 55, 56, 8, 57, 58, 59, 60, 61, 62, 63, 64, 65, 66, 67, 68, 69, 70, 71, 72, 100, 101, 102, 103, 104, 105, 106, 107, 108, 109, 110, 111, 112, 113, 114, 115, 116, 117, 118, 119, 120, 121, 122, 123, 124, 125, 126, 127, 128] rfl (by decide +kernel)
set_option maxRecDepth 20000 in
theorem gX6_last_X6_operation : GoodIn wsX6_last (wsV RX6 187 RX6 yX6_operation wsX6_operation) := goodIn_app (goodIn_of _ (by decide +kernel)) ggX6_last_X6_operation
set_option maxRecDepth 20000 in
theorem ggX6_last_X6_give : GoodIn wsX6_last wsX6_give := goodIn_r _ [76, 1, 9, 2, 3, 77, 78, 79, 13, 80, 7, 8, 81, 82, 83, 84, 85, 28, 29, 30, 31, 86, 87, 88, 89, 36, 90, 91, 37, 100, 101, 102, 103, 104, 105, 106, 107, 108, 109, 110, 111, 112, 113, 114, 115, 116, 117, 118, 119, 120, 121, 122, 123, 124, 125, 126, 127, 128] rfl (by decide +kernel)
set_option maxRecDepth 20000 in
theorem gX6_last_X6_give : GoodIn wsX6_last (wsV RX6 202 RX6 yX6_give wsX6_give) := goodIn_app (goodIn_of _ (by decide +kernel)) ggX6_last_X6_give
set_option maxRecDepth 20000 in
theorem ggX6_last_X6_push : GoodIn wsX6_last wsX6_push := goodIn_r _ [95, 7, 8, 6, 82, 83, 84, 13, 85, 28, 29, 30, 31, 86, 87, 88, 89, 36, 90, 91, 37, 100, 101, 102, 103, 104, 105, 106, 107, 108, 109, 110, 111, 112, 113, 114, 115, 116, 117, 118, 119, 120, 121, 122, 123, 124, 125, 126, 127, 128] rfl (by decide +kernel)
set_option maxRecDepth 20000 in
theorem gX6_last_X6_push : GoodIn wsX6_last (wsV RX6 183 RX6 yX6_push wsX6_push) := goodIn_app (goodIn_of _ (by decide +kernel)) ggX6_last_X6_push
set_option maxRecDepth 20000 in
theorem ggX6_last_X6_callFar : GoodIn wsX6_last wsX6_callFar := goodIn_r _ [99, 6, 5, 92, 93, 94, 13, 95, 7, 8, 82, 83, 84, 85, 28, 29, 30, 31, 86, 87, 88, 89, 36, 90, 91, 37, 100, 101, 102, 103, 104, 105, 106, 107, 108, 109, 110, 111, 112, 113, 114, 115, 116, 117, 118, 119, 120, 121, 122, 123, 124, 125, 126, 127, 128] rfl (by decide +kernel)
set_option maxRecDepth 20000 in
theorem gX6_last_X6_callFar : GoodIn wsX6_last (wsV RX6 220 RX6 yX6_callFar wsX6_callFar) := goodIn_app (goodIn_of _ (by decide +kernel)) ggX6_last_X6_callFar
set_option maxRecDepth 20000 in
theorem ggX6_last_X6_put : GoodIn wsX6_last wsX6_put := goodIn_r _ [85, 28, 29, 13, 30, 8, 31, 86, 87, 88, 89, 36, 90, 91, 37, 100, 101, 102, 103, 104, 105, 106, 107, 108, 109, 110, 111, 112, 113, 114, 115, 116, 117, 118, 119, 120, 121, 122, 123, 124, 125, 126, 127, 128] rfl (by decide +kernel)
set_option maxRecDepth 20000 in
theorem gX6_last_X6_put : GoodIn wsX6_last (wsV RX6 57 RX6 yX6_put wsX6_put) := goodIn_app (goodIn_of _ (by decide +kernel)) ggX6_last_X6_put
set_option maxRecDepth 20000 in
theorem ggX6_flagsAndMore_X6_byOne : GoodIn wsX6_flagsAndMore wsX6_byOne := goodIn_r _ [8, 9, 10, 11, 12, 13, 7, 14, 1, 15, 16, 17, 18, 19, 20, 21, 22, 23, 24, 25, 26, 27, 28, 29, 30, 31, 32, 33, 34, 35, 36, 37, 38, 39, 40, 41, 42, 43, 44, 45, 46, 3, 47, 48, 49, 50, 51, 52, 53, 54, 55, 56, 57, 58, 59, 60, 61, 62, 63, 64, 65, 66, 67, 68, 69, 70, 71, 72, 73, 74, 75, 76, 77, 78, 79, 80, 81, 82, 83, 84, 85, 86, 87, 88, 89, 90, 91, 92, 93, 94, 95, 96, 97, 98, 99, 100, 101, 102, 103, 104, 105, 106, 107, 108, 109, 110, 111, 112, 113, 114, 115, 116, 117, 126, 127, 128, 129, 130, 131, 132, 133, 134, 135, 136, 137, 138, 139, 140, 141, 142, 143, 144, 145, 146, 147, 148, 149, 150, 151, 152, 153, 154] rfl (by decide +kernel)
set_option maxRecDepth 20000 in
theorem gX6_flagsAndMore_X6_byOne : GoodIn wsX6_flagsAndMore (wsV RX6 258 RX6 yX6_byOne wsX6_byOne) := goodIn_app (goodIn_of _ (by decide +kernel)) ggX6_flagsAndMore_X6_byOne
set_option maxRecDepth 20000 in
theorem ggX6_flagsAndMore_X6_isWide : GoodIn wsX6_flagsAndMore wsX6_isWide := goodIn_r _ [14, 1, 126, 127, 128, 129, 130, 131, 132, 133, 134, 135, 136, 137, 138, 139, 140, 141, 142, 143, 144, 145, 146, 147, 148, 149, 150, 151, 152, 153, 154] rfl (by decide +kernel)
set_option maxRecDepth 20000 in
theorem gX6_flagsAndMore_X6_isWide : GoodIn wsX6_flagsAndMore (wsV RX6 158 RX6 yX6_isWide wsX6_isWide) := goodIn_app (goodIn_of _ (by decide +kernel)) ggX6_flagsAndMore_X6_isWide
set_option maxRecDepth 20000 in
theorem ggX6_flagsAndMore_X6_mark : GoodIn wsX6_flagsAndMore wsX6_mark := goodIn_r _ [64, 3, 126, 127, 128, 129, 130, 131, 132, 133, 134, 135, 136, 137, 138, 139, 140, 141, 142, 143, 144, 145, 146, 147, 148, 149, 150, 151, 152, 153, 154] rfl (by decide +kernel)
set_option maxRecDepth 20000 in
theorem gX6_flagsAndMore_X6_mark : GoodIn wsX6_flagsAndMore (wsV RX6 73 RX6 yX6_mark wsX6_mark) := goodIn_app (goodIn_of _ (by decide +kernel)) ggX6_flagsAndMore_X6_mark
set_option maxRecDepth 20000 in
theorem ggX6_flagsAndMore_X6_last : GoodIn wsX6_flagsAndMore wsX6_last := goodIn_r _ [121, 19, 21, 22, 9, 113, 112, 27, 35, 20, 11, 12, 13, 7, 14, 1, 15, 16, 17, 18, 23, 24, 25, 26, 28, 29, 30, 31, 32, 33, 34, 36, 37, 38, 39, 40, 41, 42, 43, 44, 45, 46, 3, 47, 48, 49, 50, 51, 52, 53, 54, 55, 56, 57, 58, 59, 60, 61, 62, 63, 64, 65, 66, 67, 68, 69, 70, 71, 72, 73, 74, 75, 76, 77, 78, 79, 80, 81, 82, 83, 84, 85, 86, 87, 88, 89, 90, 91, 92, 93, 94, 95, 114, 115, 116, 117, 122, 123, 124, 125, 126, 127, 128, 129, 130, 131, 132, 133, 134, 135, 136, 137, 138, 139, 140, 141, 142, 143, 144, 145, 146, 147, 148, 149, 150, 151, 152, 153, 154] rfl (by decide +kernel)
set_option maxRecDepth 20000 in
theorem gX6_flagsAndMore_X6_last : GoodIn wsX6_flagsAndMore (wsV RX6 261 RX6 yX6_last wsX6_last) := goodIn_app (goodIn_of _ (by decide +kernel)) ggX6_flagsAndMore_X6_last
set_option maxRecDepth 20000 in
theorem ggX6_does_X6_first : GoodIn wsX6_does wsX6_first := goodIn_r _ [12, 6, 13, 7, 14, 4, 15, 16, 17, 11, 18, 19, 20, 21, 22, 23, 24, 25, 26, 27, 28, 29, 30, 31, 32, 33, 34, 35, 36, 37, 38, 2, 39, 40, 41, 42, 43, 44, 45, 46, 47, 48, 49, 50, 51, 52, 53, 54, 55, 56, 57, 58, 59, 60, 61, 62, 63, 64, 65, 66, 67, 68, 69, 70, 71, 72, 73, 74, 75, 76, 77, 78, 79, 80, 81, 82, 83, 84, 85, 86, 87, 88, 89, 90, 91, 92, 93, 94, 95, 96, 97, 98, 99, 100, 101, 102, 103, 104, 105, 106, 107, 108, 109, 110, 111, 112, 113, 114, 115, 116, 117, 118, 119, 238, 239, 240, 241, 242, 243, 244, 245, 246, 247, 248, 249, 250, 251, 252, 253, 254, 255, 256, 257, 258, 259, 260, 261, 262, 263, 264, 265, 266] rfl (by decide +kernel)
set_option maxRecDepth 20000 in
theorem gX6_does_X6_first : GoodIn wsX6_does (wsV RX6 267 RX6 yX6_first wsX6_first) := goodIn_app (goodIn_of _ (by decide +kernel)) ggX6_does_X6_first
