set_option maxRecDepth 20000 in
theorem ggX3_callFar_X4_segment : GoodIn wsX3_callFar wsX4_segment := goodIn_r _ [7, 8, 64, 65, 66] rfl (by decide +kernel)
set_option maxRecDepth 20000 in
theorem gX3_callFar_X4_segment : GoodIn wsX3_callFar (wsV RX3 117 RX4 yX4_segment wsX4_segment) := goodIn_app (goodIn_of _ (by decide +kernel)) ggX3_callFar_X4_segment
set_option maxRecDepth 20000 in
theorem ggX3_callFar_X3_push : GoodIn wsX3_callFar wsX3_push := goodIn_r _ [13, 1, 14, 15, 16, 17, 6, 18, 19, 20, 21, 22, 23, 24, 3, 4, 5, 7, 8, 25, 26, 27, 28, 29, 30, 31, 32, 33, 34, 35, 36, 37, 38, 39, 40, 41, 42, 56, 57, 58, 59, 60, 61, 62, 63, 64, 65, 66, 67, 68, 69, 70] rfl (by decide +kernel)
set_option maxRecDepth 20000 in
theorem gX3_callFar_X3_push : GoodIn wsX3_callFar (wsV RX3 110 RX3 yX3_push wsX3_push) := goodIn_app (goodIn_of _ (by decide +kernel)) ggX3_callFar_X3_push
set_option maxRecDepth 20000 in
theorem ggX3_callFar_X3_jumpFar : GoodIn wsX3_callFar wsX3_jumpFar := goodIn_r _ [46, 1, 47, 48, 49, 6, 50, 24, 51, 52, 53, 54, 55, 8, 56, 57, 58, 59, 60, 61, 62, 63, 64, 65, 66] rfl (by decide +kernel)
set_option maxRecDepth 20000 in
theorem gX3_callFar_X3_jumpFar : GoodIn wsX3_callFar (wsV RX3 185 RX3 yX3_jumpFar wsX3_jumpFar) := goodIn_app (goodIn_of _ (by decide +kernel)) ggX3_callFar_X3_jumpFar
set_option maxRecDepth 20000 in
theorem ggX3_operationCodes_X1_wide : GoodIn wsX3_operationCodes wsX1_wide := goodIn_r _ [11, 12, 187, 188, 189, 190, 191, 192, 193, 194, 195, 196, 197, 198] rfl (by decide +kernel)
set_option maxRecDepth 20000 in
theorem gX3_operationCodes_X1_wide : GoodIn wsX3_operationCodes (wsV RX3 188 RX1 yX1_wide wsX1_wide) := goodIn_app (goodIn_of _ (by decide +kernel)) ggX3_operationCodes_X1_wide
set_option maxRecDepth 20000 in
theorem ggX3_operationCodes_X4_value : GoodIn wsX3_operationCodes wsX4_value := goodIn_r _ [17, 18, 199, 200, 201] rfl (by decide +kernel)
set_option maxRecDepth 20000 in
theorem gX3_operationCodes_X4_value : GoodIn wsX3_operationCodes (wsV RX3 158 RX4 yX4_value wsX4_value) := goodIn_app (goodIn_of _ (by decide +kernel)) ggX3_operationCodes_X4_value
set_option maxRecDepth 20000 in
theorem ggX3_operationCodes_X3_operateE : GoodIn wsX3_operationCodes wsX3_operateE := goodIn_r _ [23, 5, 24, 25, 26, 22, 27, 1, 3, 28, 29, 30, 31, 32, 33, 34, 10, 35, 36, 13, 14, 15, 16, 17, 18, 37, 38, 39, 40, 41, 42, 43, 44, 45, 46, 47, 48, 49, 50, 51, 52, 53, 54, 55, 56, 57, 58, 59, 60, 61, 62, 63, 64, 65, 66, 67, 68, 69, 70, 71, 72, 73, 74, 75, 76, 77, 78, 79, 80, 81, 82, 83, 84, 85, 86, 87, 88, 89, 90, 91, 92, 93, 94, 95, 96, 97, 98, 99, 100, 101, 102, 103, 104, 105, 106, 107, 108, 109, 110, 111, 112, 113, 114, 115, 116, 117, 118, 119, 120, 179, 180, 181, 182, 183, 184, 185, 186, 187, 188, 189, 190, 191, 192, 193, 194, 195, 196, 197, 198, 199, 200, 201, 202, 203, 204, 205, 206] rfl (by decide +kernel)
set_option maxRecDepth 20000 in
theorem gX3_operationCodes_X3_operateE : GoodIn wsX3_operationCodes (wsV RX3 194 RX3 yX3_operateE wsX3_operateE) := goodIn_app (goodIn_of _ (by decide +kernel)) ggX3_operationCodes_X3_operateE
set_option maxRecDepth 20000 in
theorem ggX3_operationCodes_X3_e : GoodIn wsX3_operationCodes wsX3_e := goodIn_r _ [27, 1, 3, 28, 29, 30, 31, 32, 33, 34, 10, 35, 36, 13, 14, 15, 16, 17, 18, 37, 38, 39, 40, 41, 42, 43, 44, 45, 46, 47, 48, 49, 50, 51, 52, 179, 180, 181, 182, 183, 184, 185, 186, 187, 188, 189, 190, 191, 192, 193, 194, 195, 196, 197, 198, 199, 200, 201, 202, 203, 204, 205] rfl (by decide +kernel)
set_option maxRecDepth 20000 in
theorem gX3_operationCodes_X3_e : GoodIn wsX3_operationCodes (wsV RX3 168 RX3 yX3_e wsX3_e) := goodIn_app (goodIn_of _ (by decide +kernel)) ggX3_operationCodes_X3_e
set_option maxRecDepth 20000 in
theorem ggX3_operationCodes_X0_operation : GoodIn wsX3_operationCodes wsX0_operation := goodIn_r _ [57, 58, 59, 60, 61, 56, 62, 63, 64, 65, 66, 67, 68, 69, 70, 71, 72, 73, 74, 75, 76, 77, 78, 79, 80, 81, 82, 83, 84, 85, 86, 87, 88, 89, 90, 91, 92, 93, 94, 95, 96, 97, 98, 99, 100, 206] rfl (by decide +kernel)
set_option maxRecDepth 20000 in
theorem gX3_operationCodes_X0_operation : GoodIn wsX3_operationCodes (wsV RX3 172 RX0 yX0_operation wsX0_operation) := goodIn_app (goodIn_of _ (by decide +kernel)) ggX3_operationCodes_X0_operation
set_option maxRecDepth 20000 in
theorem ggX3_operationCodes_X4_give : GoodIn wsX3_operationCodes wsX4_give := goodIn_r _ [108, 18, 109, 110, 199, 200, 201] rfl (by decide +kernel)
set_option maxRecDepth 20000 in
theorem gX3_operationCodes_X4_give : GoodIn wsX3_operationCodes (wsV RX3 86 RX4 yX4_give wsX4_give) := goodIn_app (goodIn_of _ (by decide +kernel)) ggX3_operationCodes_X4_give
set_option maxRecDepth 20000 in
theorem ggX3_operationCodes_X3_a : GoodIn wsX3_operationCodes wsX3_a := goodIn_r _ [124, 3, 13, 14, 15, 16, 17, 18, 179, 180, 181, 182, 183, 184, 185, 186, 199, 200, 201] rfl (by decide +kernel)
set_option maxRecDepth 20000 in
theorem gX3_operationCodes_X3_a : GoodIn wsX3_operationCodes (wsV RX3 197 RX3 yX3_a wsX3_a) := goodIn_app (goodIn_of _ (by decide +kernel)) ggX3_operationCodes_X3_a
set_option maxRecDepth 20000 in
theorem ggX3_operationCodes_X3_giveA : GoodIn wsX3_operationCodes wsX3_giveA := goodIn_r _ [128, 3, 105, 106, 107, 16, 108, 18, 109, 110, 179, 180, 181, 182, 183, 184, 185, 186, 199, 200, 201] rfl (by decide +kernel)
set_option maxRecDepth 20000 in
theorem gX3_operationCodes_X3_giveA : GoodIn wsX3_operationCodes (wsV RX3 200 RX3 yX3_giveA wsX3_giveA) := goodIn_app (goodIn_of _ (by decide +kernel)) ggX3_operationCodes_X3_giveA
set_option maxRecDepth 20000 in
theorem ggX3_operationCodes_X4_segment : GoodIn wsX3_operationCodes wsX4_segment := goodIn_r _ [132, 133, 199, 200, 201] rfl (by decide +kernel)
set_option maxRecDepth 20000 in
theorem gX3_operationCodes_X4_segment : GoodIn wsX3_operationCodes (wsV RX3 117 RX4 yX4_segment wsX4_segment) := goodIn_app (goodIn_of _ (by decide +kernel)) ggX3_operationCodes_X4_segment
set_option maxRecDepth 20000 in
theorem ggX3_operationCodes_X3_push : GoodIn wsX3_operationCodes wsX3_push := goodIn_r _ [137, 3, 29, 138, 139, 140, 16, 141, 18, 142, 143, 144, 145, 109, 129, 130, 131, 132, 133, 111, 112, 113, 40, 114, 42, 43, 44, 45, 46, 115, 116, 117, 118, 51, 119, 120, 52, 179, 180, 181, 182, 183, 184, 185, 186, 199, 200, 201, 202, 203, 204, 205] rfl (by decide +kernel)
set_option maxRecDepth 20000 in
theorem gX3_operationCodes_X3_push : GoodIn wsX3_operationCodes (wsV RX3 110 RX3 yX3_push wsX3_push) := goodIn_app (goodIn_of _ (by decide +kernel)) ggX3_operationCodes_X3_push
set_option maxRecDepth 20000 in
theorem ggX3_operationCodes_X3_pop : GoodIn wsX3_operationCodes wsX3_pop := goodIn_r _ [149, 3, 29, 138, 139, 140, 16, 141, 18, 142, 143, 144, 145, 109, 129, 130, 131, 132, 133, 37, 38, 39, 40, 41, 42, 43, 44, 45, 46, 47, 48, 49, 50, 51, 52, 179, 180, 181, 182, 183, 184, 185, 186, 199, 200, 201, 202, 203, 204, 205] rfl (by decide +kernel)
set_option maxRecDepth 20000 in
theorem gX3_operationCodes_X3_pop : GoodIn wsX3_operationCodes (wsV RX3 203 RX3 yX3_pop wsX3_pop) := goodIn_app (goodIn_of _ (by decide +kernel)) ggX3_operationCodes_X3_pop
set_option maxRecDepth 20000 in
theorem ggX3_operationCodes_X4_setSegment : GoodIn wsX3_operationCodes wsX4_setSegment := goodIn_r _ [153, 133, 109, 199, 200, 201] rfl (by decide +kernel)
set_option maxRecDepth 20000 in
theorem gX3_operationCodes_X4_setSegment : GoodIn wsX3_operationCodes (wsV RX3 131 RX4 yX4_setSegment wsX4_setSegment) := goodIn_app (goodIn_of _ (by decide +kernel)) ggX3_operationCodes_X4_setSegment
set_option maxRecDepth 20000 in
theorem ggX3_operationCodes_X0_adjustment : GoodIn wsX3_operationCodes wsX0_adjustment := goodIn_r _ [157, 158, 159, 160, 56, 161, 162, 163, 164, 165, 166, 58, 74, 75, 76, 77, 78, 79, 80, 81, 82, 83, 84, 85, 86, 87, 88, 89, 90, 91, 92, 167, 168, 169, 170, 171, 172, 173, 174, 175, 176, 177, 178, 206] rfl (by decide +kernel)
set_option maxRecDepth 20000 in
theorem gX3_operationCodes_X0_adjustment : GoodIn wsX3_operationCodes (wsV RX3 206 RX0 yX0_adjustment wsX0_adjustment) := goodIn_app (goodIn_of _ (by decide +kernel)) ggX3_operationCodes_X0_adjustment
set_option maxRecDepth 20000 in
theorem ggX3_stepWordRegister_X4_word : GoodIn wsX3_stepWordRegister wsX4_word := goodIn_r _ [9, 10, 80, 81, 82] rfl (by decide +kernel)
set_option maxRecDepth 20000 in
theorem gX3_stepWordRegister_X4_word : GoodIn wsX3_stepWordRegister (wsV RX3 139 RX4 yX4_word wsX4_word) := goodIn_app (goodIn_of _ (by decide +kernel)) ggX3_stepWordRegister_X4_word
set_option maxRecDepth 20000 in
theorem ggX3_stepWordRegister_X0_byOne : GoodIn wsX3_stepWordRegister wsX0_byOne := goodIn_r _ [15, 16, 17, 18, 19, 14, 20, 21, 22, 23, 24, 25, 26, 27, 28, 29, 30, 31, 32, 33, 34, 35, 36, 37, 38, 39, 40, 41, 42, 43, 44, 45, 46, 47, 48, 49, 50, 51, 52, 53, 54, 83] rfl (by decide +kernel)
set_option maxRecDepth 20000 in
theorem gX3_stepWordRegister_X0_byOne : GoodIn wsX3_stepWordRegister (wsV RX3 210 RX0 yX0_byOne wsX0_byOne) := goodIn_app (goodIn_of _ (by decide +kernel)) ggX3_stepWordRegister_X0_byOne
set_option maxRecDepth 20000 in
theorem ggX3_stepWordRegister_X4_setWord : GoodIn wsX3_stepWordRegister wsX4_setWord := goodIn_r _ [58, 10, 59, 80, 81, 82] rfl (by decide +kernel)
set_option maxRecDepth 20000 in
theorem gX3_stepWordRegister_X4_setWord : GoodIn wsX3_stepWordRegister (wsV RX3 142 RX4 yX4_setWord wsX4_setWord) := goodIn_app (goodIn_of _ (by decide +kernel)) ggX3_stepWordRegister_X4_setWord
set_option maxRecDepth 20000 in
theorem ggX3_registerStackCodes_X3_pushedRegister : GoodIn wsX3_registerStackCodes wsX3_pushedRegister := goodIn_r _ [8, 3, 9, 10, 11, 12, 13, 14, 60, 61, 62, 63, 64, 65, 66, 67, 80, 81, 82] rfl (by decide +kernel)
set_option maxRecDepth 20000 in
theorem gX3_registerStackCodes_X3_pushedRegister : GoodIn wsX3_registerStackCodes (wsV RX3 214 RX3 yX3_pushedRegister wsX3_pushedRegister) := goodIn_app (goodIn_of _ (by decide +kernel)) ggX3_registerStackCodes_X3_pushedRegister
set_option maxRecDepth 20000 in
theorem ggX3_registerStackCodes_X3_push : GoodIn wsX3_registerStackCodes wsX3_push := goodIn_r _ [18, 3, 19, 9, 10, 11, 12, 13, 14, 20, 21, 22, 23, 24, 25, 26, 27, 28, 29, 30, 31, 32, 33, 34, 35, 36, 37, 38, 39, 40, 41, 42, 43, 44, 45, 46, 47, 60, 61, 62, 63, 64, 65, 66, 67, 80, 81, 82, 83, 84, 85, 86] rfl (by decide +kernel)
set_option maxRecDepth 20000 in
theorem gX3_registerStackCodes_X3_push : GoodIn wsX3_registerStackCodes (wsV RX3 110 RX3 yX3_push wsX3_push) := goodIn_app (goodIn_of _ (by decide +kernel)) ggX3_registerStackCodes_X3_push
set_option maxRecDepth 20000 in
theorem ggX3_registerStackCodes_X3_pop : GoodIn wsX3_registerStackCodes wsX3_pop := goodIn_r _ [51, 3, 19, 9, 10, 11, 12, 13, 14, 20, 21, 22, 23, 24, 25, 26, 27, 28, 29, 52, 53, 54, 33, 55, 35, 36, 37, 38, 39, 56, 57, 58, 59, 44, 47, 60, 61, 62, 63, 64, 65, 66, 67, 80, 81, 82, 83, 84, 85, 86] rfl (by decide +kernel)
set_option maxRecDepth 20000 in
theorem gX3_registerStackCodes_X3_pop : GoodIn wsX3_registerStackCodes (wsV RX3 203 RX3 yX3_pop wsX3_pop) := goodIn_app (goodIn_of _ (by decide +kernel)) ggX3_registerStackCodes_X3_pop
set_option maxRecDepth 20000 in
theorem ggX3_registerStackCodes_X4_setWord : GoodIn wsX3_registerStackCodes wsX4_setWord := goodIn_r _ [23, 14, 24, 80, 81, 82] rfl (by decide +kernel)
set_option maxRecDepth 20000 in
theorem gX3_registerStackCodes_X4_setWord : GoodIn wsX3_registerStackCodes (wsV RX3 142 RX4 yX4_setWord wsX4_setWord) := goodIn_app (goodIn_of _ (by decide +kernel)) ggX3_registerStackCodes_X4_setWord
set_option maxRecDepth 20000 in
theorem ggX3_operandCodes_X1_wide : GoodIn wsX3_operandCodes wsX1_wide := goodIn_r _ [12, 13, 156, 157, 158, 159, 160, 161, 162, 163, 164, 165, 166, 167] rfl (by decide +kernel)
set_option maxRecDepth 20000 in
theorem gX3_operandCodes_X1_wide : GoodIn wsX3_operandCodes (wsV RX3 188 RX1 yX1_wide wsX1_wide) := goodIn_app (goodIn_of _ (by decide +kernel)) ggX3_operandCodes_X1_wide
set_option maxRecDepth 20000 in
theorem ggX3_operandCodes_X3_operateE : GoodIn wsX3_operandCodes wsX3_operateE := goodIn_r _ [18, 19, 20, 21, 22, 17, 23, 1, 6, 24, 25, 26, 7, 27, 28, 29, 11, 30, 31, 32, 33, 34, 35, 36, 37, 38, 39, 40, 41, 42, 43, 44, 45, 46, 47, 48, 49, 50, 51, 52, 53, 54, 55, 56, 57, 58, 59, 60, 61, 62, 63, 64, 65, 66, 67, 68, 69, 70, 71, 72, 73, 74, 75, 76, 77, 78, 79, 80, 81, 82, 83, 84, 85, 86, 87, 88, 89, 90, 91, 92, 93, 94, 95, 96, 97, 98, 99, 100, 101, 102, 103, 104, 105, 106, 107, 108, 109, 110, 111, 112, 113, 114, 115, 116, 117, 118, 119, 120, 121, 148, 149, 150, 151, 152, 153, 154, 155, 156, 157, 158, 159, 160, 161, 162, 163, 164, 165, 166, 167, 168, 169, 170, 171, 172, 173, 174, 175] rfl (by decide +kernel)
set_option maxRecDepth 20000 in
theorem gX3_operandCodes_X3_operateE : GoodIn wsX3_operandCodes (wsV RX3 194 RX3 yX3_operateE wsX3_operateE) := goodIn_app (goodIn_of _ (by decide +kernel)) ggX3_operandCodes_X3_operateE
set_option maxRecDepth 20000 in
theorem ggX3_operandCodes_X0_signed : GoodIn wsX3_operandCodes wsX0_signed := goodIn_r _ [66] rfl (by decide +kernel)
set_option maxRecDepth 20000 in
theorem gX3_operandCodes_X0_signed : GoodIn wsX3_operandCodes (va_wsS RX3 179 yX0_signed wsX0_signed) := goodIn_app (goodIn_of _ (by decide +kernel)) ggX3_operandCodes_X0_signed
set_option maxRecDepth 20000 in
theorem ggX3_operandCodes_X4_value : GoodIn wsX3_operandCodes wsX4_value := goodIn_r _ [36, 37, 168, 169, 170] rfl (by decide +kernel)
set_option maxRecDepth 20000 in
theorem gX3_operandCodes_X4_value : GoodIn wsX3_operandCodes (wsV RX3 158 RX4 yX4_value wsX4_value) := goodIn_app (goodIn_of _ (by decide +kernel)) ggX3_operandCodes_X4_value
set_option maxRecDepth 20000 in
theorem ggX3_operandCodes_X3_exchangeE : GoodIn wsX3_operandCodes wsX3_exchangeE := goodIn_r _ [126, 6, 1, 3, 20, 21, 22, 17, 23, 24, 25, 26, 7, 27, 28, 29, 11, 30, 31, 32, 33, 34, 35, 36, 37, 38, 39, 40, 41, 42, 43, 44, 45, 46, 47, 48, 49, 50, 51, 52, 53, 102, 103, 104, 105, 106, 107, 108, 109, 110, 111, 112, 113, 114, 115, 116, 117, 118, 119, 120, 121, 148, 149, 150, 151, 152, 153, 154, 155, 156, 157, 158, 159, 160, 161, 162, 163, 164, 165, 166, 167, 168, 169, 170, 171, 172, 173, 174] rfl (by decide +kernel)
set_option maxRecDepth 20000 in
theorem gX3_operandCodes_X3_exchangeE : GoodIn wsX3_operandCodes (wsV RX3 218 RX3 yX3_exchangeE wsX3_exchangeE) := goodIn_app (goodIn_of _ (by decide +kernel)) ggX3_operandCodes_X3_exchangeE
set_option maxRecDepth 20000 in
theorem ggX3_operandCodes_X3_giveE : GoodIn wsX3_operandCodes wsX3_giveE := goodIn_r _ [105, 1, 6, 24, 25, 26, 7, 27, 28, 29, 11, 30, 31, 106, 107, 108, 35, 109, 37, 110, 111, 112, 113, 114, 41, 115, 43, 44, 45, 46, 47, 116, 117, 118, 119, 52, 120, 121, 53, 148, 149, 150, 151, 152, 153, 154, 155, 156, 157, 158, 159, 160, 161, 162, 163, 164, 165, 166, 167, 168, 169, 170, 171, 172, 173, 174] rfl (by decide +kernel)
set_option maxRecDepth 20000 in
theorem gX3_operandCodes_X3_giveE : GoodIn wsX3_operandCodes (wsV RX3 176 RX3 yX3_giveE wsX3_giveE) := goodIn_app (goodIn_of _ (by decide +kernel)) ggX3_operandCodes_X3_giveE
set_option maxRecDepth 20000 in
theorem ggX3_operandCodes_X3_e : GoodIn wsX3_operandCodes wsX3_e := goodIn_r _ [23, 1, 6, 24, 25, 26, 7, 27, 28, 29, 11, 30, 31, 32, 33, 34, 35, 36, 37, 38, 39, 40, 41, 42, 43, 44, 45, 46, 47, 48, 49, 50, 51, 52, 53, 148, 149, 150, 151, 152, 153, 154, 155, 156, 157, 158, 159, 160, 161, 162, 163, 164, 165, 166, 167, 168, 169, 170, 171, 172, 173, 174] rfl (by decide +kernel)
set_option maxRecDepth 20000 in
theorem gX3_operandCodes_X3_e : GoodIn wsX3_operandCodes (wsV RX3 168 RX3 yX3_e wsX3_e) := goodIn_app (goodIn_of _ (by decide +kernel)) ggX3_operandCodes_X3_e
set_option maxRecDepth 20000 in
theorem ggX3_operandCodes_X4_give : GoodIn wsX3_operandCodes wsX4_give := goodIn_r _ [109, 37, 110, 111, 168, 169, 170] rfl (by decide +kernel)
set_option maxRecDepth 20000 in
theorem gX3_operandCodes_X4_give : GoodIn wsX3_operandCodes (wsV RX3 86 RX4 yX4_give wsX4_give) := goodIn_app (goodIn_of _ (by decide +kernel)) ggX3_operandCodes_X4_give
set_option maxRecDepth 20000 in
theorem ggX3_operandCodes_X4_segment : GoodIn wsX3_operandCodes wsX4_segment := goodIn_r _ [130, 131, 168, 169, 170] rfl (by decide +kernel)
set_option maxRecDepth 20000 in
theorem gX3_operandCodes_X4_segment : GoodIn wsX3_operandCodes (wsV RX3 117 RX4 yX4_segment wsX4_segment) := goodIn_app (goodIn_of _ (by decide +kernel)) ggX3_operandCodes_X4_segment
set_option maxRecDepth 20000 in
theorem ggX3_operandCodes_X4_setWord : GoodIn wsX3_operandCodes wsX4_setWord := goodIn_r _ [135, 37, 110, 168, 169, 170] rfl (by decide +kernel)
set_option maxRecDepth 20000 in
theorem gX3_operandCodes_X4_setWord : GoodIn wsX3_operandCodes (wsV RX3 142 RX4 yX4_setWord wsX4_setWord) := goodIn_app (goodIn_of _ (by decide +kernel)) ggX3_operandCodes_X4_setWord
set_option maxRecDepth 20000 in
theorem ggX3_operandCodes_X4_setSegment : GoodIn wsX3_operandCodes wsX4_setSegment := goodIn_r _ [139, 131, 110, 168, 169, 170] rfl (by decide +kernel)
set_option maxRecDepth 20000 in
theorem gX3_operandCodes_X4_setSegment : GoodIn wsX3_operandCodes (wsV RX3 131 RX4 yX4_setSegment wsX4_setSegment) := goodIn_app (goodIn_of _ (by decide +kernel)) ggX3_operandCodes_X4_setSegment
set_option maxRecDepth 20000 in
theorem ggX3_operandCodes_X3_pop : GoodIn wsX3_operandCodes wsX3_pop := goodIn_r _ [143, 6, 25, 144, 145, 146, 35, 147, 37, 132, 133, 134, 135, 110, 127, 128, 129, 130, 131, 38, 39, 40, 41, 42, 43, 44, 45, 46, 47, 48, 49, 50, 51, 52, 53, 148, 149, 150, 151, 152, 153, 154, 155, 168, 169, 170, 171, 172, 173, 174] rfl (by decide +kernel)
set_option maxRecDepth 20000 in
theorem gX3_operandCodes_X3_pop : GoodIn wsX3_operandCodes (wsV RX3 203 RX3 yX3_pop wsX3_pop) := goodIn_app (goodIn_of _ (by decide +kernel)) ggX3_operandCodes_X3_pop
set_option maxRecDepth 20000 in
theorem ggX3_exchangeE_X3_e : GoodIn wsX3_exchangeE wsX3_e := goodIn_r _ [8, 2, 1, 9, 10, 11, 12, 13, 14, 15, 16, 17, 18, 19, 20, 21, 22, 23, 24, 25, 26, 27, 28, 29, 30, 31, 32, 33, 34, 35, 36, 37, 38, 39, 40, 61, 62, 63, 64, 65, 66, 67, 68, 69, 70, 71, 72, 73, 74, 75, 76, 77, 78, 79, 80, 81, 82, 83, 84, 85, 86, 87] rfl (by decide +kernel)
set_option maxRecDepth 20000 in
theorem gX3_exchangeE_X3_e : GoodIn wsX3_exchangeE (wsV RX3 168 RX3 yX3_e wsX3_e) := goodIn_app (goodIn_of _ (by decide +kernel)) ggX3_exchangeE_X3_e
set_option maxRecDepth 20000 in
theorem ggX3_exchangeE_X4_value : GoodIn wsX3_exchangeE wsX4_value := goodIn_r _ [23, 24, 81, 82, 83] rfl (by decide +kernel)
set_option maxRecDepth 20000 in
theorem gX3_exchangeE_X4_value : GoodIn wsX3_exchangeE (wsV RX3 158 RX4 yX4_value wsX4_value) := goodIn_app (goodIn_of _ (by decide +kernel)) ggX3_exchangeE_X4_value
set_option maxRecDepth 20000 in
theorem ggX3_exchangeE_X3_giveE : GoodIn wsX3_exchangeE wsX3_giveE := goodIn_r _ [44, 2, 1, 9, 10, 11, 12, 13, 14, 15, 16, 17, 18, 45, 46, 47, 22, 48, 24, 49, 50, 51, 52, 53, 28, 54, 30, 31, 32, 33, 34, 55, 56, 57, 58, 39, 59, 60, 40, 61, 62, 63, 64, 65, 66, 67, 68, 69, 70, 71, 72, 73, 74, 75, 76, 77, 78, 79, 80, 81, 82, 83, 84, 85, 86, 87] rfl (by decide +kernel)
set_option maxRecDepth 20000 in
theorem gX3_exchangeE_X3_giveE : GoodIn wsX3_exchangeE (wsV RX3 176 RX3 yX3_giveE wsX3_giveE) := goodIn_app (goodIn_of _ (by decide +kernel)) ggX3_exchangeE_X3_giveE
set_option maxRecDepth 20000 in
theorem ggX3_exchangeE_X4_give : GoodIn wsX3_exchangeE wsX4_give := goodIn_r _ [48, 24, 49, 50, 81, 82, 83] rfl (by decide +kernel)
set_option maxRecDepth 20000 in
theorem gX3_exchangeE_X4_give : GoodIn wsX3_exchangeE (wsV RX3 86 RX4 yX4_give wsX4_give) := goodIn_app (goodIn_of _ (by decide +kernel)) ggX3_exchangeE_X4_give
set_option maxRecDepth 20000 in
theorem ggX3_exchangeAndFlagCodes_X3_a : GoodIn wsX3_exchangeAndFlagCodes wsX3_a := goodIn_r _ [13, 3, 14, 15, 16, 17, 18, 19, 114, 115, 116, 117, 118, 119, 120, 121, 135, 136, 137] rfl (by decide +kernel)
set_option maxRecDepth 20000 in
theorem gX3_exchangeAndFlagCodes_X3_a : GoodIn wsX3_exchangeAndFlagCodes (wsV RX3 197 RX3 yX3_a wsX3_a) := goodIn_app (goodIn_of _ (by decide +kernel)) ggX3_exchangeAndFlagCodes_X3_a
set_option maxRecDepth 20000 in
theorem ggX3_exchangeAndFlagCodes_X0_signed : GoodIn wsX3_exchangeAndFlagCodes wsX0_signed := goodIn_r _ [23] rfl (by decide +kernel)
set_option maxRecDepth 20000 in
theorem gX3_exchangeAndFlagCodes_X0_signed : GoodIn wsX3_exchangeAndFlagCodes (va_wsS RX3 179 yX0_signed wsX0_signed) := goodIn_app (goodIn_of _ (by decide +kernel)) ggX3_exchangeAndFlagCodes_X0_signed
set_option maxRecDepth 20000 in
theorem ggX3_exchangeAndFlagCodes_X3_giveA : GoodIn wsX3_exchangeAndFlagCodes wsX3_giveA := goodIn_r _ [27, 3, 28, 29, 30, 17, 31, 19, 32, 33, 114, 115, 116, 117, 118, 119, 120, 121, 135, 136, 137] rfl (by decide +kernel)
set_option maxRecDepth 20000 in
theorem gX3_exchangeAndFlagCodes_X3_giveA : GoodIn wsX3_exchangeAndFlagCodes (wsV RX3 200 RX3 yX3_giveA wsX3_giveA) := goodIn_app (goodIn_of _ (by decide +kernel)) ggX3_exchangeAndFlagCodes_X3_giveA
set_option maxRecDepth 20000 in
theorem ggX3_exchangeAndFlagCodes_X4_setWord : GoodIn wsX3_exchangeAndFlagCodes wsX4_setWord := goodIn_r _ [37, 19, 32, 135, 136, 137] rfl (by decide +kernel)
set_option maxRecDepth 20000 in
theorem gX3_exchangeAndFlagCodes_X4_setWord : GoodIn wsX3_exchangeAndFlagCodes (wsV RX3 142 RX4 yX4_setWord wsX4_setWord) := goodIn_app (goodIn_of _ (by decide +kernel)) ggX3_exchangeAndFlagCodes_X4_setWord
set_option maxRecDepth 20000 in
theorem ggX3_exchangeAndFlagCodes_X3_callFar : GoodIn wsX3_exchangeAndFlagCodes wsX3_callFar := goodIn_r _ [41, 3, 42, 43, 44, 45, 17, 46, 47, 48, 49, 50, 12, 51, 52, 53, 54, 55, 56, 19, 34, 35, 36, 37, 32, 57, 58, 59, 60, 61, 62, 63, 64, 65, 66, 67, 68, 69, 70, 71, 72, 73, 74, 75, 76, 77, 78, 79, 80, 81, 82, 83, 84, 85, 86, 87, 114, 115, 116, 117, 118, 119, 120, 121, 135, 136, 137, 138, 139, 140, 141] rfl (by decide +kernel)
set_option maxRecDepth 20000 in
theorem gX3_exchangeAndFlagCodes_X3_callFar : GoodIn wsX3_exchangeAndFlagCodes (wsV RX3 224 RX3 yX3_callFar wsX3_callFar) := goodIn_app (goodIn_of _ (by decide +kernel)) ggX3_exchangeAndFlagCodes_X3_callFar
set_option maxRecDepth 20000 in
theorem ggX3_exchangeAndFlagCodes_X3_pushedFlags : GoodIn wsX3_exchangeAndFlagCodes wsX3_pushedFlags := goodIn_r _ [91, 6, 7, 92, 114, 115, 116, 117, 118, 119, 120, 121, 134] rfl (by decide +kernel)
set_option maxRecDepth 20000 in
theorem gX3_exchangeAndFlagCodes_X3_pushedFlags : GoodIn wsX3_exchangeAndFlagCodes (wsV RX3 106 RX3 yX3_pushedFlags wsX3_pushedFlags) := goodIn_app (goodIn_of _ (by decide +kernel)) ggX3_exchangeAndFlagCodes_X3_pushedFlags
set_option maxRecDepth 20000 in
theorem ggX3_exchangeAndFlagCodes_X3_push : GoodIn wsX3_exchangeAndFlagCodes wsX3_push := goodIn_r _ [51, 3, 52, 53, 54, 55, 17, 56, 19, 34, 35, 36, 37, 32, 43, 44, 45, 46, 47, 57, 58, 59, 60, 61, 62, 63, 64, 65, 66, 67, 68, 69, 70, 71, 72, 73, 74, 114, 115, 116, 117, 118, 119, 120, 121, 135, 136, 137, 138, 139, 140, 141] rfl (by decide +kernel)
set_option maxRecDepth 20000 in
theorem gX3_exchangeAndFlagCodes_X3_push : GoodIn wsX3_exchangeAndFlagCodes (wsV RX3 110 RX3 yX3_push wsX3_push) := goodIn_app (goodIn_of _ (by decide +kernel)) ggX3_exchangeAndFlagCodes_X3_push
set_option maxRecDepth 20000 in
theorem ggX3_exchangeAndFlagCodes_X3_pop : GoodIn wsX3_exchangeAndFlagCodes wsX3_pop := goodIn_r _ [96, 3, 52, 53, 54, 55, 17, 56, 19, 34, 35, 36, 37, 32, 43, 44, 45, 46, 47, 97, 98, 99, 60, 100, 62, 63, 64, 65, 66, 101, 102, 103, 104, 71, 74, 114, 115, 116, 117, 118, 119, 120, 121, 135, 136, 137, 138, 139, 140, 141] rfl (by decide +kernel)
set_option maxRecDepth 20000 in
theorem gX3_exchangeAndFlagCodes_X3_pop : GoodIn wsX3_exchangeAndFlagCodes (wsV RX3 203 RX3 yX3_pop wsX3_pop) := goodIn_app (goodIn_of _ (by decide +kernel)) ggX3_exchangeAndFlagCodes_X3_pop
set_option maxRecDepth 20000 in
theorem ggX3_exchangeAndFlagCodes_X0_keep : GoodIn wsX3_exchangeAndFlagCodes wsX0_keep := goodIn_r _ [108, 109, 134] rfl (by decide +kernel)
set_option maxRecDepth 20000 in
theorem gX3_exchangeAndFlagCodes_X0_keep : GoodIn wsX3_exchangeAndFlagCodes (wsV RX3 227 RX0 yX0_keep wsX0_keep) := goodIn_app (goodIn_of _ (by decide +kernel)) ggX3_exchangeAndFlagCodes_X0_keep
set_option maxRecDepth 20000 in
theorem ggX3_exchangeAndFlagCodes_X4_value : GoodIn wsX3_exchangeAndFlagCodes wsX4_value := goodIn_r _ [18, 19, 135, 136, 137] rfl (by decide +kernel)
set_option maxRecDepth 20000 in
theorem gX3_exchangeAndFlagCodes_X4_value : GoodIn wsX3_exchangeAndFlagCodes (wsV RX3 158 RX4 yX4_value wsX4_value) := goodIn_app (goodIn_of _ (by decide +kernel)) ggX3_exchangeAndFlagCodes_X4_value
set_option maxRecDepth 20000 in
theorem ggX3_exchangeAndFlagCodes_X4_give : GoodIn wsX3_exchangeAndFlagCodes wsX4_give := goodIn_r _ [31, 19, 32, 33, 135, 136, 137] rfl (by decide +kernel)
set_option maxRecDepth 20000 in
theorem gX3_exchangeAndFlagCodes_X4_give : GoodIn wsX3_exchangeAndFlagCodes (wsV RX3 86 RX4 yX4_give wsX4_give) := goodIn_app (goodIn_of _ (by decide +kernel)) ggX3_exchangeAndFlagCodes_X4_give
set_option maxRecDepth 20000 in
theorem ggX3_exchangeAndFlagCodes_X3_exchangeA : GoodIn wsX3_exchangeAndFlagCodes wsX3_exchangeA := goodIn_r _ [113, 3, 9, 10, 11, 12, 13, 14, 15, 16, 17, 18, 19, 53, 54, 55, 56, 24, 25, 26, 27, 28, 29, 30, 31, 32, 33, 34, 35, 36, 37, 114, 115, 116, 117, 118, 119, 120, 121, 135, 136, 137] rfl (by decide +kernel)
set_option maxRecDepth 20000 in
theorem gX3_exchangeAndFlagCodes_X3_exchangeA : GoodIn wsX3_exchangeAndFlagCodes (wsV RX3 231 RX3 yX3_exchangeA wsX3_exchangeA) := goodIn_app (goodIn_of _ (by decide +kernel)) ggX3_exchangeAndFlagCodes_X3_exchangeA
set_option maxRecDepth 20000 in
theorem ggX3_exchangeA_X3_a : GoodIn wsX3_exchangeA wsX3_a := goodIn_r _ [6, 1, 7, 8, 9, 10, 11, 12, 31, 32, 33, 34, 35, 36, 37, 38, 39, 40, 41] rfl (by decide +kernel)
set_option maxRecDepth 20000 in
theorem gX3_exchangeA_X3_a : GoodIn wsX3_exchangeA (wsV RX3 197 RX3 yX3_a wsX3_a) := goodIn_app (goodIn_of _ (by decide +kernel)) ggX3_exchangeA_X3_a
set_option maxRecDepth 20000 in
theorem ggX3_exchangeA_X4_word : GoodIn wsX3_exchangeA wsX4_word := goodIn_r _ [16, 12, 39, 40, 41] rfl (by decide +kernel)
set_option maxRecDepth 20000 in
theorem gX3_exchangeA_X4_word : GoodIn wsX3_exchangeA (wsV RX3 139 RX4 yX4_word wsX4_word) := goodIn_app (goodIn_of _ (by decide +kernel)) ggX3_exchangeA_X4_word
set_option maxRecDepth 20000 in
theorem ggX3_exchangeA_X3_giveA : GoodIn wsX3_exchangeA wsX3_giveA := goodIn_r _ [20, 1, 21, 22, 23, 10, 24, 12, 25, 26, 31, 32, 33, 34, 35, 36, 37, 38, 39, 40, 41] rfl (by decide +kernel)
set_option maxRecDepth 20000 in
theorem gX3_exchangeA_X3_giveA : GoodIn wsX3_exchangeA (wsV RX3 200 RX3 yX3_giveA wsX3_giveA) := goodIn_app (goodIn_of _ (by decide +kernel)) ggX3_exchangeA_X3_giveA
set_option maxRecDepth 20000 in
theorem ggX3_exchangeA_X4_setWord : GoodIn wsX3_exchangeA wsX4_setWord := goodIn_r _ [30, 12, 25, 39, 40, 41] rfl (by decide +kernel)
set_option maxRecDepth 20000 in
theorem gX3_exchangeA_X4_setWord : GoodIn wsX3_exchangeA (wsV RX3 142 RX4 yX4_setWord wsX4_setWord) := goodIn_app (goodIn_of _ (by decide +kernel)) ggX3_exchangeA_X4_setWord
