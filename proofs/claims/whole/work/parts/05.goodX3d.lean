set_option maxRecDepth 20000 in
theorem ggX3_shiftAndAdjustCodes_X0_shift : GoodIn wsX3_shiftAndAdjustCodes wsX0_shift := goodIn_r _ [54, 55, 56, 57, 53, 58, 59, 60, 61, 62, 63, 64, 65, 66, 67, 68, 69, 70, 71, 72, 73, 74, 75, 76, 77, 78, 79, 80, 81, 82, 83, 84, 85, 86, 87, 88, 89, 90, 91, 92, 93, 94, 190] rfl (by decide +kernel)
set_option maxRecDepth 20000 in
theorem gX3_shiftAndAdjustCodes_X0_shift : GoodIn wsX3_shiftAndAdjustCodes (wsV RX3 279 RX0 yX0_shift wsX0_shift) := goodIn_app (goodIn_of _ (by decide +kernel)) ggX3_shiftAndAdjustCodes_X0_shift
set_option maxRecDepth 20000 in
theorem ggX3_shiftAndAdjustCodes_X3_giveE : GoodIn wsX3_shiftAndAdjustCodes wsX3_giveE := goodIn_r _ [98, 1, 5, 20, 8, 21, 22, 23, 24, 25, 12, 26, 27, 99, 100, 101, 31, 102, 33, 103, 104, 105, 106, 107, 37, 108, 39, 40, 41, 42, 43, 109, 110, 111, 112, 48, 113, 114, 49, 163, 164, 165, 166, 167, 168, 169, 170, 171, 172, 173, 174, 175, 176, 177, 178, 179, 180, 181, 182, 183, 184, 185, 186, 187, 188, 189] rfl (by decide +kernel)
set_option maxRecDepth 20000 in
theorem gX3_shiftAndAdjustCodes_X3_giveE : GoodIn wsX3_shiftAndAdjustCodes (wsV RX3 176 RX3 yX3_giveE wsX3_giveE) := goodIn_app (goodIn_of _ (by decide +kernel)) ggX3_shiftAndAdjustCodes_X3_giveE
set_option maxRecDepth 20000 in
theorem ggX3_shiftAndAdjustCodes_X4_value : GoodIn wsX3_shiftAndAdjustCodes wsX4_value := goodIn_r _ [32, 33, 183, 184, 185] rfl (by decide +kernel)
set_option maxRecDepth 20000 in
theorem gX3_shiftAndAdjustCodes_X4_value : GoodIn wsX3_shiftAndAdjustCodes (wsV RX3 158 RX4 yX4_value wsX4_value) := goodIn_app (goodIn_of _ (by decide +kernel)) ggX3_shiftAndAdjustCodes_X4_value
set_option maxRecDepth 20000 in
theorem ggX3_shiftAndAdjustCodes_X3_a : GoodIn wsX3_shiftAndAdjustCodes wsX3_a := goodIn_r _ [118, 5, 28, 29, 30, 31, 32, 33, 163, 164, 165, 166, 167, 168, 169, 170, 183, 184, 185] rfl (by decide +kernel)
set_option maxRecDepth 20000 in
theorem gX3_shiftAndAdjustCodes_X3_a : GoodIn wsX3_shiftAndAdjustCodes (wsV RX3 197 RX3 yX3_a wsX3_a) := goodIn_app (goodIn_of _ (by decide +kernel)) ggX3_shiftAndAdjustCodes_X3_a
set_option maxRecDepth 20000 in
theorem ggX3_shiftAndAdjustCodes_X0_adjustment : GoodIn wsX3_shiftAndAdjustCodes wsX0_adjustment := goodIn_r _ [122, 123, 124, 125, 53, 126, 127, 67, 68, 69, 70, 71, 76, 77, 78, 79, 84, 85, 86, 87, 59, 60, 61, 62, 88, 89, 90, 91, 92, 93, 94, 128, 129, 130, 131, 132, 133, 134, 135, 136, 137, 138, 139, 190] rfl (by decide +kernel)
set_option maxRecDepth 20000 in
theorem gX3_shiftAndAdjustCodes_X0_adjustment : GoodIn wsX3_shiftAndAdjustCodes (wsV RX3 206 RX0 yX0_adjustment wsX0_adjustment) := goodIn_app (goodIn_of _ (by decide +kernel)) ggX3_shiftAndAdjustCodes_X0_adjustment
set_option maxRecDepth 20000 in
theorem ggX3_shiftAndAdjustCodes_X3_giveA : GoodIn wsX3_shiftAndAdjustCodes wsX3_giveA := goodIn_r _ [143, 5, 99, 100, 101, 31, 102, 33, 103, 104, 163, 164, 165, 166, 167, 168, 169, 170, 183, 184, 185] rfl (by decide +kernel)
set_option maxRecDepth 20000 in
theorem gX3_shiftAndAdjustCodes_X3_giveA : GoodIn wsX3_shiftAndAdjustCodes (wsV RX3 200 RX3 yX3_giveA wsX3_giveA) := goodIn_app (goodIn_of _ (by decide +kernel)) ggX3_shiftAndAdjustCodes_X3_giveA
set_option maxRecDepth 20000 in
theorem ggX3_shiftAndAdjustCodes_X0_has : GoodIn wsX3_shiftAndAdjustCodes wsX0_has := goodIn_r _ [70, 71, 190] rfl (by decide +kernel)
set_option maxRecDepth 20000 in
theorem gX3_shiftAndAdjustCodes_X0_has : GoodIn wsX3_shiftAndAdjustCodes (wsV RX3 249 RX0 yX0_has wsX0_has) := goodIn_app (goodIn_of _ (by decide +kernel)) ggX3_shiftAndAdjustCodes_X0_has
set_option maxRecDepth 20000 in
theorem ggX3_shiftAndAdjustCodes_X4_word : GoodIn wsX3_shiftAndAdjustCodes wsX4_word := goodIn_r _ [148, 33, 183, 184, 185] rfl (by decide +kernel)
set_option maxRecDepth 20000 in
theorem gX3_shiftAndAdjustCodes_X4_word : GoodIn wsX3_shiftAndAdjustCodes (wsV RX3 139 RX4 yX4_word wsX4_word) := goodIn_app (goodIn_of _ (by decide +kernel)) ggX3_shiftAndAdjustCodes_X4_word
set_option maxRecDepth 20000 in
theorem ggX3_shiftAndAdjustCodes_X3_segmentFor : GoodIn wsX3_shiftAndAdjustCodes wsX3_segmentFor := goodIn_r _ [152, 5, 1, 153, 154, 155, 12, 156, 157, 158, 159, 160, 31, 161, 162, 163, 164, 165, 166, 167, 168, 169, 170, 171, 172, 173, 174, 175, 176, 177, 178, 179, 180, 181, 182, 183, 184, 185] rfl (by decide +kernel)
set_option maxRecDepth 20000 in
theorem gX3_shiftAndAdjustCodes_X3_segmentFor : GoodIn wsX3_shiftAndAdjustCodes (wsV RX3 234 RX3 yX3_segmentFor wsX3_segmentFor) := goodIn_app (goodIn_of _ (by decide +kernel)) ggX3_shiftAndAdjustCodes_X3_segmentFor
set_option maxRecDepth 20000 in
theorem ggX3_shiftAndAdjustCodes_X2_load : GoodIn wsX3_shiftAndAdjustCodes wsX2_load := goodIn_r _ [38, 39, 40, 37, 41, 42, 43, 44, 45, 46, 47, 48, 49, 186, 187, 188, 189] rfl (by decide +kernel)
set_option maxRecDepth 20000 in
theorem gX3_shiftAndAdjustCodes_X2_load : GoodIn wsX3_shiftAndAdjustCodes (wsV RX3 124 RX2 yX2_load wsX2_load) := goodIn_app (goodIn_of _ (by decide +kernel)) ggX3_shiftAndAdjustCodes_X2_load
set_option maxRecDepth 20000 in
theorem ggX3_loopAndPortCodes_X3_loop : GoodIn wsX3_loopAndPortCodes wsX3_loop := goodIn_r _ [11, 3, 1, 2, 12, 13, 14, 15, 16, 17, 18, 19, 20, 21, 22, 23, 24, 25, 26, 27, 28, 29, 30, 31, 32, 10, 33, 5, 34, 35, 36, 37, 38, 39, 40, 4, 41, 42, 43, 44, 45, 118, 119, 120, 121, 122, 123, 124, 125, 126, 127, 128, 129, 130, 131, 132, 133, 134, 135, 136, 137, 138, 139, 140, 141] rfl (by decide +kernel)
set_option maxRecDepth 20000 in
theorem gX3_loopAndPortCodes_X3_loop : GoodIn wsX3_loopAndPortCodes (wsV RX3 282 RX3 yX3_loop wsX3_loop) := goodIn_app (goodIn_of _ (by decide +kernel)) ggX3_loopAndPortCodes_X3_loop
set_option maxRecDepth 20000 in
theorem ggX3_loopAndPortCodes_X4_word : GoodIn wsX3_loopAndPortCodes wsX4_word := goodIn_r _ [17, 18, 138, 139, 140] rfl (by decide +kernel)
set_option maxRecDepth 20000 in
theorem gX3_loopAndPortCodes_X4_word : GoodIn wsX3_loopAndPortCodes (wsV RX3 139 RX4 yX4_word wsX4_word) := goodIn_app (goodIn_of _ (by decide +kernel)) ggX3_loopAndPortCodes_X4_word
set_option maxRecDepth 20000 in
theorem ggX3_loopAndPortCodes_X3_jumpIf : GoodIn wsX3_loopAndPortCodes wsX3_jumpIf := goodIn_r _ [33, 1, 5, 34, 35, 27, 36, 37, 38, 39, 10, 40, 3, 4, 41, 42, 43, 16, 44, 23, 45, 118, 119, 120, 121, 122, 123, 124, 125, 126, 127, 128, 129, 130, 131, 132, 133, 134, 135, 136, 137, 138, 139, 140] rfl (by decide +kernel)
set_option maxRecDepth 20000 in
theorem gX3_loopAndPortCodes_X3_jumpIf : GoodIn wsX3_loopAndPortCodes (wsV RX3 63 RX3 yX3_jumpIf wsX3_jumpIf) := goodIn_app (goodIn_of _ (by decide +kernel)) ggX3_loopAndPortCodes_X3_jumpIf
set_option maxRecDepth 20000 in
theorem ggX3_loopAndPortCodes_X3_push : GoodIn wsX3_loopAndPortCodes wsX3_push := goodIn_r _ [49, 3, 50, 13, 14, 15, 16, 17, 18, 19, 20, 21, 22, 23, 51, 52, 53, 54, 55, 56, 57, 58, 59, 60, 61, 62, 63, 64, 65, 66, 67, 68, 69, 70, 71, 72, 73, 118, 119, 120, 121, 122, 123, 124, 125, 138, 139, 140, 142, 143, 144, 145] rfl (by decide +kernel)
set_option maxRecDepth 20000 in
theorem gX3_loopAndPortCodes_X3_push : GoodIn wsX3_loopAndPortCodes (wsV RX3 110 RX3 yX3_push wsX3_push) := goodIn_app (goodIn_of _ (by decide +kernel)) ggX3_loopAndPortCodes_X3_push
set_option maxRecDepth 20000 in
theorem ggX3_loopAndPortCodes_X3_jump : GoodIn wsX3_loopAndPortCodes wsX3_jump := goodIn_r _ [40, 3, 4, 41, 42, 43, 16, 44, 23, 45, 118, 119, 120, 121, 122, 123, 124, 125, 138, 139, 140] rfl (by decide +kernel)
set_option maxRecDepth 20000 in
theorem gX3_loopAndPortCodes_X3_jump : GoodIn wsX3_loopAndPortCodes (wsV RX3 182 RX3 yX3_jump wsX3_jump) := goodIn_app (goodIn_of _ (by decide +kernel)) ggX3_loopAndPortCodes_X3_jump
set_option maxRecDepth 20000 in
theorem ggX3_loopAndPortCodes_X3_jumpFar : GoodIn wsX3_loopAndPortCodes wsX3_jumpFar := goodIn_r _ [77, 3, 41, 42, 43, 16, 44, 23, 45, 78, 79, 80, 81, 55, 118, 119, 120, 121, 122, 123, 124, 125, 138, 139, 140] rfl (by decide +kernel)
set_option maxRecDepth 20000 in
theorem gX3_loopAndPortCodes_X3_jumpFar : GoodIn wsX3_loopAndPortCodes (wsV RX3 185 RX3 yX3_jumpFar wsX3_jumpFar) := goodIn_app (goodIn_of _ (by decide +kernel)) ggX3_loopAndPortCodes_X3_jumpFar
set_option maxRecDepth 20000 in
theorem ggX3_loopAndPortCodes_X3_usePort : GoodIn wsX3_loopAndPortCodes wsX3_usePort := goodIn_r _ [85, 1, 2, 86, 87, 88, 89, 90, 91, 92, 93, 94, 10, 95, 96, 97, 98, 99, 100, 3, 101, 102, 103, 16, 104, 18, 23, 105, 106, 107, 108, 109, 110, 111, 112, 113, 114, 115, 116, 117, 118, 119, 120, 121, 122, 123, 124, 125, 126, 127, 128, 129, 130, 131, 132, 133, 134, 135, 136, 137, 138, 139, 140] rfl (by decide +kernel)
set_option maxRecDepth 20000 in
theorem gX3_loopAndPortCodes_X3_usePort : GoodIn wsX3_loopAndPortCodes (wsV RX3 285 RX3 yX3_usePort wsX3_usePort) := goodIn_app (goodIn_of _ (by decide +kernel)) ggX3_loopAndPortCodes_X3_usePort
set_option maxRecDepth 20000 in
theorem ggX3_loop_X4_word : GoodIn wsX3_loop wsX4_word := goodIn_r _ [9, 10, 61, 62, 63] rfl (by decide +kernel)
set_option maxRecDepth 20000 in
theorem gX3_loop_X4_word : GoodIn wsX3_loop (wsV RX3 139 RX4 yX4_word wsX4_word) := goodIn_app (goodIn_of _ (by decide +kernel)) ggX3_loop_X4_word
set_option maxRecDepth 20000 in
theorem ggX3_loop_X4_setWord : GoodIn wsX3_loop wsX4_setWord := goodIn_r _ [14, 10, 15, 61, 62, 63] rfl (by decide +kernel)
set_option maxRecDepth 20000 in
theorem gX3_loop_X4_setWord : GoodIn wsX3_loop (wsV RX3 142 RX4 yX4_setWord wsX4_setWord) := goodIn_app (goodIn_of _ (by decide +kernel)) ggX3_loop_X4_setWord
set_option maxRecDepth 20000 in
theorem ggX3_loop_X0_has : GoodIn wsX3_loop wsX0_has := goodIn_r _ [20, 21, 64] rfl (by decide +kernel)
set_option maxRecDepth 20000 in
theorem gX3_loop_X0_has : GoodIn wsX3_loop (wsV RX3 249 RX0 yX0_has wsX0_has) := goodIn_app (goodIn_of _ (by decide +kernel)) ggX3_loop_X0_has
set_option maxRecDepth 20000 in
theorem ggX3_loop_X3_jumpIf : GoodIn wsX3_loop wsX3_jumpIf := goodIn_r _ [26, 2, 27, 28, 29, 19, 30, 31, 32, 33, 25, 34, 1, 35, 36, 37, 38, 8, 39, 15, 40, 41, 42, 43, 44, 45, 46, 47, 48, 49, 50, 51, 52, 53, 54, 55, 56, 57, 58, 59, 60, 61, 62, 63] rfl (by decide +kernel)
set_option maxRecDepth 20000 in
theorem gX3_loop_X3_jumpIf : GoodIn wsX3_loop (wsV RX3 63 RX3 yX3_jumpIf wsX3_jumpIf) := goodIn_app (goodIn_of _ (by decide +kernel)) ggX3_loop_X3_jumpIf
set_option maxRecDepth 20000 in
theorem ggX3_usePort_X1_wide : GoodIn wsX3_usePort wsX1_wide := goodIn_r _ [7, 8, 48, 49, 50, 51, 52, 53, 54, 55, 56, 57, 58, 59] rfl (by decide +kernel)
set_option maxRecDepth 20000 in
theorem gX3_usePort_X1_wide : GoodIn wsX3_usePort (wsV RX3 188 RX1 yX1_wide wsX1_wide) := goodIn_app (goodIn_of _ (by decide +kernel)) ggX3_usePort_X1_wide
set_option maxRecDepth 20000 in
theorem ggX3_usePort_X3_portByte : GoodIn wsX3_usePort wsX3_portByte := goodIn_r _ [13, 14, 40, 41, 42, 43, 44, 45, 46, 47] rfl (by decide +kernel)
set_option maxRecDepth 20000 in
theorem gX3_usePort_X3_portByte : GoodIn wsX3_usePort (wsV RX3 288 RX3 yX3_portByte wsX3_portByte) := goodIn_app (goodIn_of _ (by decide +kernel)) ggX3_usePort_X3_portByte
set_option maxRecDepth 20000 in
theorem ggX3_usePort_X3_giveA : GoodIn wsX3_usePort wsX3_giveA := goodIn_r _ [18, 19, 20, 21, 22, 23, 24, 25, 26, 27, 40, 41, 42, 43, 44, 45, 46, 47, 60, 61, 62] rfl (by decide +kernel)
set_option maxRecDepth 20000 in
theorem gX3_usePort_X3_giveA : GoodIn wsX3_usePort (wsV RX3 200 RX3 yX3_giveA wsX3_giveA) := goodIn_app (goodIn_of _ (by decide +kernel)) ggX3_usePort_X3_giveA
set_option maxRecDepth 20000 in
theorem ggX3_usePort_X3_a : GoodIn wsX3_usePort wsX3_a := goodIn_r _ [31, 19, 32, 33, 34, 23, 35, 25, 40, 41, 42, 43, 44, 45, 46, 47, 60, 61, 62] rfl (by decide +kernel)
set_option maxRecDepth 20000 in
theorem gX3_usePort_X3_a : GoodIn wsX3_usePort (wsV RX3 197 RX3 yX3_a wsX3_a) := goodIn_app (goodIn_of _ (by decide +kernel)) ggX3_usePort_X3_a
set_option maxRecDepth 20000 in
theorem ggX3_usePort_X3_givePort : GoodIn wsX3_usePort wsX3_givePort := goodIn_r _ [39, 14, 40, 41, 42, 43, 44, 45, 46, 47] rfl (by decide +kernel)
set_option maxRecDepth 20000 in
theorem gX3_usePort_X3_givePort : GoodIn wsX3_usePort (wsV RX3 291 RX3 yX3_givePort wsX3_givePort) := goodIn_app (goodIn_of _ (by decide +kernel)) ggX3_usePort_X3_givePort
set_option maxRecDepth 20000 in
theorem ggX3_lastCodes_X1_wide : GoodIn wsX3_lastCodes wsX1_wide := goodIn_r _ [9, 10, 216, 217, 218, 219, 220, 221, 222, 223, 224, 225, 226, 227] rfl (by decide +kernel)
set_option maxRecDepth 20000 in
theorem gX3_lastCodes_X1_wide : GoodIn wsX3_lastCodes (wsV RX3 188 RX1 yX1_wide wsX1_wide) := goodIn_app (goodIn_of _ (by decide +kernel)) ggX3_lastCodes_X1_wide
set_option maxRecDepth 20000 in
theorem ggX3_lastCodes_X0_has : GoodIn wsX3_lastCodes wsX0_has := goodIn_r _ [15, 16, 228] rfl (by decide +kernel)
set_option maxRecDepth 20000 in
theorem gX3_lastCodes_X0_has : GoodIn wsX3_lastCodes (wsV RX3 249 RX0 yX0_has wsX0_has) := goodIn_app (goodIn_of _ (by decide +kernel)) ggX3_lastCodes_X0_has
set_option maxRecDepth 20000 in
theorem ggX3_lastCodes_X0_mark : GoodIn wsX3_lastCodes wsX0_mark := goodIn_r _ [20, 16, 228] rfl (by decide +kernel)
set_option maxRecDepth 20000 in
theorem gX3_lastCodes_X0_mark : GoodIn wsX3_lastCodes (wsV RX3 113 RX0 yX0_mark wsX0_mark) := goodIn_app (goodIn_of _ (by decide +kernel)) ggX3_lastCodes_X0_mark
set_option maxRecDepth 20000 in
theorem ggX3_lastCodes_X3_codesF6 : GoodIn wsX3_lastCodes wsX3_codesF6 := goodIn_r _ [25, 1, 26, 4, 27, 5, 6, 7, 8, 9, 10, 28, 29, 30, 24, 31, 32, 33, 34, 35, 36, 37, 38, 39, 40, 41, 42, 43, 44, 45, 46, 47, 48, 49, 50, 51, 52, 53, 54, 55, 56, 57, 58, 59, 60, 61, 62, 63, 64, 65, 66, 14, 67, 16, 68, 69, 70, 71, 72, 73, 74, 75, 76, 77, 78, 79, 80, 81, 82, 83, 18, 19, 20, 84, 85, 86, 87, 88, 89, 90, 91, 92, 93, 94, 95, 96, 97, 98, 99, 100, 101, 102, 103, 104, 105, 106, 107, 108, 109, 110, 111, 112, 113, 114, 115, 116, 117, 118, 119, 120, 121, 122, 123, 124, 125, 126, 127, 128, 129, 130, 131, 132, 133, 134, 135, 136, 137, 138, 139, 140, 141, 142, 143, 144, 145, 146, 147, 148, 149, 150, 151, 152, 153, 154, 155, 156, 157, 158, 159, 160, 161, 162, 163, 164, 208, 209, 210, 211, 212, 213, 214, 215, 216, 217, 218, 219, 220, 221, 222, 223, 224, 225, 226, 227, 229, 230, 231, 232, 233, 234, 235, 228] rfl (by decide +kernel)
set_option maxRecDepth 20000 in
theorem gX3_lastCodes_X3_codesF6 : GoodIn wsX3_lastCodes (wsV RX3 298 RX3 yX3_codesF6 wsX3_codesF6) := goodIn_app (goodIn_of _ (by decide +kernel)) ggX3_lastCodes_X3_codesF6
set_option maxRecDepth 20000 in
theorem ggX3_lastCodes_X3_codesFE : GoodIn wsX3_lastCodes wsX3_codesFE := goodIn_r _ [168, 1, 26, 4, 32, 169, 33, 5, 6, 7, 8, 9, 10, 28, 29, 30, 24, 31, 34, 35, 36, 37, 38, 39, 40, 41, 42, 43, 44, 45, 46, 47, 48, 49, 50, 51, 52, 53, 54, 55, 56, 57, 58, 59, 60, 61, 62, 63, 170, 171, 172, 14, 173, 16, 103, 104, 105, 106, 72, 73, 74, 75, 76, 77, 78, 79, 80, 81, 82, 83, 18, 19, 20, 84, 85, 86, 87, 88, 89, 90, 91, 92, 93, 94, 95, 96, 97, 98, 68, 69, 70, 71, 107, 108, 109, 110, 111, 112, 113, 114, 115, 116, 117, 118, 119, 120, 121, 122, 123, 124, 125, 126, 174, 175, 176, 177, 158, 159, 160, 161, 143, 144, 145, 146, 178, 179, 180, 181, 182, 183, 184, 185, 186, 187, 188, 189, 190, 191, 192, 193, 194, 195, 196, 197, 198, 199, 200, 201, 202, 203, 204, 205, 206, 207, 208, 209, 210, 211, 212, 213, 214, 215, 216, 217, 218, 219, 220, 221, 222, 223, 224, 225, 226, 227, 229, 230, 231, 232, 233, 234, 235, 228] rfl (by decide +kernel)
set_option maxRecDepth 20000 in
theorem gX3_lastCodes_X3_codesFE : GoodIn wsX3_lastCodes (wsV RX3 301 RX3 yX3_codesFE wsX3_codesFE) := goodIn_app (goodIn_of _ (by decide +kernel)) ggX3_lastCodes_X3_codesFE
set_option maxRecDepth 20000 in
theorem ggX3_codesF6_X1_wide : GoodIn wsX3_codesF6 wsX1_wide := goodIn_r _ [9, 10, 162, 163, 164, 165, 166, 167, 168, 169, 170, 171, 172, 173] rfl (by decide +kernel)
set_option maxRecDepth 20000 in
theorem gX3_codesF6_X1_wide : GoodIn wsX3_codesF6 (wsV RX3 188 RX1 yX1_wide wsX1_wide) := goodIn_app (goodIn_of _ (by decide +kernel)) ggX3_codesF6_X1_wide
set_option maxRecDepth 20000 in
theorem ggX3_codesF6_X3_e : GoodIn wsX3_codesF6 wsX3_e := goodIn_r _ [15, 1, 16, 17, 18, 19, 20, 21, 22, 23, 8, 24, 25, 26, 27, 28, 29, 30, 31, 32, 33, 34, 35, 36, 37, 38, 39, 40, 41, 42, 43, 44, 45, 46, 47, 154, 155, 156, 157, 158, 159, 160, 161, 162, 163, 164, 165, 166, 167, 168, 169, 170, 171, 172, 173, 174, 175, 176, 177, 178, 179, 180] rfl (by decide +kernel)
set_option maxRecDepth 20000 in
theorem gX3_codesF6_X3_e : GoodIn wsX3_codesF6 (wsV RX3 168 RX3 yX3_e wsX3_e) := goodIn_app (goodIn_of _ (by decide +kernel)) ggX3_codesF6_X3_e
set_option maxRecDepth 20000 in
theorem ggX3_codesF6_X0_operation : GoodIn wsX3_codesF6 wsX0_operation := goodIn_r _ [52, 53, 54, 55, 56, 51, 57, 58, 59, 60, 61, 62, 63, 64, 65, 66, 67, 68, 69, 70, 71, 72, 73, 74, 75, 76, 77, 78, 79, 80, 81, 82, 83, 84, 85, 86, 87, 88, 89, 90, 91, 92, 93, 94, 95, 181] rfl (by decide +kernel)
set_option maxRecDepth 20000 in
theorem gX3_codesF6_X0_operation : GoodIn wsX3_codesF6 (wsV RX3 172 RX0 yX0_operation wsX0_operation) := goodIn_app (goodIn_of _ (by decide +kernel)) ggX3_codesF6_X0_operation
set_option maxRecDepth 20000 in
theorem ggX3_codesF6_X3_giveE : GoodIn wsX3_codesF6 wsX3_giveE := goodIn_r _ [99, 1, 16, 17, 18, 19, 20, 21, 22, 23, 8, 24, 25, 100, 101, 102, 29, 103, 31, 104, 105, 106, 107, 108, 35, 109, 37, 38, 39, 40, 41, 110, 111, 112, 113, 46, 114, 115, 47, 154, 155, 156, 157, 158, 159, 160, 161, 162, 163, 164, 165, 166, 167, 168, 169, 170, 171, 172, 173, 174, 175, 176, 177, 178, 179, 180] rfl (by decide +kernel)
set_option maxRecDepth 20000 in
theorem gX3_codesF6_X3_giveE : GoodIn wsX3_codesF6 (wsV RX3 176 RX3 yX3_giveE wsX3_giveE) := goodIn_app (goodIn_of _ (by decide +kernel)) ggX3_codesF6_X3_giveE
set_option maxRecDepth 20000 in
theorem ggX3_codesF6_X3_multiply : GoodIn wsX3_codesF6 wsX3_multiply := goodIn_r _ [119, 1, 3, 16, 5, 6, 7, 8, 9, 10, 120, 121, 122, 14, 123, 26, 27, 28, 29, 30, 31, 11, 12, 13, 15, 17, 18, 19, 20, 21, 22, 23, 24, 25, 32, 33, 34, 35, 36, 37, 38, 39, 40, 41, 42, 43, 44, 45, 46, 47, 124, 125, 126, 51, 127, 58, 59, 60, 65, 66, 67, 68, 69, 70, 71, 72, 53, 128, 129, 130, 131, 100, 101, 102, 103, 104, 105, 132, 133, 134, 135, 154, 155, 156, 157, 158, 159, 160, 161, 162, 163, 164, 165, 166, 167, 168, 169, 170, 171, 172, 173, 174, 175, 176, 177, 178, 179, 180, 181] rfl (by decide +kernel)
set_option maxRecDepth 20000 in
theorem gX3_codesF6_X3_multiply : GoodIn wsX3_codesF6 (wsV RX3 304 RX3 yX3_multiply wsX3_multiply) := goodIn_app (goodIn_of _ (by decide +kernel)) ggX3_codesF6_X3_multiply
set_option maxRecDepth 20000 in
theorem ggX3_codesF6_X3_divide : GoodIn wsX3_codesF6 wsX3_divide := goodIn_r _ [139, 1, 140, 16, 5, 6, 7, 8, 9, 10, 11, 12, 13, 14, 15, 17, 18, 19, 20, 21, 22, 23, 24, 25, 26, 27, 28, 29, 30, 31, 32, 33, 34, 35, 36, 37, 38, 39, 40, 41, 42, 43, 44, 45, 46, 47, 141, 59, 51, 60, 142, 143, 144, 145, 146, 120, 121, 122, 123, 147, 148, 149, 150, 151, 152, 153, 77, 78, 79, 80, 65, 66, 67, 68, 128, 129, 130, 131, 100, 101, 102, 103, 104, 105, 154, 155, 156, 157, 158, 159, 160, 161, 162, 163, 164, 165, 166, 167, 168, 169, 170, 171, 172, 173, 174, 175, 176, 177, 178, 179, 180] rfl (by decide +kernel)
set_option maxRecDepth 20000 in
theorem gX3_codesF6_X3_divide : GoodIn wsX3_codesF6 (wsV RX3 307 RX3 yX3_divide wsX3_divide) := goodIn_app (goodIn_of _ (by decide +kernel)) ggX3_codesF6_X3_divide
set_option maxRecDepth 20000 in
theorem ggX3_multiply_X1_wide : GoodIn wsX3_multiply wsX1_wide := goodIn_r _ [8, 9, 89, 90, 91, 92, 93, 94, 95, 96, 97, 98, 99, 100] rfl (by decide +kernel)
set_option maxRecDepth 20000 in
theorem gX3_multiply_X1_wide : GoodIn wsX3_multiply (wsV RX3 188 RX1 yX1_wide wsX1_wide) := goodIn_app (goodIn_of _ (by decide +kernel)) ggX3_multiply_X1_wide
set_option maxRecDepth 20000 in
theorem ggX3_multiply_X3_a : GoodIn wsX3_multiply wsX3_a := goodIn_r _ [14, 3, 15, 16, 17, 18, 19, 20, 81, 82, 83, 84, 85, 86, 87, 88, 101, 102, 103] rfl (by decide +kernel)
set_option maxRecDepth 20000 in
theorem gX3_multiply_X3_a : GoodIn wsX3_multiply (wsV RX3 197 RX3 yX3_a wsX3_a) := goodIn_app (goodIn_of _ (by decide +kernel)) ggX3_multiply_X3_a
set_option maxRecDepth 20000 in
theorem ggX3_multiply_X3_e : GoodIn wsX3_multiply wsX3_e := goodIn_r _ [24, 1, 3, 25, 26, 27, 28, 29, 30, 31, 7, 32, 33, 15, 16, 17, 18, 19, 20, 34, 35, 36, 37, 38, 39, 40, 41, 42, 43, 44, 45, 46, 47, 48, 49, 81, 82, 83, 84, 85, 86, 87, 88, 89, 90, 91, 92, 93, 94, 95, 96, 97, 98, 99, 100, 101, 102, 103, 104, 105, 106, 107] rfl (by decide +kernel)
set_option maxRecDepth 20000 in
theorem gX3_multiply_X3_e : GoodIn wsX3_multiply (wsV RX3 168 RX3 yX3_e wsX3_e) := goodIn_app (goodIn_of _ (by decide +kernel)) ggX3_multiply_X3_e
set_option maxRecDepth 20000 in
theorem ggX3_multiply_X0_product : GoodIn wsX3_multiply wsX0_product := goodIn_r _ [54, 55, 56, 53, 57, 58, 59, 60, 61, 62, 63, 64, 65, 66, 108] rfl (by decide +kernel)
set_option maxRecDepth 20000 in
theorem gX3_multiply_X0_product : GoodIn wsX3_multiply (wsV RX3 310 RX0 yX0_product wsX0_product) := goodIn_app (goodIn_of _ (by decide +kernel)) ggX3_multiply_X0_product
set_option maxRecDepth 20000 in
theorem ggX3_multiply_X3_giveA : GoodIn wsX3_multiply wsX3_giveA := goodIn_r _ [70, 3, 71, 72, 73, 18, 74, 20, 75, 76, 81, 82, 83, 84, 85, 86, 87, 88, 101, 102, 103] rfl (by decide +kernel)
set_option maxRecDepth 20000 in
theorem gX3_multiply_X3_giveA : GoodIn wsX3_multiply (wsV RX3 200 RX3 yX3_giveA wsX3_giveA) := goodIn_app (goodIn_of _ (by decide +kernel)) ggX3_multiply_X3_giveA
set_option maxRecDepth 20000 in
theorem ggX3_multiply_X4_setWord : GoodIn wsX3_multiply wsX4_setWord := goodIn_r _ [80, 20, 75, 101, 102, 103] rfl (by decide +kernel)
set_option maxRecDepth 20000 in
theorem gX3_multiply_X4_setWord : GoodIn wsX3_multiply (wsV RX3 142 RX4 yX4_setWord wsX4_setWord) := goodIn_app (goodIn_of _ (by decide +kernel)) ggX3_multiply_X4_setWord
set_option maxRecDepth 20000 in
theorem ggX3_divide_X1_wide : GoodIn wsX3_divide wsX1_wide := goodIn_r _ [8, 9, 92, 93, 94, 95, 96, 97, 98, 99, 100, 101, 102, 103] rfl (by decide +kernel)
set_option maxRecDepth 20000 in
theorem gX3_divide_X1_wide : GoodIn wsX3_divide (wsV RX3 188 RX1 yX1_wide wsX1_wide) := goodIn_app (goodIn_of _ (by decide +kernel)) ggX3_divide_X1_wide
set_option maxRecDepth 20000 in
theorem ggX3_divide_X3_e : GoodIn wsX3_divide wsX3_e := goodIn_r _ [14, 1, 3, 15, 16, 17, 18, 19, 20, 21, 7, 22, 23, 24, 25, 26, 27, 28, 29, 30, 31, 32, 33, 34, 35, 36, 37, 38, 39, 40, 41, 42, 43, 44, 45, 84, 85, 86, 87, 88, 89, 90, 91, 92, 93, 94, 95, 96, 97, 98, 99, 100, 101, 102, 103, 104, 105, 106, 107, 108, 109, 110] rfl (by decide +kernel)
set_option maxRecDepth 20000 in
theorem gX3_divide_X3_e : GoodIn wsX3_divide (wsV RX3 168 RX3 yX3_e wsX3_e) := goodIn_app (goodIn_of _ (by decide +kernel)) ggX3_divide_X3_e
set_option maxRecDepth 20000 in
theorem ggX3_divide_X0_signed : GoodIn wsX3_divide wsX0_signed := goodIn_r _ [49] rfl (by decide +kernel)
set_option maxRecDepth 20000 in
theorem gX3_divide_X0_signed : GoodIn wsX3_divide (va_wsS RX3 179 yX0_signed wsX0_signed) := goodIn_app (goodIn_of _ (by decide +kernel)) ggX3_divide_X0_signed
set_option maxRecDepth 20000 in
theorem ggX3_divide_X3_dividend : GoodIn wsX3_divide wsX3_dividend := goodIn_r _ [53, 3, 54, 55, 56, 57, 13, 58, 24, 25, 26, 27, 28, 29, 46, 47, 48, 49, 59, 60, 61, 62, 84, 85, 86, 87, 88, 89, 90, 91, 104, 105, 106] rfl (by decide +kernel)
set_option maxRecDepth 20000 in
theorem gX3_divide_X3_dividend : GoodIn wsX3_divide (wsV RX3 314 RX3 yX3_dividend wsX3_dividend) := goodIn_app (goodIn_of _ (by decide +kernel)) ggX3_divide_X3_dividend
set_option maxRecDepth 20000 in
theorem ggX3_divide_X0_fits : GoodIn wsX3_divide wsX0_fits := goodIn_r _ [65, 66, 67, 48, 68, 69, 70, 71, 72, 73] rfl (by decide +kernel)
set_option maxRecDepth 20000 in
theorem gX3_divide_X0_fits : GoodIn wsX3_divide (va_wsS RX3 318 yX0_fits wsX0_fits) := goodIn_app (goodIn_of _ (by decide +kernel)) ggX3_divide_X0_fits
set_option maxRecDepth 20000 in
theorem ggX3_divide_X3_giveA : GoodIn wsX3_divide wsX3_giveA := goodIn_r _ [77, 3, 78, 79, 80, 27, 81, 29, 82, 83, 84, 85, 86, 87, 88, 89, 90, 91, 104, 105, 106] rfl (by decide +kernel)
set_option maxRecDepth 20000 in
theorem gX3_divide_X3_giveA : GoodIn wsX3_divide (wsV RX3 200 RX3 yX3_giveA wsX3_giveA) := goodIn_app (goodIn_of _ (by decide +kernel)) ggX3_divide_X3_giveA
set_option maxRecDepth 20000 in
theorem ggX3_divide_X4_give : GoodIn wsX3_divide wsX4_give := goodIn_r _ [81, 29, 82, 83, 104, 105, 106] rfl (by decide +kernel)
set_option maxRecDepth 20000 in
theorem gX3_divide_X4_give : GoodIn wsX3_divide (wsV RX3 86 RX4 yX4_give wsX4_give) := goodIn_app (goodIn_of _ (by decide +kernel)) ggX3_divide_X4_give
set_option maxRecDepth 20000 in
theorem ggX3_dividend_X3_a : GoodIn wsX3_dividend wsX3_a := goodIn_r _ [7, 1, 8, 9, 10, 11, 12, 13, 22, 23, 24, 25, 26, 27, 28, 29, 30, 31, 32] rfl (by decide +kernel)
set_option maxRecDepth 20000 in
theorem gX3_dividend_X3_a : GoodIn wsX3_dividend (wsV RX3 197 RX3 yX3_a wsX3_a) := goodIn_app (goodIn_of _ (by decide +kernel)) ggX3_dividend_X3_a
set_option maxRecDepth 20000 in
theorem ggX3_dividend_X0_signed : GoodIn wsX3_dividend wsX0_signed := goodIn_r _ [17] rfl (by decide +kernel)
set_option maxRecDepth 20000 in
theorem gX3_dividend_X0_signed : GoodIn wsX3_dividend (va_wsS RX3 179 yX0_signed wsX0_signed) := goodIn_app (goodIn_of _ (by decide +kernel)) ggX3_dividend_X0_signed
set_option maxRecDepth 20000 in
theorem ggX3_dividend_X4_word : GoodIn wsX3_dividend wsX4_word := goodIn_r _ [21, 13, 30, 31, 32] rfl (by decide +kernel)
set_option maxRecDepth 20000 in
theorem gX3_dividend_X4_word : GoodIn wsX3_dividend (wsV RX3 139 RX4 yX4_word wsX4_word) := goodIn_app (goodIn_of _ (by decide +kernel)) ggX3_dividend_X4_word
set_option maxRecDepth 20000 in
theorem ggX3_codesFE_X1_wide : GoodIn wsX3_codesFE wsX1_wide := goodIn_r _ [11, 12, 162, 163, 164, 165, 166, 167, 168, 169, 170, 171, 172, 173] rfl (by decide +kernel)
set_option maxRecDepth 20000 in
theorem gX3_codesFE_X1_wide : GoodIn wsX3_codesFE (wsV RX3 188 RX1 yX1_wide wsX1_wide) := goodIn_app (goodIn_of _ (by decide +kernel)) ggX3_codesFE_X1_wide
set_option maxRecDepth 20000 in
theorem ggX3_codesFE_X3_e : GoodIn wsX3_codesFE wsX3_e := goodIn_r _ [17, 1, 4, 6, 18, 19, 20, 21, 22, 23, 10, 24, 25, 26, 27, 28, 29, 30, 31, 32, 33, 34, 35, 36, 37, 38, 39, 40, 41, 42, 43, 44, 45, 46, 47, 154, 155, 156, 157, 158, 159, 160, 161, 162, 163, 164, 165, 166, 167, 168, 169, 170, 171, 172, 173, 174, 175, 176, 177, 178, 179, 180] rfl (by decide +kernel)
set_option maxRecDepth 20000 in
theorem gX3_codesFE_X3_e : GoodIn wsX3_codesFE (wsV RX3 168 RX3 yX3_e wsX3_e) := goodIn_app (goodIn_of _ (by decide +kernel)) ggX3_codesFE_X3_e
