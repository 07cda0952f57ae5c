set_option maxRecDepth 20000 in
theorem ggX3_placeCodes_X1_wide : GoodIn wsX3_placeCodes wsX1_wide := goodIn_r _ [10, 11, 130, 131, 132, 133, 134, 135, 136, 137, 138, 139, 140, 141] rfl (by decide +kernel)
set_option maxRecDepth 20000 in
theorem gX3_placeCodes_X1_wide : GoodIn wsX3_placeCodes (wsV RX3 188 RX1 yX1_wide wsX1_wide) := goodIn_app (goodIn_of _ (by decide +kernel)) ggX3_placeCodes_X1_wide
set_option maxRecDepth 20000 in
theorem ggX3_placeCodes_X3_segmentFor : GoodIn wsX3_placeCodes wsX3_segmentFor := goodIn_r _ [16, 17, 1, 18, 19, 20, 9, 21, 22, 23, 24, 25, 26, 27, 28, 122, 123, 124, 125, 126, 127, 128, 129, 130, 131, 132, 133, 134, 135, 136, 137, 138, 139, 140, 141, 142, 143, 144] rfl (by decide +kernel)
set_option maxRecDepth 20000 in
theorem gX3_placeCodes_X3_segmentFor : GoodIn wsX3_placeCodes (wsV RX3 234 RX3 yX3_segmentFor wsX3_segmentFor) := goodIn_app (goodIn_of _ (by decide +kernel)) ggX3_placeCodes_X3_segmentFor
set_option maxRecDepth 20000 in
theorem ggX3_placeCodes_X3_a : GoodIn wsX3_placeCodes wsX3_a := goodIn_r _ [32, 17, 33, 34, 35, 26, 36, 37, 122, 123, 124, 125, 126, 127, 128, 129, 142, 143, 144] rfl (by decide +kernel)
set_option maxRecDepth 20000 in
theorem gX3_placeCodes_X3_a : GoodIn wsX3_placeCodes (wsV RX3 197 RX3 yX3_a wsX3_a) := goodIn_app (goodIn_of _ (by decide +kernel)) ggX3_placeCodes_X3_a
set_option maxRecDepth 20000 in
theorem ggX3_placeCodes_X0_operation : GoodIn wsX3_placeCodes wsX0_operation := goodIn_r _ [42, 43, 44, 45, 46, 41, 47, 48, 49, 50, 51, 52, 53, 54, 55, 56, 57, 58, 59, 60, 61, 62, 63, 64, 65, 66, 67, 68, 69, 70, 71, 72, 73, 74, 75, 76, 77, 78, 79, 80, 81, 82, 83, 84, 85, 145] rfl (by decide +kernel)
set_option maxRecDepth 20000 in
theorem gX3_placeCodes_X0_operation : GoodIn wsX3_placeCodes (wsV RX3 172 RX0 yX0_operation wsX0_operation) := goodIn_app (goodIn_of _ (by decide +kernel)) ggX3_placeCodes_X0_operation
set_option maxRecDepth 20000 in
theorem ggX3_placeCodes_X2_store : GoodIn wsX3_placeCodes wsX2_store := goodIn_r _ [90, 91, 92, 89, 93, 94, 95, 96, 97, 98, 99, 100, 101, 102, 103, 146, 147, 148, 149] rfl (by decide +kernel)
set_option maxRecDepth 20000 in
theorem gX3_placeCodes_X2_store : GoodIn wsX3_placeCodes (wsV RX3 145 RX2 yX2_store wsX2_store) := goodIn_app (goodIn_of _ (by decide +kernel)) ggX3_placeCodes_X2_store
set_option maxRecDepth 20000 in
theorem ggX3_placeCodes_X2_load : GoodIn wsX3_placeCodes wsX2_load := goodIn_r _ [107, 91, 92, 89, 93, 94, 95, 108, 109, 110, 111, 100, 103, 146, 147, 148, 149] rfl (by decide +kernel)
set_option maxRecDepth 20000 in
theorem gX3_placeCodes_X2_load : GoodIn wsX3_placeCodes (wsV RX3 124 RX2 yX2_load wsX2_load) := goodIn_app (goodIn_of _ (by decide +kernel)) ggX3_placeCodes_X2_load
set_option maxRecDepth 20000 in
theorem ggX3_placeCodes_X3_giveA : GoodIn wsX3_placeCodes wsX3_giveA := goodIn_r _ [115, 17, 116, 117, 118, 26, 119, 37, 120, 121, 122, 123, 124, 125, 126, 127, 128, 129, 142, 143, 144] rfl (by decide +kernel)
set_option maxRecDepth 20000 in
theorem gX3_placeCodes_X3_giveA : GoodIn wsX3_placeCodes (wsV RX3 200 RX3 yX3_giveA wsX3_giveA) := goodIn_app (goodIn_of _ (by decide +kernel)) ggX3_placeCodes_X3_giveA
set_option maxRecDepth 20000 in
theorem ggX3_strings_X3_stringOnce : GoodIn wsX3_strings wsX3_stringOnce := goodIn_r _ [11, 1, 3, 12, 13, 5, 14, 15, 16, 17, 18, 19, 20, 21, 22, 23, 24, 25, 26, 27, 28, 10, 29, 30, 31, 32, 33, 34, 35, 36, 37, 38, 39, 40, 41, 42, 43, 44, 45, 46, 47, 48, 49, 50, 51, 52, 53, 54, 55, 56, 57, 58, 59, 60, 61, 62, 63, 64, 65, 66, 67, 68, 69, 70, 71, 72, 73, 74, 75, 76, 77, 78, 79, 80, 81, 82, 83, 84, 85, 86, 87, 88, 89, 90, 91, 92, 93, 94, 95, 96, 97, 98, 99, 100, 101, 102, 103, 104, 105, 106, 107, 108, 109, 110, 111, 112, 113, 114, 115, 116, 117, 118, 119, 120, 121, 122, 123, 124, 125, 126, 127, 128, 129, 130, 131, 132, 133, 134, 135, 136, 137, 138, 139, 140, 141, 142, 143, 153, 154, 155, 156, 157, 158, 159, 160, 161, 162, 163, 164, 165, 166, 167, 168, 169, 170, 171, 172, 173, 174, 175, 176, 177, 178, 179, 180] rfl (by decide +kernel)
set_option maxRecDepth 20000 in
theorem gX3_strings_X3_stringOnce : GoodIn wsX3_strings (wsV RX3 240 RX3 yX3_stringOnce wsX3_stringOnce) := goodIn_app (goodIn_of _ (by decide +kernel)) ggX3_strings_X3_stringOnce
set_option maxRecDepth 20000 in
theorem ggX3_strings_X4_word : GoodIn wsX3_strings wsX4_word := goodIn_r _ [24, 25, 173, 174, 175] rfl (by decide +kernel)
set_option maxRecDepth 20000 in
theorem gX3_strings_X4_word : GoodIn wsX3_strings (wsV RX3 139 RX4 yX4_word wsX4_word) := goodIn_app (goodIn_of _ (by decide +kernel)) ggX3_strings_X4_word
set_option maxRecDepth 20000 in
theorem ggX3_strings_X4_setWord : GoodIn wsX3_strings wsX4_setWord := goodIn_r _ [83, 25, 84, 173, 174, 175] rfl (by decide +kernel)
set_option maxRecDepth 20000 in
theorem gX3_strings_X4_setWord : GoodIn wsX3_strings (wsV RX3 142 RX4 yX4_setWord wsX4_setWord) := goodIn_app (goodIn_of _ (by decide +kernel)) ggX3_strings_X4_setWord
set_option maxRecDepth 20000 in
theorem ggX3_strings_X1_compares : GoodIn wsX3_strings wsX1_compares := goodIn_r _ [147, 19, 161, 162, 163, 164, 165, 166, 167, 168, 169, 170, 171, 172] rfl (by decide +kernel)
set_option maxRecDepth 20000 in
theorem gX3_strings_X1_compares : GoodIn wsX3_strings (wsV RX3 246 RX1 yX1_compares wsX1_compares) := goodIn_app (goodIn_of _ (by decide +kernel)) ggX3_strings_X1_compares
set_option maxRecDepth 20000 in
theorem ggX3_strings_X0_has : GoodIn wsX3_strings wsX0_has := goodIn_r _ [78, 79, 180] rfl (by decide +kernel)
set_option maxRecDepth 20000 in
theorem gX3_strings_X0_has : GoodIn wsX3_strings (wsV RX3 249 RX0 yX0_has wsX0_has) := goodIn_app (goodIn_of _ (by decide +kernel)) ggX3_strings_X0_has
set_option maxRecDepth 20000 in
theorem ggX3_strings_X4_moveTo : GoodIn wsX3_strings wsX4_moveTo := goodIn_r _ [151, 84, 152, 173, 174, 175] rfl (by decide +kernel)
set_option maxRecDepth 20000 in
theorem gX3_strings_X4_moveTo : GoodIn wsX3_strings (wsV RX3 128 RX4 yX4_moveTo wsX4_moveTo) := goodIn_app (goodIn_of _ (by decide +kernel)) ggX3_strings_X4_moveTo
set_option maxRecDepth 20000 in
theorem ggX3_stringOnce_X1_wide : GoodIn wsX3_stringOnce wsX1_wide := goodIn_r _ [10, 11, 145, 146, 147, 148, 149, 150, 151, 152, 153, 154, 155, 156] rfl (by decide +kernel)
set_option maxRecDepth 20000 in
theorem gX3_stringOnce_X1_wide : GoodIn wsX3_stringOnce (wsV RX3 188 RX1 yX1_wide wsX1_wide) := goodIn_app (goodIn_of _ (by decide +kernel)) ggX3_stringOnce_X1_wide
set_option maxRecDepth 20000 in
theorem ggX3_stringOnce_X4_word : GoodIn wsX3_stringOnce wsX4_word := goodIn_r _ [16, 17, 157, 158, 159] rfl (by decide +kernel)
set_option maxRecDepth 20000 in
theorem gX3_stringOnce_X4_word : GoodIn wsX3_stringOnce (wsV RX3 139 RX4 yX4_word wsX4_word) := goodIn_app (goodIn_of _ (by decide +kernel)) ggX3_stringOnce_X4_word
set_option maxRecDepth 20000 in
theorem ggX3_stringOnce_X3_segmentFor : GoodIn wsX3_stringOnce wsX3_segmentFor := goodIn_r _ [22, 2, 1, 23, 24, 25, 9, 26, 27, 28, 29, 30, 15, 31, 32, 137, 138, 139, 140, 141, 142, 143, 144, 145, 146, 147, 148, 149, 150, 151, 152, 153, 154, 155, 156, 157, 158, 159] rfl (by decide +kernel)
set_option maxRecDepth 20000 in
theorem gX3_stringOnce_X3_segmentFor : GoodIn wsX3_stringOnce (wsV RX3 234 RX3 yX3_segmentFor wsX3_segmentFor) := goodIn_app (goodIn_of _ (by decide +kernel)) ggX3_stringOnce_X3_segmentFor
set_option maxRecDepth 20000 in
theorem ggX3_stringOnce_X4_segment : GoodIn wsX3_stringOnce wsX4_segment := goodIn_r _ [31, 32, 157, 158, 159] rfl (by decide +kernel)
set_option maxRecDepth 20000 in
theorem gX3_stringOnce_X4_segment : GoodIn wsX3_stringOnce (wsV RX3 117 RX4 yX4_segment wsX4_segment) := goodIn_app (goodIn_of _ (by decide +kernel)) ggX3_stringOnce_X4_segment
set_option maxRecDepth 20000 in
theorem ggX3_stringOnce_X2_load : GoodIn wsX3_stringOnce wsX2_load := goodIn_r _ [37, 38, 39, 36, 40, 41, 42, 43, 44, 45, 46, 47, 48, 160, 161, 162, 163] rfl (by decide +kernel)
set_option maxRecDepth 20000 in
theorem gX3_stringOnce_X2_load : GoodIn wsX3_stringOnce (wsV RX3 124 RX2 yX2_load wsX2_load) := goodIn_app (goodIn_of _ (by decide +kernel)) ggX3_stringOnce_X2_load
set_option maxRecDepth 20000 in
theorem ggX3_stringOnce_X2_store : GoodIn wsX3_stringOnce wsX2_store := goodIn_r _ [52, 38, 39, 36, 40, 41, 42, 53, 54, 55, 56, 47, 57, 58, 48, 160, 161, 162, 163] rfl (by decide +kernel)
set_option maxRecDepth 20000 in
theorem gX3_stringOnce_X2_store : GoodIn wsX3_stringOnce (wsV RX3 145 RX2 yX2_store wsX2_store) := goodIn_app (goodIn_of _ (by decide +kernel)) ggX3_stringOnce_X2_store
set_option maxRecDepth 20000 in
theorem ggX3_stringOnce_X3_passSource : GoodIn wsX3_stringOnce wsX3_passSource := goodIn_r _ [62, 2, 12, 13, 14, 15, 16, 17, 63, 64, 65, 21, 66, 1, 5, 6, 7, 8, 9, 10, 11, 67, 68, 69, 70, 71, 72, 73, 74, 75, 76, 77, 137, 138, 139, 140, 141, 142, 143, 144, 157, 158, 159, 145, 146, 147, 148, 149, 150, 151, 152, 153, 154, 155, 156, 164] rfl (by decide +kernel)
set_option maxRecDepth 20000 in
theorem gX3_stringOnce_X3_passSource : GoodIn wsX3_stringOnce (wsV RX3 255 RX3 yX3_passSource wsX3_passSource) := goodIn_app (goodIn_of _ (by decide +kernel)) ggX3_stringOnce_X3_passSource
set_option maxRecDepth 20000 in
theorem ggX3_stringOnce_X3_passTarget : GoodIn wsX3_stringOnce wsX3_passTarget := goodIn_r _ [81, 2, 12, 13, 14, 15, 16, 17, 63, 64, 65, 21, 66, 1, 5, 6, 7, 8, 9, 10, 11, 67, 68, 69, 70, 71, 72, 73, 74, 75, 76, 77, 137, 138, 139, 140, 141, 142, 143, 144, 157, 158, 159, 145, 146, 147, 148, 149, 150, 151, 152, 153, 154, 155, 156, 164] rfl (by decide +kernel)
set_option maxRecDepth 20000 in
theorem gX3_stringOnce_X3_passTarget : GoodIn wsX3_stringOnce (wsV RX3 258 RX3 yX3_passTarget wsX3_passTarget) := goodIn_app (goodIn_of _ (by decide +kernel)) ggX3_stringOnce_X3_passTarget
set_option maxRecDepth 20000 in
theorem ggX3_stringOnce_X0_compare : GoodIn wsX3_stringOnce wsX0_compare := goodIn_r _ [85, 86, 87, 88, 70, 89, 90, 91, 92, 93, 94, 95, 96, 97, 98, 99, 100, 101, 102, 103, 104, 72, 105, 106, 107, 108, 109, 110, 111, 112, 113, 114, 115, 116, 117, 118, 119, 164] rfl (by decide +kernel)
set_option maxRecDepth 20000 in
theorem gX3_stringOnce_X0_compare : GoodIn wsX3_stringOnce (wsV RX3 261 RX0 yX0_compare wsX0_compare) := goodIn_app (goodIn_of _ (by decide +kernel)) ggX3_stringOnce_X0_compare
set_option maxRecDepth 20000 in
theorem ggX3_stringOnce_X3_a : GoodIn wsX3_stringOnce wsX3_a := goodIn_r _ [123, 2, 124, 125, 126, 15, 127, 17, 137, 138, 139, 140, 141, 142, 143, 144, 157, 158, 159] rfl (by decide +kernel)
set_option maxRecDepth 20000 in
theorem gX3_stringOnce_X3_a : GoodIn wsX3_stringOnce (wsV RX3 197 RX3 yX3_a wsX3_a) := goodIn_app (goodIn_of _ (by decide +kernel)) ggX3_stringOnce_X3_a
set_option maxRecDepth 20000 in
theorem ggX3_stringOnce_X3_giveA : GoodIn wsX3_stringOnce wsX3_giveA := goodIn_r _ [131, 2, 132, 133, 134, 15, 135, 17, 77, 136, 137, 138, 139, 140, 141, 142, 143, 144, 157, 158, 159] rfl (by decide +kernel)
set_option maxRecDepth 20000 in
theorem gX3_stringOnce_X3_giveA : GoodIn wsX3_stringOnce (wsV RX3 200 RX3 yX3_giveA wsX3_giveA) := goodIn_app (goodIn_of _ (by decide +kernel)) ggX3_stringOnce_X3_giveA
set_option maxRecDepth 20000 in
theorem ggX3_passSource_X4_word : GoodIn wsX3_passSource wsX4_word := goodIn_r _ [6, 7, 40, 41, 42] rfl (by decide +kernel)
set_option maxRecDepth 20000 in
theorem gX3_passSource_X4_word : GoodIn wsX3_passSource (wsV RX3 139 RX4 yX4_word wsX4_word) := goodIn_app (goodIn_of _ (by decide +kernel)) ggX3_passSource_X4_word
set_option maxRecDepth 20000 in
theorem ggX3_passSource_X3_stringStride : GoodIn wsX3_passSource wsX3_stringStride := goodIn_r _ [12, 13, 14, 15, 16, 17, 18, 19, 20, 21, 22, 23, 24, 25, 26, 32, 33, 34, 35, 36, 37, 38, 39, 43, 44, 45, 46, 47, 48, 49, 50, 51, 52, 53, 54, 55] rfl (by decide +kernel)
set_option maxRecDepth 20000 in
theorem gX3_passSource_X3_stringStride : GoodIn wsX3_passSource (wsV RX3 264 RX3 yX3_stringStride wsX3_stringStride) := goodIn_app (goodIn_of _ (by decide +kernel)) ggX3_passSource_X3_stringStride
set_option maxRecDepth 20000 in
theorem ggX3_passSource_X4_setWord : GoodIn wsX3_passSource wsX4_setWord := goodIn_r _ [30, 7, 31, 40, 41, 42] rfl (by decide +kernel)
set_option maxRecDepth 20000 in
theorem gX3_passSource_X4_setWord : GoodIn wsX3_passSource (wsV RX3 142 RX4 yX4_setWord wsX4_setWord) := goodIn_app (goodIn_of _ (by decide +kernel)) ggX3_passSource_X4_setWord
set_option maxRecDepth 20000 in
theorem ggX3_passTarget_X4_word : GoodIn wsX3_passTarget wsX4_word := goodIn_r _ [6, 7, 40, 41, 42] rfl (by decide +kernel)
set_option maxRecDepth 20000 in
theorem gX3_passTarget_X4_word : GoodIn wsX3_passTarget (wsV RX3 139 RX4 yX4_word wsX4_word) := goodIn_app (goodIn_of _ (by decide +kernel)) ggX3_passTarget_X4_word
set_option maxRecDepth 20000 in
theorem ggX3_passTarget_X3_stringStride : GoodIn wsX3_passTarget wsX3_stringStride := goodIn_r _ [12, 13, 14, 15, 16, 17, 18, 19, 20, 21, 22, 23, 24, 25, 26, 32, 33, 34, 35, 36, 37, 38, 39, 43, 44, 45, 46, 47, 48, 49, 50, 51, 52, 53, 54, 55] rfl (by decide +kernel)
set_option maxRecDepth 20000 in
theorem gX3_passTarget_X3_stringStride : GoodIn wsX3_passTarget (wsV RX3 264 RX3 yX3_stringStride wsX3_stringStride) := goodIn_app (goodIn_of _ (by decide +kernel)) ggX3_passTarget_X3_stringStride
set_option maxRecDepth 20000 in
theorem ggX3_passTarget_X4_setWord : GoodIn wsX3_passTarget wsX4_setWord := goodIn_r _ [30, 7, 31, 40, 41, 42] rfl (by decide +kernel)
set_option maxRecDepth 20000 in
theorem gX3_passTarget_X4_setWord : GoodIn wsX3_passTarget (wsV RX3 142 RX4 yX4_setWord wsX4_setWord) := goodIn_app (goodIn_of _ (by decide +kernel)) ggX3_passTarget_X4_setWord
set_option maxRecDepth 20000 in
theorem ggX3_stringStride_X1_wide : GoodIn wsX3_stringStride wsX1_wide := goodIn_r _ [7, 8, 23, 24, 25, 26, 27, 28, 29, 30, 31, 32, 33, 34] rfl (by decide +kernel)
set_option maxRecDepth 20000 in
theorem gX3_stringStride_X1_wide : GoodIn wsX3_stringStride (wsV RX3 188 RX1 yX1_wide wsX1_wide) := goodIn_app (goodIn_of _ (by decide +kernel)) ggX3_stringStride_X1_wide
set_option maxRecDepth 20000 in
theorem ggX3_stringStride_X0_has : GoodIn wsX3_stringStride wsX0_has := goodIn_r _ [13, 14, 35] rfl (by decide +kernel)
set_option maxRecDepth 20000 in
theorem gX3_stringStride_X0_has : GoodIn wsX3_stringStride (wsV RX3 249 RX0 yX0_has wsX0_has) := goodIn_app (goodIn_of _ (by decide +kernel)) ggX3_stringStride_X0_has
set_option maxRecDepth 20000 in
theorem ggX3_returnCodes_X3_returnNear : GoodIn wsX3_returnCodes wsX3_returnNear := goodIn_r _ [10, 11, 12, 13, 14, 9, 15, 16, 17, 18, 19, 20, 21, 22, 23, 24, 25, 26, 27, 28, 29, 30, 31, 32, 33, 34, 35, 36, 37, 38, 39, 40, 41, 42, 43, 44, 45, 46, 47, 48, 49, 50, 51, 52, 53, 122, 123, 124, 125, 126, 127, 128, 129, 142, 143, 144, 145, 146, 147, 148] rfl (by decide +kernel)
set_option maxRecDepth 20000 in
theorem gX3_returnCodes_X3_returnNear : GoodIn wsX3_returnCodes (wsV RX3 267 RX3 yX3_returnNear wsX3_returnNear) := goodIn_app (goodIn_of _ (by decide +kernel)) ggX3_returnCodes_X3_returnNear
set_option maxRecDepth 20000 in
theorem ggX3_returnCodes_X3_giveFar : GoodIn wsX3_returnCodes wsX3_giveFar := goodIn_r _ [57, 11, 1, 58, 59, 60, 61, 9, 62, 16, 63, 64, 33, 34, 35, 36, 37, 38, 39, 40, 41, 42, 43, 44, 45, 46, 47, 48, 65, 66, 67, 68, 69, 70, 71, 72, 73, 74, 75, 76, 77, 78, 20, 79, 22, 23, 24, 25, 26, 27, 80, 81, 82, 83, 32, 122, 123, 124, 125, 126, 127, 128, 129, 130, 131, 132, 133, 134, 135, 136, 137, 138, 139, 140, 141, 145, 146, 147, 148, 142, 143, 144] rfl (by decide +kernel)
set_option maxRecDepth 20000 in
theorem gX3_returnCodes_X3_giveFar : GoodIn wsX3_returnCodes (wsV RX3 270 RX3 yX3_giveFar wsX3_giveFar) := goodIn_app (goodIn_of _ (by decide +kernel)) ggX3_returnCodes_X3_giveFar
set_option maxRecDepth 20000 in
theorem ggX3_returnCodes_X1_wide : GoodIn wsX3_returnCodes wsX1_wide := goodIn_r _ [87, 88, 130, 131, 132, 133, 134, 135, 136, 137, 138, 139, 140, 141] rfl (by decide +kernel)
set_option maxRecDepth 20000 in
theorem gX3_returnCodes_X1_wide : GoodIn wsX3_returnCodes (wsV RX3 188 RX1 yX1_wide wsX1_wide) := goodIn_app (goodIn_of _ (by decide +kernel)) ggX3_returnCodes_X1_wide
set_option maxRecDepth 20000 in
theorem ggX3_returnCodes_X3_giveE : GoodIn wsX3_returnCodes wsX3_giveE := goodIn_r _ [92, 1, 11, 69, 16, 63, 64, 70, 71, 72, 73, 74, 75, 93, 94, 95, 20, 96, 22, 27, 97, 98, 99, 100, 36, 101, 38, 39, 40, 41, 42, 102, 103, 104, 105, 47, 106, 107, 48, 122, 123, 124, 125, 126, 127, 128, 129, 130, 131, 132, 133, 134, 135, 136, 137, 138, 139, 140, 141, 142, 143, 144, 145, 146, 147, 148] rfl (by decide +kernel)
set_option maxRecDepth 20000 in
theorem gX3_returnCodes_X3_giveE : GoodIn wsX3_returnCodes (wsV RX3 176 RX3 yX3_giveE wsX3_giveE) := goodIn_app (goodIn_of _ (by decide +kernel)) ggX3_returnCodes_X3_giveE
set_option maxRecDepth 20000 in
theorem ggX3_returnCodes_X3_returnFar : GoodIn wsX3_returnCodes wsX3_returnFar := goodIn_r _ [111, 11, 12, 13, 14, 9, 15, 16, 17, 18, 19, 20, 21, 22, 23, 24, 25, 26, 27, 28, 29, 30, 31, 32, 33, 34, 35, 36, 37, 38, 39, 40, 41, 42, 43, 44, 45, 46, 47, 48, 49, 50, 51, 52, 53, 80, 81, 82, 83, 122, 123, 124, 125, 126, 127, 128, 129, 142, 143, 144, 145, 146, 147, 148] rfl (by decide +kernel)
set_option maxRecDepth 20000 in
theorem gX3_returnCodes_X3_returnFar : GoodIn wsX3_returnCodes (wsV RX3 273 RX3 yX3_returnFar wsX3_returnFar) := goodIn_app (goodIn_of _ (by decide +kernel)) ggX3_returnCodes_X3_returnFar
set_option maxRecDepth 20000 in
theorem ggX3_returnCodes_X0_has : GoodIn wsX3_returnCodes wsX0_has := goodIn_r _ [116, 117, 149] rfl (by decide +kernel)
set_option maxRecDepth 20000 in
theorem gX3_returnCodes_X0_has : GoodIn wsX3_returnCodes (wsV RX3 249 RX0 yX0_has wsX0_has) := goodIn_app (goodIn_of _ (by decide +kernel)) ggX3_returnCodes_X0_has
set_option maxRecDepth 20000 in
theorem ggX3_returnCodes_X3_pop : GoodIn wsX3_returnCodes wsX3_pop := goodIn_r _ [15, 11, 16, 17, 18, 19, 20, 21, 22, 23, 24, 25, 26, 27, 28, 29, 30, 31, 32, 33, 34, 35, 36, 37, 38, 39, 40, 41, 42, 43, 44, 45, 46, 47, 48, 122, 123, 124, 125, 126, 127, 128, 129, 142, 143, 144, 145, 146, 147, 148] rfl (by decide +kernel)
set_option maxRecDepth 20000 in
theorem gX3_returnCodes_X3_pop : GoodIn wsX3_returnCodes (wsV RX3 203 RX3 yX3_pop wsX3_pop) := goodIn_app (goodIn_of _ (by decide +kernel)) ggX3_returnCodes_X3_pop
set_option maxRecDepth 20000 in
theorem ggX3_returnCodes_X0_keep : GoodIn wsX3_returnCodes wsX0_keep := goodIn_r _ [121, 117, 149] rfl (by decide +kernel)
set_option maxRecDepth 20000 in
theorem gX3_returnCodes_X0_keep : GoodIn wsX3_returnCodes (wsV RX3 227 RX0 yX0_keep wsX0_keep) := goodIn_app (goodIn_of _ (by decide +kernel)) ggX3_returnCodes_X0_keep
set_option maxRecDepth 20000 in
theorem ggX3_returnNear_X3_pop : GoodIn wsX3_returnNear wsX3_pop := goodIn_r _ [6, 1, 7, 8, 9, 10, 11, 12, 13, 14, 15, 16, 17, 18, 19, 20, 21, 22, 23, 24, 25, 26, 27, 28, 29, 30, 31, 32, 33, 34, 35, 36, 37, 38, 39, 45, 46, 47, 48, 49, 50, 51, 52, 53, 54, 55, 56, 57, 58, 59] rfl (by decide +kernel)
set_option maxRecDepth 20000 in
theorem gX3_returnNear_X3_pop : GoodIn wsX3_returnNear (wsV RX3 203 RX3 yX3_pop wsX3_pop) := goodIn_app (goodIn_of _ (by decide +kernel)) ggX3_returnNear_X3_pop
set_option maxRecDepth 20000 in
theorem ggX3_returnNear_X4_moveTo : GoodIn wsX3_returnNear wsX4_moveTo := goodIn_r _ [43, 18, 44, 53, 54, 55] rfl (by decide +kernel)
set_option maxRecDepth 20000 in
theorem gX3_returnNear_X4_moveTo : GoodIn wsX3_returnNear (wsV RX3 128 RX4 yX4_moveTo wsX4_moveTo) := goodIn_app (goodIn_of _ (by decide +kernel)) ggX3_returnNear_X4_moveTo
set_option maxRecDepth 20000 in
theorem ggX3_returnNear_X4_word : GoodIn wsX3_returnNear wsX4_word := goodIn_r _ [12, 13, 53, 54, 55] rfl (by decide +kernel)
set_option maxRecDepth 20000 in
theorem gX3_returnNear_X4_word : GoodIn wsX3_returnNear (wsV RX3 139 RX4 yX4_word wsX4_word) := goodIn_app (goodIn_of _ (by decide +kernel)) ggX3_returnNear_X4_word
set_option maxRecDepth 20000 in
theorem ggX3_returnNear_X4_setWord : GoodIn wsX3_returnNear wsX4_setWord := goodIn_r _ [17, 13, 18, 53, 54, 55] rfl (by decide +kernel)
set_option maxRecDepth 20000 in
theorem gX3_returnNear_X4_setWord : GoodIn wsX3_returnNear (wsV RX3 142 RX4 yX4_setWord wsX4_setWord) := goodIn_app (goodIn_of _ (by decide +kernel)) ggX3_returnNear_X4_setWord
set_option maxRecDepth 20000 in
theorem ggX3_returnFar_X3_pop : GoodIn wsX3_returnFar wsX3_pop := goodIn_r _ [6, 1, 7, 8, 9, 10, 11, 12, 13, 14, 15, 16, 17, 18, 19, 20, 21, 22, 23, 24, 25, 26, 27, 28, 29, 30, 31, 32, 33, 34, 35, 36, 37, 38, 39, 49, 50, 51, 52, 53, 54, 55, 56, 57, 58, 59, 60, 61, 62, 63] rfl (by decide +kernel)
set_option maxRecDepth 20000 in
theorem gX3_returnFar_X3_pop : GoodIn wsX3_returnFar (wsV RX3 203 RX3 yX3_pop wsX3_pop) := goodIn_app (goodIn_of _ (by decide +kernel)) ggX3_returnFar_X3_pop
set_option maxRecDepth 20000 in
theorem ggX3_returnFar_X4_moveTo : GoodIn wsX3_returnFar wsX4_moveTo := goodIn_r _ [43, 18, 44, 57, 58, 59] rfl (by decide +kernel)
set_option maxRecDepth 20000 in
theorem gX3_returnFar_X4_moveTo : GoodIn wsX3_returnFar (wsV RX3 128 RX4 yX4_moveTo wsX4_moveTo) := goodIn_app (goodIn_of _ (by decide +kernel)) ggX3_returnFar_X4_moveTo
set_option maxRecDepth 20000 in
theorem ggX3_returnFar_X4_setSegment : GoodIn wsX3_returnFar wsX4_setSegment := goodIn_r _ [48, 23, 18, 57, 58, 59] rfl (by decide +kernel)
set_option maxRecDepth 20000 in
theorem gX3_returnFar_X4_setSegment : GoodIn wsX3_returnFar (wsV RX3 131 RX4 yX4_setSegment wsX4_setSegment) := goodIn_app (goodIn_of _ (by decide +kernel)) ggX3_returnFar_X4_setSegment
set_option maxRecDepth 20000 in
theorem ggX3_returnFar_X4_word : GoodIn wsX3_returnFar wsX4_word := goodIn_r _ [12, 13, 57, 58, 59] rfl (by decide +kernel)
set_option maxRecDepth 20000 in
theorem gX3_returnFar_X4_word : GoodIn wsX3_returnFar (wsV RX3 139 RX4 yX4_word wsX4_word) := goodIn_app (goodIn_of _ (by decide +kernel)) ggX3_returnFar_X4_word
set_option maxRecDepth 20000 in
theorem ggX3_returnFar_X4_setWord : GoodIn wsX3_returnFar wsX4_setWord := goodIn_r _ [17, 13, 18, 57, 58, 59] rfl (by decide +kernel)
set_option maxRecDepth 20000 in
theorem gX3_returnFar_X4_setWord : GoodIn wsX3_returnFar (wsV RX3 142 RX4 yX4_setWord wsX4_setWord) := goodIn_app (goodIn_of _ (by decide +kernel)) ggX3_returnFar_X4_setWord
set_option maxRecDepth 20000 in
theorem ggX3_giveFar_X3_wordBehindE : GoodIn wsX3_giveFar wsX3_wordBehindE := goodIn_r _ [8, 9, 2, 10, 11, 12, 13, 14, 15, 16, 17, 18, 19, 20, 21, 22, 23, 24, 25, 26, 27, 55, 56, 57, 58, 59, 60, 61, 62, 63, 64, 65, 66, 67, 68, 69, 70, 71, 72, 73, 74, 75, 76, 77, 78] rfl (by decide +kernel)
set_option maxRecDepth 20000 in
theorem gX3_giveFar_X3_wordBehindE : GoodIn wsX3_giveFar (wsV RX3 276 RX3 yX3_wordBehindE wsX3_wordBehindE) := goodIn_app (goodIn_of _ (by decide +kernel)) ggX3_giveFar_X3_wordBehindE
set_option maxRecDepth 20000 in
theorem ggX3_giveFar_X3_e : GoodIn wsX3_giveFar wsX3_e := goodIn_r _ [31, 2, 1, 32, 9, 10, 11, 33, 34, 35, 36, 37, 38, 39, 40, 41, 42, 43, 44, 12, 13, 14, 15, 16, 17, 18, 19, 20, 21, 22, 23, 24, 25, 26, 27, 55, 56, 57, 58, 59, 60, 61, 62, 63, 64, 65, 66, 67, 68, 69, 70, 71, 72, 73, 74, 79, 80, 81, 75, 76, 77, 78] rfl (by decide +kernel)
set_option maxRecDepth 20000 in
theorem gX3_giveFar_X3_e : GoodIn wsX3_giveFar (wsV RX3 168 RX3 yX3_e wsX3_e) := goodIn_app (goodIn_of _ (by decide +kernel)) ggX3_giveFar_X3_e
set_option maxRecDepth 20000 in
theorem ggX3_giveFar_X4_setWord : GoodIn wsX3_giveFar wsX4_setWord := goodIn_r _ [48, 44, 49, 79, 80, 81] rfl (by decide +kernel)
set_option maxRecDepth 20000 in
theorem gX3_giveFar_X4_setWord : GoodIn wsX3_giveFar (wsV RX3 142 RX4 yX4_setWord wsX4_setWord) := goodIn_app (goodIn_of _ (by decide +kernel)) ggX3_giveFar_X4_setWord
set_option maxRecDepth 20000 in
theorem ggX3_giveFar_X4_setSegment : GoodIn wsX3_giveFar wsX4_setSegment := goodIn_r _ [53, 54, 49, 79, 80, 81] rfl (by decide +kernel)
set_option maxRecDepth 20000 in
theorem gX3_giveFar_X4_setSegment : GoodIn wsX3_giveFar (wsV RX3 131 RX4 yX4_setSegment wsX4_setSegment) := goodIn_app (goodIn_of _ (by decide +kernel)) ggX3_giveFar_X4_setSegment
set_option maxRecDepth 20000 in
theorem ggX3_shiftAndAdjustCodes_X1_wide : GoodIn wsX3_shiftAndAdjustCodes wsX1_wide := goodIn_r _ [13, 14, 171, 172, 173, 174, 175, 176, 177, 178, 179, 180, 181, 182] rfl (by decide +kernel)
set_option maxRecDepth 20000 in
theorem gX3_shiftAndAdjustCodes_X1_wide : GoodIn wsX3_shiftAndAdjustCodes (wsV RX3 188 RX1 yX1_wide wsX1_wide) := goodIn_app (goodIn_of _ (by decide +kernel)) ggX3_shiftAndAdjustCodes_X1_wide
set_option maxRecDepth 20000 in
theorem ggX3_shiftAndAdjustCodes_X3_e : GoodIn wsX3_shiftAndAdjustCodes wsX3_e := goodIn_r _ [19, 1, 5, 20, 8, 21, 22, 23, 24, 25, 12, 26, 27, 28, 29, 30, 31, 32, 33, 34, 35, 36, 37, 38, 39, 40, 41, 42, 43, 44, 45, 46, 47, 48, 49, 163, 164, 165, 166, 167, 168, 169, 170, 171, 172, 173, 174, 175, 176, 177, 178, 179, 180, 181, 182, 183, 184, 185, 186, 187, 188, 189] rfl (by decide +kernel)
set_option maxRecDepth 20000 in
theorem gX3_shiftAndAdjustCodes_X3_e : GoodIn wsX3_shiftAndAdjustCodes (wsV RX3 168 RX3 yX3_e wsX3_e) := goodIn_app (goodIn_of _ (by decide +kernel)) ggX3_shiftAndAdjustCodes_X3_e
