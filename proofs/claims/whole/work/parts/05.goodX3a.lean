set_option maxRecDepth 20000 in
theorem ggX3_init_X2_init : GoodIn wsX3_init wsX2_init := goodIn_r _ [24, 25, 2, 3, 26, 20, 27, 28, 29, 41, 42, 43, 44] rfl (by decide +kernel)
set_option maxRecDepth 20000 in
theorem gX3_init_X2_init_n11 : GoodIn wsX3_init (wsX2_init) := ggX3_init_X2_init
set_option maxRecDepth 20000 in
theorem ggX3_init_X4_init : GoodIn wsX3_init wsX4_init := goodIn_r _ [31, 32, 2, 3, 28, 33, 34, 53, 54, 55] rfl (by decide +kernel)
set_option maxRecDepth 20000 in
theorem gX3_init_X4_init_n20 : GoodIn wsX3_init (wsX4_init) := ggX3_init_X4_init
set_option maxRecDepth 20000 in
theorem ggX3_init_X0_init : GoodIn wsX3_init wsX0_init := goodIn_r _ [36, 37, 2, 3] rfl (by decide +kernel)
set_option maxRecDepth 20000 in
theorem gX3_init_X0_init_n27 : GoodIn wsX3_init (wsX0_init) := ggX3_init_X0_init
set_option maxRecDepth 20000 in
theorem ggX3_init_X1_init : GoodIn wsX3_init wsX1_init := goodIn_r _ [39, 40, 2, 3] rfl (by decide +kernel)
set_option maxRecDepth 20000 in
theorem gX3_init_X1_init_n34 : GoodIn wsX3_init (wsX1_init) := ggX3_init_X1_init
set_option maxRecDepth 20000 in
theorem ggX3_execute_X3_operationCodes : GoodIn wsX3_execute wsX3_operationCodes := goodIn_r _ [11, 2, 3, 5, 12, 4, 6, 13, 14, 15, 16, 17, 18, 19, 20, 21, 22, 23, 24, 25, 26, 27, 10, 28, 29, 30, 31, 32, 33, 34, 35, 36, 37, 38, 39, 40, 41, 42, 43, 44, 45, 46, 47, 48, 49, 50, 51, 52, 53, 54, 55, 56, 57, 58, 59, 60, 61, 62, 63, 64, 65, 66, 67, 68, 69, 70, 71, 72, 73, 74, 75, 76, 77, 78, 79, 80, 81, 82, 83, 84, 85, 86, 87, 88, 89, 90, 91, 92, 93, 94, 95, 96, 97, 98, 99, 100, 101, 102, 103, 104, 105, 106, 107, 108, 109, 110, 111, 112, 113, 114, 115, 116, 117, 118, 119, 120, 121, 122, 123, 124, 125, 126, 127, 128, 129, 130, 131, 132, 133, 134, 135, 136, 137, 138, 139, 140, 141, 142, 143, 144, 145, 146, 147, 148, 149, 150, 151, 152, 153, 154, 155, 156, 157, 158, 159, 160, 161, 162, 163, 164, 165, 166, 167, 168, 169, 170, 171, 172, 173, 174, 175, 176, 177, 178, 179, 180, 181, 182, 183, 408, 409, 410, 411, 412, 413, 414, 415, 416, 417, 418, 419, 420, 421, 422, 423, 424, 425, 426, 427, 428, 429, 430, 431, 432, 433, 434, 435] rfl (by decide +kernel)
set_option maxRecDepth 20000 in
theorem gX3_execute_X3_operationCodes : GoodIn wsX3_execute (wsV RX3 50 RX3 yX3_operationCodes wsX3_operationCodes) := goodIn_app (goodIn_of _ (by decide +kernel)) ggX3_execute_X3_operationCodes
set_option maxRecDepth 20000 in
theorem ggX3_execute_X3_stepWordRegister : GoodIn wsX3_execute wsX3_stepWordRegister := goodIn_r _ [187, 4, 5, 2, 3, 143, 144, 145, 22, 146, 24, 188, 189, 190, 61, 191, 63, 102, 103, 104, 105, 68, 69, 70, 71, 72, 73, 74, 75, 76, 77, 78, 79, 80, 81, 82, 83, 84, 85, 86, 87, 88, 89, 90, 91, 92, 93, 94, 95, 96, 97, 64, 65, 66, 67, 147, 148, 149, 150, 114, 408, 409, 410, 411, 412, 413, 414, 415, 416, 417, 418, 419, 420, 421, 422, 423, 424, 425, 426, 427, 428, 429, 430, 435] rfl (by decide +kernel)
set_option maxRecDepth 20000 in
theorem gX3_execute_X3_stepWordRegister : GoodIn wsX3_execute (wsV RX3 53 RX3 yX3_stepWordRegister wsX3_stepWordRegister) := goodIn_app (goodIn_of _ (by decide +kernel)) ggX3_execute_X3_stepWordRegister
set_option maxRecDepth 20000 in
theorem ggX3_execute_X3_registerStackCodes : GoodIn wsX3_execute wsX3_registerStackCodes := goodIn_r _ [195, 2, 3, 5, 196, 197, 198, 10, 199, 143, 144, 145, 22, 146, 24, 139, 140, 141, 142, 34, 147, 148, 149, 150, 114, 134, 135, 136, 137, 138, 116, 117, 118, 45, 119, 47, 48, 49, 50, 51, 120, 121, 122, 123, 56, 124, 125, 57, 151, 152, 153, 154, 42, 43, 44, 46, 52, 53, 54, 55, 408, 409, 410, 411, 412, 413, 414, 415, 416, 417, 418, 419, 420, 421, 422, 423, 424, 425, 426, 427, 428, 429, 430, 431, 432, 433, 434] rfl (by decide +kernel)
set_option maxRecDepth 20000 in
theorem gX3_execute_X3_registerStackCodes : GoodIn wsX3_execute (wsV RX3 56 RX3 yX3_registerStackCodes wsX3_registerStackCodes) := goodIn_app (goodIn_of _ (by decide +kernel)) ggX3_execute_X3_registerStackCodes
set_option maxRecDepth 20000 in
theorem ggX3_execute_X0_holds : GoodIn wsX3_execute wsX0_holds := goodIn_r _ [203, 204, 205, 206, 61, 207, 168, 169, 170, 171, 63, 435] rfl (by decide +kernel)
set_option maxRecDepth 20000 in
theorem gX3_execute_X0_holds : GoodIn wsX3_execute (wsV RX3 59 RX0 yX0_holds wsX0_holds) := goodIn_app (goodIn_of _ (by decide +kernel)) ggX3_execute_X0_holds
set_option maxRecDepth 20000 in
theorem ggX3_execute_X3_jumpIf : GoodIn wsX3_execute wsX3_jumpIf := goodIn_r _ [211, 2, 6, 212, 69, 61, 70, 213, 214, 215, 10, 216, 5, 217, 218, 219, 220, 22, 221, 114, 222, 408, 409, 410, 411, 412, 413, 414, 415, 416, 417, 418, 419, 420, 421, 422, 423, 424, 425, 426, 427, 428, 429, 430] rfl (by decide +kernel)
set_option maxRecDepth 20000 in
theorem gX3_execute_X3_jumpIf : GoodIn wsX3_execute (wsV RX3 63 RX3 yX3_jumpIf wsX3_jumpIf) := goodIn_app (goodIn_of _ (by decide +kernel)) ggX3_execute_X3_jumpIf
set_option maxRecDepth 20000 in
theorem ggX3_execute_X3_operandCodes : GoodIn wsX3_execute wsX3_operandCodes := goodIn_r _ [226, 2, 3, 12, 6, 227, 5, 36, 13, 14, 15, 16, 17, 18, 25, 26, 27, 10, 28, 4, 29, 30, 31, 32, 33, 34, 35, 37, 38, 39, 40, 41, 19, 20, 21, 22, 23, 24, 42, 43, 44, 45, 46, 47, 48, 49, 50, 51, 52, 53, 54, 55, 56, 57, 58, 59, 60, 61, 62, 63, 64, 65, 66, 67, 68, 69, 70, 71, 72, 73, 74, 75, 76, 77, 78, 79, 80, 81, 82, 83, 84, 85, 86, 87, 88, 89, 90, 91, 92, 93, 94, 95, 96, 97, 98, 99, 100, 101, 102, 103, 104, 105, 106, 107, 108, 109, 110, 111, 112, 113, 114, 115, 116, 117, 118, 119, 120, 121, 122, 123, 124, 125, 212, 228, 229, 230, 231, 134, 135, 136, 137, 138, 147, 148, 149, 150, 155, 156, 157, 158, 151, 152, 153, 154, 143, 144, 145, 146, 408, 409, 410, 411, 412, 413, 414, 415, 416, 417, 418, 419, 420, 421, 422, 423, 424, 425, 426, 427, 428, 429, 430, 431, 432, 433, 434, 435] rfl (by decide +kernel)
set_option maxRecDepth 20000 in
theorem gX3_execute_X3_operandCodes : GoodIn wsX3_execute (wsV RX3 67 RX3 yX3_operandCodes wsX3_operandCodes) := goodIn_app (goodIn_of _ (by decide +kernel)) ggX3_execute_X3_operandCodes
set_option maxRecDepth 20000 in
theorem ggX3_execute_X3_exchangeAndFlagCodes : GoodIn wsX3_execute wsX3_exchangeAndFlagCodes := goodIn_r _ [235, 2, 3, 5, 6, 236, 4, 237, 238, 126, 127, 128, 10, 129, 19, 20, 21, 22, 23, 24, 212, 69, 61, 70, 130, 131, 132, 133, 110, 111, 112, 113, 114, 115, 147, 148, 149, 150, 239, 240, 241, 242, 217, 134, 135, 136, 137, 138, 139, 140, 141, 142, 34, 143, 144, 145, 146, 116, 117, 118, 45, 119, 47, 48, 49, 50, 51, 120, 121, 122, 123, 56, 124, 125, 57, 243, 244, 245, 246, 218, 219, 220, 221, 222, 155, 156, 157, 158, 247, 248, 249, 250, 251, 151, 152, 153, 154, 42, 43, 44, 46, 52, 53, 54, 55, 252, 253, 254, 255, 63, 256, 257, 258, 259, 408, 409, 410, 411, 412, 413, 414, 415, 416, 417, 418, 419, 420, 421, 422, 423, 424, 425, 426, 427, 435, 428, 429, 430, 431, 432, 433, 434] rfl (by decide +kernel)
set_option maxRecDepth 20000 in
theorem gX3_execute_X3_exchangeAndFlagCodes : GoodIn wsX3_execute (wsV RX3 70 RX3 yX3_exchangeAndFlagCodes wsX3_exchangeAndFlagCodes) := goodIn_app (goodIn_of _ (by decide +kernel)) ggX3_execute_X3_exchangeAndFlagCodes
set_option maxRecDepth 20000 in
theorem ggX3_execute_X1_isString : GoodIn wsX3_execute wsX1_isString := goodIn_r _ [263, 18, 416, 417, 418, 419, 420, 421, 422, 423, 424, 425, 426, 427] rfl (by decide +kernel)
set_option maxRecDepth 20000 in
theorem gX3_execute_X1_isString : GoodIn wsX3_execute (wsV RX3 73 RX1 yX1_isString wsX1_isString) := goodIn_app (goodIn_of _ (by decide +kernel)) ggX3_execute_X1_isString
set_option maxRecDepth 20000 in
theorem ggX3_execute_X3_strings : GoodIn wsX3_execute wsX3_strings := goodIn_r _ [267, 2, 268, 5, 269, 4, 270, 271, 272, 273, 10, 274, 3, 34, 13, 14, 15, 16, 17, 18, 143, 144, 145, 22, 146, 24, 275, 276, 277, 278, 279, 280, 281, 282, 283, 134, 135, 136, 137, 138, 42, 43, 44, 45, 46, 47, 48, 49, 50, 51, 52, 53, 54, 55, 56, 57, 116, 117, 118, 119, 120, 121, 122, 123, 124, 125, 284, 285, 286, 287, 288, 289, 290, 291, 292, 169, 170, 61, 171, 63, 147, 148, 149, 150, 114, 293, 294, 295, 296, 297, 298, 299, 300, 102, 103, 104, 105, 68, 69, 70, 71, 72, 73, 74, 75, 76, 77, 78, 79, 80, 81, 82, 83, 84, 85, 86, 87, 88, 89, 90, 91, 92, 93, 94, 95, 96, 97, 126, 127, 128, 129, 19, 20, 21, 23, 130, 131, 132, 133, 110, 111, 112, 113, 115, 301, 302, 303, 304, 218, 219, 220, 221, 222, 408, 409, 410, 411, 412, 413, 414, 415, 416, 417, 418, 419, 420, 421, 422, 423, 424, 425, 426, 427, 428, 429, 430, 431, 432, 433, 434, 435] rfl (by decide +kernel)
set_option maxRecDepth 20000 in
theorem gX3_execute_X3_strings : GoodIn wsX3_execute (wsV RX3 77 RX3 yX3_strings wsX3_strings) := goodIn_app (goodIn_of _ (by decide +kernel)) ggX3_execute_X3_strings
set_option maxRecDepth 20000 in
theorem ggX3_execute_X3_placeCodes : GoodIn wsX3_execute wsX3_placeCodes := goodIn_r _ [308, 2, 3, 4, 6, 34, 13, 14, 15, 16, 17, 18, 275, 276, 277, 10, 278, 5, 279, 280, 281, 282, 283, 134, 135, 136, 22, 137, 138, 126, 127, 128, 129, 19, 20, 21, 23, 24, 58, 59, 60, 61, 62, 63, 64, 65, 66, 67, 68, 69, 70, 71, 72, 73, 74, 75, 76, 77, 78, 79, 80, 81, 82, 83, 84, 85, 86, 87, 88, 89, 90, 91, 92, 93, 94, 95, 96, 97, 98, 99, 100, 101, 102, 103, 104, 105, 116, 117, 118, 45, 119, 47, 48, 49, 50, 51, 120, 121, 122, 123, 56, 124, 125, 57, 42, 43, 44, 46, 52, 53, 54, 55, 130, 131, 132, 133, 110, 111, 112, 113, 114, 115, 408, 409, 410, 411, 412, 413, 414, 415, 416, 417, 418, 419, 420, 421, 422, 423, 424, 425, 426, 427, 428, 429, 430, 435, 431, 432, 433, 434] rfl (by decide +kernel)
set_option maxRecDepth 20000 in
theorem gX3_execute_X3_placeCodes : GoodIn wsX3_execute (wsV RX3 80 RX3 yX3_placeCodes wsX3_placeCodes) := goodIn_app (goodIn_of _ (by decide +kernel)) ggX3_execute_X3_placeCodes
set_option maxRecDepth 20000 in
theorem ggX3_execute_X4_give : GoodIn wsX3_execute wsX4_give := goodIn_r _ [113, 24, 114, 115, 428, 429, 430] rfl (by decide +kernel)
set_option maxRecDepth 20000 in
theorem gX3_execute_X4_give : GoodIn wsX3_execute (wsV RX3 86 RX4 yX4_give wsX4_give) := goodIn_app (goodIn_of _ (by decide +kernel)) ggX3_execute_X4_give
set_option maxRecDepth 20000 in
theorem ggX3_execute_X3_returnCodes : GoodIn wsX3_execute wsX3_returnCodes := goodIn_r _ [312, 2, 3, 6, 1, 4, 313, 314, 315, 10, 316, 5, 151, 152, 153, 154, 34, 143, 144, 145, 22, 146, 24, 147, 148, 149, 150, 114, 134, 135, 136, 137, 138, 42, 43, 44, 45, 46, 47, 48, 49, 50, 51, 52, 53, 54, 55, 56, 57, 218, 219, 220, 221, 222, 317, 318, 319, 320, 12, 321, 322, 323, 324, 35, 36, 29, 30, 31, 32, 33, 37, 38, 39, 16, 40, 41, 19, 20, 21, 23, 155, 156, 157, 158, 13, 14, 15, 17, 18, 106, 107, 108, 109, 110, 111, 112, 113, 115, 116, 117, 118, 119, 120, 121, 122, 123, 124, 125, 325, 326, 327, 328, 292, 169, 170, 61, 171, 63, 252, 253, 254, 255, 408, 409, 410, 411, 412, 413, 414, 415, 416, 417, 418, 419, 420, 421, 422, 423, 424, 425, 426, 427, 428, 429, 430, 431, 432, 433, 434, 435] rfl (by decide +kernel)
set_option maxRecDepth 20000 in
theorem gX3_execute_X3_returnCodes : GoodIn wsX3_execute (wsV RX3 90 RX3 yX3_returnCodes wsX3_returnCodes) := goodIn_app (goodIn_of _ (by decide +kernel)) ggX3_execute_X3_returnCodes
set_option maxRecDepth 20000 in
theorem ggX3_execute_X3_shiftAndAdjustCodes : GoodIn wsX3_execute wsX3_shiftAndAdjustCodes := goodIn_r _ [332, 2, 3, 4, 12, 5, 6, 1, 34, 13, 14, 15, 16, 17, 18, 29, 30, 31, 10, 32, 33, 35, 36, 37, 38, 39, 40, 41, 19, 20, 21, 22, 23, 24, 42, 43, 44, 45, 46, 47, 48, 49, 50, 51, 52, 53, 54, 55, 56, 57, 333, 334, 335, 61, 336, 337, 338, 339, 340, 87, 88, 89, 90, 341, 342, 343, 344, 168, 169, 170, 171, 63, 75, 76, 77, 78, 79, 80, 81, 82, 345, 346, 347, 348, 83, 84, 85, 86, 91, 92, 93, 94, 95, 96, 97, 106, 107, 108, 109, 110, 111, 112, 113, 114, 115, 116, 117, 118, 119, 120, 121, 122, 123, 124, 125, 126, 127, 128, 129, 159, 160, 161, 162, 163, 164, 165, 166, 167, 172, 173, 174, 175, 176, 177, 178, 179, 180, 181, 182, 183, 130, 131, 132, 133, 292, 143, 144, 145, 146, 275, 276, 277, 278, 279, 280, 281, 282, 283, 134, 135, 136, 137, 138, 408, 409, 410, 411, 412, 413, 414, 415, 416, 417, 418, 419, 420, 421, 422, 423, 424, 425, 426, 427, 428, 429, 430, 431, 432, 433, 434, 435] rfl (by decide +kernel)
set_option maxRecDepth 20000 in
theorem gX3_execute_X3_shiftAndAdjustCodes : GoodIn wsX3_execute (wsV RX3 93 RX3 yX3_shiftAndAdjustCodes wsX3_shiftAndAdjustCodes) := goodIn_app (goodIn_of _ (by decide +kernel)) ggX3_execute_X3_shiftAndAdjustCodes
set_option maxRecDepth 20000 in
theorem ggX3_execute_X3_loopAndPortCodes : GoodIn wsX3_execute wsX3_loopAndPortCodes := goodIn_r _ [352, 2, 3, 5, 217, 6, 236, 353, 354, 355, 10, 356, 4, 143, 144, 145, 22, 146, 24, 147, 148, 149, 150, 114, 292, 169, 170, 61, 171, 63, 208, 209, 210, 211, 212, 69, 70, 213, 214, 215, 216, 218, 219, 220, 221, 222, 139, 140, 141, 142, 34, 134, 135, 136, 137, 138, 116, 117, 118, 45, 119, 47, 48, 49, 50, 51, 120, 121, 122, 123, 56, 124, 125, 57, 243, 244, 245, 246, 155, 156, 157, 158, 357, 358, 359, 360, 13, 14, 15, 16, 17, 18, 361, 362, 363, 364, 365, 130, 131, 132, 133, 110, 111, 112, 113, 115, 126, 127, 128, 129, 19, 20, 21, 23, 366, 367, 368, 369, 408, 409, 410, 411, 412, 413, 414, 415, 416, 417, 418, 419, 420, 421, 422, 423, 424, 425, 426, 427, 428, 429, 430, 435, 431, 432, 433, 434] rfl (by decide +kernel)
set_option maxRecDepth 20000 in
theorem gX3_execute_X3_loopAndPortCodes : GoodIn wsX3_execute (wsV RX3 96 RX3 yX3_loopAndPortCodes wsX3_loopAndPortCodes) := goodIn_app (goodIn_of _ (by decide +kernel)) ggX3_execute_X3_loopAndPortCodes
set_option maxRecDepth 20000 in
theorem ggX3_execute_X3_lastCodes : GoodIn wsX3_execute wsX3_lastCodes := goodIn_r _ [373, 2, 3, 374, 4, 13, 14, 15, 16, 17, 18, 292, 169, 170, 61, 171, 63, 375, 80, 81, 82, 376, 377, 378, 10, 379, 12, 6, 29, 30, 31, 32, 5, 33, 34, 35, 36, 37, 38, 39, 40, 41, 19, 20, 21, 22, 23, 24, 42, 43, 44, 45, 46, 47, 48, 49, 50, 51, 52, 53, 54, 55, 56, 57, 58, 59, 60, 62, 64, 65, 66, 67, 68, 69, 70, 71, 72, 73, 74, 75, 76, 77, 78, 79, 83, 84, 85, 86, 87, 88, 89, 90, 91, 92, 93, 94, 95, 96, 97, 98, 99, 100, 101, 102, 103, 104, 105, 106, 107, 108, 109, 110, 111, 112, 113, 114, 115, 116, 117, 118, 119, 120, 121, 122, 123, 124, 125, 380, 381, 382, 383, 126, 127, 128, 129, 384, 385, 386, 387, 130, 131, 132, 133, 147, 148, 149, 150, 388, 389, 390, 391, 1, 212, 392, 393, 394, 395, 396, 143, 144, 145, 146, 397, 398, 399, 400, 401, 402, 403, 217, 188, 189, 190, 191, 139, 140, 141, 142, 134, 135, 136, 137, 138, 218, 219, 220, 221, 222, 321, 322, 323, 324, 239, 240, 241, 242, 243, 244, 245, 246, 155, 156, 157, 158, 196, 197, 198, 199, 408, 409, 410, 411, 412, 413, 414, 415, 416, 417, 418, 419, 420, 421, 422, 423, 424, 425, 426, 427, 435, 428, 429, 430, 431, 432, 433, 434] rfl (by decide +kernel)
set_option maxRecDepth 20000 in
theorem gX3_execute_X3_lastCodes : GoodIn wsX3_execute (wsV RX3 99 RX3 yX3_lastCodes wsX3_lastCodes) := goodIn_app (goodIn_of _ (by decide +kernel)) ggX3_execute_X3_lastCodes
set_option maxRecDepth 20000 in
theorem ggX3_execute_X3_interrupt : GoodIn wsX3_execute wsX3_interrupt := goodIn_r _ [407, 4, 5, 217, 34, 247, 248, 249, 10, 250, 237, 251, 139, 140, 141, 142, 143, 144, 145, 22, 146, 24, 147, 148, 149, 150, 114, 134, 135, 136, 137, 138, 116, 117, 118, 45, 119, 47, 48, 49, 50, 51, 120, 121, 122, 123, 56, 124, 125, 57, 375, 80, 81, 61, 82, 63, 42, 43, 44, 46, 52, 53, 54, 55, 218, 219, 220, 221, 222, 155, 156, 157, 158, 408, 409, 410, 411, 412, 413, 414, 415, 428, 429, 430, 435, 431, 432, 433, 434] rfl (by decide +kernel)
set_option maxRecDepth 20000 in
theorem gX3_execute_X3_interrupt : GoodIn wsX3_execute (wsV RX3 102 RX3 yX3_interrupt wsX3_interrupt) := goodIn_app (goodIn_of _ (by decide +kernel)) ggX3_execute_X3_interrupt
set_option maxRecDepth 20000 in
theorem ggX3_interrupt_X3_pushedFlags : GoodIn wsX3_interrupt wsX3_pushedFlags := goodIn_r _ [9, 1, 10, 11, 73, 74, 75, 76, 77, 78, 79, 80, 84] rfl (by decide +kernel)
set_option maxRecDepth 20000 in
theorem gX3_interrupt_X3_pushedFlags : GoodIn wsX3_interrupt (wsV RX3 106 RX3 yX3_pushedFlags wsX3_pushedFlags) := goodIn_app (goodIn_of _ (by decide +kernel)) ggX3_interrupt_X3_pushedFlags
set_option maxRecDepth 20000 in
theorem ggX3_interrupt_X3_push : GoodIn wsX3_interrupt wsX3_push := goodIn_r _ [15, 2, 4, 16, 17, 18, 19, 20, 21, 22, 23, 24, 25, 26, 27, 28, 29, 30, 31, 32, 33, 34, 35, 36, 37, 38, 39, 40, 41, 42, 43, 44, 45, 46, 47, 48, 49, 73, 74, 75, 76, 77, 78, 79, 80, 81, 82, 83, 85, 86, 87, 88] rfl (by decide +kernel)
set_option maxRecDepth 20000 in
theorem gX3_interrupt_X3_push : GoodIn wsX3_interrupt (wsV RX3 110 RX3 yX3_push wsX3_push) := goodIn_app (goodIn_of _ (by decide +kernel)) ggX3_interrupt_X3_push
set_option maxRecDepth 20000 in
theorem ggX3_interrupt_X0_mark : GoodIn wsX3_interrupt wsX0_mark := goodIn_r _ [54, 55, 84] rfl (by decide +kernel)
set_option maxRecDepth 20000 in
theorem gX3_interrupt_X0_mark : GoodIn wsX3_interrupt (wsV RX3 113 RX0 yX0_mark wsX0_mark) := goodIn_app (goodIn_of _ (by decide +kernel)) ggX3_interrupt_X0_mark
set_option maxRecDepth 20000 in
theorem ggX3_interrupt_X4_segment : GoodIn wsX3_interrupt wsX4_segment := goodIn_r _ [30, 31, 81, 82, 83] rfl (by decide +kernel)
set_option maxRecDepth 20000 in
theorem gX3_interrupt_X4_segment : GoodIn wsX3_interrupt (wsV RX3 117 RX4 yX4_segment wsX4_segment) := goodIn_app (goodIn_of _ (by decide +kernel)) ggX3_interrupt_X4_segment
set_option maxRecDepth 20000 in
theorem ggX3_interrupt_X2_load : GoodIn wsX3_interrupt wsX2_load := goodIn_r _ [59, 37, 38, 35, 39, 40, 41, 60, 61, 62, 63, 46, 49, 85, 86, 87, 88] rfl (by decide +kernel)
set_option maxRecDepth 20000 in
theorem gX3_interrupt_X2_load : GoodIn wsX3_interrupt (wsV RX3 124 RX2 yX2_load wsX2_load) := goodIn_app (goodIn_of _ (by decide +kernel)) ggX3_interrupt_X2_load
set_option maxRecDepth 20000 in
theorem ggX3_interrupt_X4_moveTo : GoodIn wsX3_interrupt wsX4_moveTo := goodIn_r _ [67, 26, 68, 81, 82, 83] rfl (by decide +kernel)
set_option maxRecDepth 20000 in
theorem gX3_interrupt_X4_moveTo : GoodIn wsX3_interrupt (wsV RX3 128 RX4 yX4_moveTo wsX4_moveTo) := goodIn_app (goodIn_of _ (by decide +kernel)) ggX3_interrupt_X4_moveTo
set_option maxRecDepth 20000 in
theorem ggX3_interrupt_X4_setSegment : GoodIn wsX3_interrupt wsX4_setSegment := goodIn_r _ [72, 31, 26, 81, 82, 83] rfl (by decide +kernel)
set_option maxRecDepth 20000 in
theorem gX3_interrupt_X4_setSegment : GoodIn wsX3_interrupt (wsV RX3 131 RX4 yX4_setSegment wsX4_setSegment) := goodIn_app (goodIn_of _ (by decide +kernel)) ggX3_interrupt_X4_setSegment
set_option maxRecDepth 20000 in
theorem ggX3_push_X4_word : GoodIn wsX3_push wsX4_word := goodIn_r _ [7, 8, 45, 46, 47] rfl (by decide +kernel)
set_option maxRecDepth 20000 in
theorem gX3_push_X4_word : GoodIn wsX3_push (wsV RX3 139 RX4 yX4_word wsX4_word) := goodIn_app (goodIn_of _ (by decide +kernel)) ggX3_push_X4_word
set_option maxRecDepth 20000 in
theorem ggX3_push_X4_setWord : GoodIn wsX3_push wsX4_setWord := goodIn_r _ [12, 8, 13, 45, 46, 47] rfl (by decide +kernel)
set_option maxRecDepth 20000 in
theorem gX3_push_X4_setWord : GoodIn wsX3_push (wsV RX3 142 RX4 yX4_setWord wsX4_setWord) := goodIn_app (goodIn_of _ (by decide +kernel)) ggX3_push_X4_setWord
set_option maxRecDepth 20000 in
theorem ggX3_push_X4_segment : GoodIn wsX3_push wsX4_segment := goodIn_r _ [17, 18, 45, 46, 47] rfl (by decide +kernel)
set_option maxRecDepth 20000 in
theorem gX3_push_X4_segment : GoodIn wsX3_push (wsV RX3 117 RX4 yX4_segment wsX4_segment) := goodIn_app (goodIn_of _ (by decide +kernel)) ggX3_push_X4_segment
set_option maxRecDepth 20000 in
theorem ggX3_push_X2_store : GoodIn wsX3_push wsX2_store := goodIn_r _ [23, 24, 25, 22, 26, 27, 28, 29, 30, 31, 32, 33, 34, 35, 36, 48, 49, 50, 51] rfl (by decide +kernel)
set_option maxRecDepth 20000 in
theorem gX3_push_X2_store : GoodIn wsX3_push (wsV RX3 145 RX2 yX2_store wsX2_store) := goodIn_app (goodIn_of _ (by decide +kernel)) ggX3_push_X2_store
set_option maxRecDepth 20000 in
theorem ggX3_pushedRegister_X4_word : GoodIn wsX3_pushedRegister wsX4_word := goodIn_r _ [6, 7, 16, 17, 18] rfl (by decide +kernel)
set_option maxRecDepth 20000 in
theorem gX3_pushedRegister_X4_word : GoodIn wsX3_pushedRegister (wsV RX3 139 RX4 yX4_word wsX4_word) := goodIn_app (goodIn_of _ (by decide +kernel)) ggX3_pushedRegister_X4_word
set_option maxRecDepth 20000 in
theorem ggX3_pop_X4_word : GoodIn wsX3_pop wsX4_word := goodIn_r _ [7, 8, 43, 44, 45] rfl (by decide +kernel)
set_option maxRecDepth 20000 in
theorem gX3_pop_X4_word : GoodIn wsX3_pop (wsV RX3 139 RX4 yX4_word wsX4_word) := goodIn_app (goodIn_of _ (by decide +kernel)) ggX3_pop_X4_word
set_option maxRecDepth 20000 in
theorem ggX3_pop_X4_setWord : GoodIn wsX3_pop wsX4_setWord := goodIn_r _ [12, 8, 13, 43, 44, 45] rfl (by decide +kernel)
set_option maxRecDepth 20000 in
theorem gX3_pop_X4_setWord : GoodIn wsX3_pop (wsV RX3 142 RX4 yX4_setWord wsX4_setWord) := goodIn_app (goodIn_of _ (by decide +kernel)) ggX3_pop_X4_setWord
set_option maxRecDepth 20000 in
theorem ggX3_pop_X4_segment : GoodIn wsX3_pop wsX4_segment := goodIn_r _ [17, 18, 43, 44, 45] rfl (by decide +kernel)
set_option maxRecDepth 20000 in
theorem gX3_pop_X4_segment : GoodIn wsX3_pop (wsV RX3 117 RX4 yX4_segment wsX4_segment) := goodIn_app (goodIn_of _ (by decide +kernel)) ggX3_pop_X4_segment
set_option maxRecDepth 20000 in
theorem ggX3_pop_X2_load : GoodIn wsX3_pop wsX2_load := goodIn_r _ [23, 24, 25, 22, 26, 27, 28, 29, 30, 31, 32, 33, 34, 46, 47, 48, 49] rfl (by decide +kernel)
set_option maxRecDepth 20000 in
theorem gX3_pop_X2_load : GoodIn wsX3_pop (wsV RX3 124 RX2 yX2_load wsX2_load) := goodIn_app (goodIn_of _ (by decide +kernel)) ggX3_pop_X2_load
set_option maxRecDepth 20000 in
theorem ggX3_segmentFor_X1_segmentOr : GoodIn wsX3_segmentFor wsX1_segmentOr := goodIn_r _ [7, 8, 23, 24, 25, 26, 27, 28, 29, 30, 31, 32, 33, 34] rfl (by decide +kernel)
set_option maxRecDepth 20000 in
theorem gX3_segmentFor_X1_segmentOr : GoodIn wsX3_segmentFor (wsV RX3 149 RX1 yX1_segmentOr wsX1_segmentOr) := goodIn_app (goodIn_of _ (by decide +kernel)) ggX3_segmentFor_X1_segmentOr
set_option maxRecDepth 20000 in
theorem ggX3_segmentFor_X4_segment : GoodIn wsX3_segmentFor wsX4_segment := goodIn_r _ [13, 14, 35, 36, 37] rfl (by decide +kernel)
set_option maxRecDepth 20000 in
theorem gX3_segmentFor_X4_segment : GoodIn wsX3_segmentFor (wsV RX3 117 RX4 yX4_segment wsX4_segment) := goodIn_app (goodIn_of _ (by decide +kernel)) ggX3_segmentFor_X4_segment
set_option maxRecDepth 20000 in
theorem ggX3_e_X1_inRegister : GoodIn wsX3_e wsX1_inRegister := goodIn_r _ [11, 12, 43, 44, 45, 46, 47, 48, 49, 50, 51, 52, 53, 54] rfl (by decide +kernel)
set_option maxRecDepth 20000 in
theorem gX3_e_X1_inRegister : GoodIn wsX3_e (wsV RX3 152 RX1 yX1_inRegister wsX1_inRegister) := goodIn_app (goodIn_of _ (by decide +kernel)) ggX3_e_X1_inRegister
set_option maxRecDepth 20000 in
theorem ggX3_e_X4_value : GoodIn wsX3_e wsX4_value := goodIn_r _ [17, 18, 55, 56, 57] rfl (by decide +kernel)
set_option maxRecDepth 20000 in
theorem gX3_e_X4_value : GoodIn wsX3_e (wsV RX3 158 RX4 yX4_value wsX4_value) := goodIn_app (goodIn_of _ (by decide +kernel)) ggX3_e_X4_value
set_option maxRecDepth 20000 in
theorem ggX3_e_X2_load : GoodIn wsX3_e wsX2_load := goodIn_r _ [23, 24, 25, 22, 26, 27, 28, 29, 30, 31, 32, 33, 34, 58, 59, 60, 61] rfl (by decide +kernel)
set_option maxRecDepth 20000 in
theorem gX3_e_X2_load : GoodIn wsX3_e (wsV RX3 124 RX2 yX2_load wsX2_load) := goodIn_app (goodIn_of _ (by decide +kernel)) ggX3_e_X2_load
set_option maxRecDepth 20000 in
theorem ggX3_giveE_X1_inRegister : GoodIn wsX3_giveE wsX1_inRegister := goodIn_r _ [11, 12, 47, 48, 49, 50, 51, 52, 53, 54, 55, 56, 57, 58] rfl (by decide +kernel)
set_option maxRecDepth 20000 in
theorem gX3_giveE_X1_inRegister : GoodIn wsX3_giveE (wsV RX3 152 RX1 yX1_inRegister wsX1_inRegister) := goodIn_app (goodIn_of _ (by decide +kernel)) ggX3_giveE_X1_inRegister
set_option maxRecDepth 20000 in
theorem ggX3_giveE_X4_give : GoodIn wsX3_giveE wsX4_give := goodIn_r _ [17, 18, 19, 20, 59, 60, 61] rfl (by decide +kernel)
set_option maxRecDepth 20000 in
theorem gX3_giveE_X4_give : GoodIn wsX3_giveE (wsV RX3 86 RX4 yX4_give wsX4_give) := goodIn_app (goodIn_of _ (by decide +kernel)) ggX3_giveE_X4_give
set_option maxRecDepth 20000 in
theorem ggX3_giveE_X2_store : GoodIn wsX3_giveE wsX2_store := goodIn_r _ [25, 26, 27, 24, 28, 29, 30, 31, 32, 33, 34, 35, 36, 37, 38, 62, 63, 64, 65] rfl (by decide +kernel)
set_option maxRecDepth 20000 in
theorem gX3_giveE_X2_store : GoodIn wsX3_giveE (wsV RX3 145 RX2 yX2_store wsX2_store) := goodIn_app (goodIn_of _ (by decide +kernel)) ggX3_giveE_X2_store
set_option maxRecDepth 20000 in
theorem ggX3_wordBehindE_X2_load : GoodIn wsX3_wordBehindE wsX2_load := goodIn_r _ [9, 10, 11, 8, 12, 13, 14, 15, 16, 17, 18, 19, 20, 41, 42, 43, 44] rfl (by decide +kernel)
set_option maxRecDepth 20000 in
theorem gX3_wordBehindE_X2_load : GoodIn wsX3_wordBehindE (wsV RX3 124 RX2 yX2_load wsX2_load) := goodIn_app (goodIn_of _ (by decide +kernel)) ggX3_wordBehindE_X2_load
set_option maxRecDepth 20000 in
theorem ggX3_a_X4_value : GoodIn wsX3_a wsX4_value := goodIn_r _ [6, 7, 16, 17, 18] rfl (by decide +kernel)
set_option maxRecDepth 20000 in
theorem gX3_a_X4_value : GoodIn wsX3_a (wsV RX3 158 RX4 yX4_value wsX4_value) := goodIn_app (goodIn_of _ (by decide +kernel)) ggX3_a_X4_value
set_option maxRecDepth 20000 in
theorem ggX3_giveA_X4_give : GoodIn wsX3_giveA wsX4_give := goodIn_r _ [6, 7, 8, 9, 18, 19, 20] rfl (by decide +kernel)
set_option maxRecDepth 20000 in
theorem gX3_giveA_X4_give : GoodIn wsX3_giveA (wsV RX3 86 RX4 yX4_give wsX4_give) := goodIn_app (goodIn_of _ (by decide +kernel)) ggX3_giveA_X4_give
set_option maxRecDepth 20000 in
theorem ggX3_operateE_X3_e : GoodIn wsX3_operateE wsX3_e := goodIn_r _ [6, 7, 8, 9, 10, 11, 12, 13, 14, 15, 16, 17, 18, 19, 20, 21, 22, 23, 24, 25, 26, 27, 28, 29, 30, 31, 32, 33, 34, 35, 36, 37, 38, 39, 40, 109, 110, 111, 112, 113, 114, 115, 116, 117, 118, 119, 120, 121, 122, 123, 124, 125, 126, 127, 128, 129, 130, 131, 132, 133, 134, 135] rfl (by decide +kernel)
set_option maxRecDepth 20000 in
theorem gX3_operateE_X3_e : GoodIn wsX3_operateE (wsV RX3 168 RX3 yX3_e wsX3_e) := goodIn_app (goodIn_of _ (by decide +kernel)) ggX3_operateE_X3_e
set_option maxRecDepth 20000 in
theorem ggX3_operateE_X0_operation : GoodIn wsX3_operateE wsX0_operation := goodIn_r _ [45, 46, 47, 48, 49, 44, 50, 51, 52, 53, 54, 55, 56, 57, 58, 59, 60, 61, 62, 63, 64, 65, 66, 67, 68, 69, 70, 71, 72, 73, 74, 75, 76, 77, 78, 79, 80, 81, 82, 83, 84, 85, 86, 87, 88, 136] rfl (by decide +kernel)
set_option maxRecDepth 20000 in
theorem gX3_operateE_X0_operation : GoodIn wsX3_operateE (wsV RX3 172 RX0 yX0_operation wsX0_operation) := goodIn_app (goodIn_of _ (by decide +kernel)) ggX3_operateE_X0_operation
set_option maxRecDepth 20000 in
theorem ggX3_operateE_X3_giveE : GoodIn wsX3_operateE wsX3_giveE := goodIn_r _ [92, 7, 8, 9, 10, 11, 12, 13, 14, 15, 16, 17, 18, 93, 94, 95, 22, 96, 24, 97, 98, 99, 100, 101, 28, 102, 30, 31, 32, 33, 34, 103, 104, 105, 106, 39, 107, 108, 40, 109, 110, 111, 112, 113, 114, 115, 116, 117, 118, 119, 120, 121, 122, 123, 124, 125, 126, 127, 128, 129, 130, 131, 132, 133, 134, 135] rfl (by decide +kernel)
set_option maxRecDepth 20000 in
theorem gX3_operateE_X3_giveE : GoodIn wsX3_operateE (wsV RX3 176 RX3 yX3_giveE wsX3_giveE) := goodIn_app (goodIn_of _ (by decide +kernel)) ggX3_operateE_X3_giveE
set_option maxRecDepth 20000 in
theorem ggX3_jump_X4_moveTo : GoodIn wsX3_jump wsX4_moveTo := goodIn_r _ [7, 8, 9, 18, 19, 20] rfl (by decide +kernel)
set_option maxRecDepth 20000 in
theorem gX3_jump_X4_moveTo : GoodIn wsX3_jump (wsV RX3 128 RX4 yX4_moveTo wsX4_moveTo) := goodIn_app (goodIn_of _ (by decide +kernel)) ggX3_jump_X4_moveTo
set_option maxRecDepth 20000 in
theorem ggX3_jumpIf_X0_signed : GoodIn wsX3_jumpIf wsX0_signed := goodIn_r _ [6] rfl (by decide +kernel)
set_option maxRecDepth 20000 in
theorem gX3_jumpIf_X0_signed : GoodIn wsX3_jumpIf (va_wsS RX3 179 yX0_signed wsX0_signed) := goodIn_app (goodIn_of _ (by decide +kernel)) ggX3_jumpIf_X0_signed
set_option maxRecDepth 20000 in
theorem ggX3_jumpIf_X3_jump : GoodIn wsX3_jumpIf wsX3_jump := goodIn_r _ [11, 12, 13, 14, 15, 16, 17, 18, 19, 20, 21, 22, 23, 24, 25, 26, 27, 28, 41, 42, 43] rfl (by decide +kernel)
set_option maxRecDepth 20000 in
theorem gX3_jumpIf_X3_jump : GoodIn wsX3_jumpIf (wsV RX3 182 RX3 yX3_jump wsX3_jump) := goodIn_app (goodIn_of _ (by decide +kernel)) ggX3_jumpIf_X3_jump
set_option maxRecDepth 20000 in
theorem ggX3_jumpFar_X4_moveTo : GoodIn wsX3_jumpFar wsX4_moveTo := goodIn_r _ [6, 7, 8, 22, 23, 24] rfl (by decide +kernel)
set_option maxRecDepth 20000 in
theorem gX3_jumpFar_X4_moveTo : GoodIn wsX3_jumpFar (wsV RX3 128 RX4 yX4_moveTo wsX4_moveTo) := goodIn_app (goodIn_of _ (by decide +kernel)) ggX3_jumpFar_X4_moveTo
set_option maxRecDepth 20000 in
theorem ggX3_jumpFar_X4_setSegment : GoodIn wsX3_jumpFar wsX4_setSegment := goodIn_r _ [12, 13, 7, 22, 23, 24] rfl (by decide +kernel)
set_option maxRecDepth 20000 in
theorem gX3_jumpFar_X4_setSegment : GoodIn wsX3_jumpFar (wsV RX3 131 RX4 yX4_setSegment wsX4_setSegment) := goodIn_app (goodIn_of _ (by decide +kernel)) ggX3_jumpFar_X4_setSegment
