set_option maxRecDepth 20000 in
theorem ggX5_init_X3_init : GoodIn wsX5_init wsX3_init := goodIn_r _ [10, 11, 2, 3, 12, 13, 14, 15, 16, 17, 18, 19, 20, 21, 22, 23, 24, 25, 26, 27, 28, 29, 30, 31, 32, 33, 34, 35, 36, 37, 38, 39, 40, 41, 42, 43, 44, 45, 46, 47, 48, 62, 63, 64, 65, 49, 50, 51, 52, 53, 54, 55, 56, 66, 67, 68, 69, 70, 71, 72, 73, 74, 75, 76, 77, 78, 79, 80, 81] rfl (by decide +kernel)
set_option maxRecDepth 20000 in
theorem gX5_init_X3_init_n9 : GoodIn wsX5_init (wsX3_init) := ggX5_init_X3_init
set_option maxRecDepth 20000 in
theorem ggX5_set_X0_keep : GoodIn wsX5_set wsX0_keep := goodIn_r _ [10, 11, 42] rfl (by decide +kernel)
set_option maxRecDepth 20000 in
theorem gX5_set_X0_keep : GoodIn wsX5_set (wsV RX5 31 RX0 yX0_keep wsX0_keep) := goodIn_app (goodIn_of _ (by decide +kernel)) ggX5_set_X0_keep
set_option maxRecDepth 20000 in
theorem ggX5_set_X4_moveTo : GoodIn wsX5_set wsX4_moveTo := goodIn_r _ [16, 17, 18, 43, 44, 45] rfl (by decide +kernel)
set_option maxRecDepth 20000 in
theorem gX5_set_X4_moveTo : GoodIn wsX5_set (wsV RX5 41 RX4 yX4_moveTo wsX4_moveTo) := goodIn_app (goodIn_of _ (by decide +kernel)) ggX5_set_X4_moveTo
set_option maxRecDepth 20000 in
theorem ggX5_set_X4_setSegment : GoodIn wsX5_set wsX4_setSegment := goodIn_r _ [22, 23, 17, 43, 44, 45] rfl (by decide +kernel)
set_option maxRecDepth 20000 in
theorem gX5_set_X4_setSegment : GoodIn wsX5_set (wsV RX5 46 RX4 yX4_setSegment wsX4_setSegment) := goodIn_app (goodIn_of _ (by decide +kernel)) ggX5_set_X4_setSegment
set_option maxRecDepth 20000 in
theorem ggX5_set_X4_setWord : GoodIn wsX5_set wsX4_setWord := goodIn_r _ [27, 28, 17, 43, 44, 45] rfl (by decide +kernel)
set_option maxRecDepth 20000 in
theorem gX5_set_X4_setWord : GoodIn wsX5_set (wsV RX5 50 RX4 yX4_setWord wsX4_setWord) := goodIn_app (goodIn_of _ (by decide +kernel)) ggX5_set_X4_setWord
set_option maxRecDepth 20000 in
theorem ggX5_get_X4_segment : GoodIn wsX5_get wsX4_segment := goodIn_r _ [12, 13, 33, 34, 35] rfl (by decide +kernel)
set_option maxRecDepth 20000 in
theorem gX5_get_X4_segment : GoodIn wsX5_get (wsV RX5 59 RX4 yX4_segment wsX4_segment) := goodIn_app (goodIn_of _ (by decide +kernel)) ggX5_get_X4_segment
set_option maxRecDepth 20000 in
theorem ggX5_get_X4_word : GoodIn wsX5_get wsX4_word := goodIn_r _ [17, 18, 33, 34, 35] rfl (by decide +kernel)
set_option maxRecDepth 20000 in
theorem gX5_get_X4_word : GoodIn wsX5_get (wsV RX5 63 RX4 yX4_word wsX4_word) := goodIn_app (goodIn_of _ (by decide +kernel)) ggX5_get_X4_word
set_option maxRecDepth 20000 in
theorem ggX5_write_X2_put : GoodIn wsX5_write wsX2_put := goodIn_r _ [10, 11, 12, 13, 14, 15, 29, 30, 31, 32] rfl (by decide +kernel)
set_option maxRecDepth 20000 in
theorem gX5_write_X2_put : GoodIn wsX5_write (wsV RX5 73 RX2 yX2_put wsX2_put) := goodIn_app (goodIn_of _ (by decide +kernel)) ggX5_write_X2_put
set_option maxRecDepth 20000 in
theorem ggX5_byteAt_X2_at : GoodIn wsX5_byteAt wsX2_at := goodIn_r _ [10, 11, 12, 13, 27, 28, 29, 30] rfl (by decide +kernel)
set_option maxRecDepth 20000 in
theorem gX5_byteAt_X2_at : GoodIn wsX5_byteAt (wsV RX5 81 RX2 yX2_at wsX2_at) := goodIn_app (goodIn_of _ (by decide +kernel)) ggX5_byteAt_X2_at
set_option maxRecDepth 20000 in
theorem ggX5_port_X3_portByte : GoodIn wsX5_port wsX3_portByte := goodIn_r _ [6, 7, 13, 14, 15, 16, 17, 18, 19, 20] rfl (by decide +kernel)
set_option maxRecDepth 20000 in
theorem gX5_port_X3_portByte : GoodIn wsX5_port (wsV RX5 84 RX3 yX3_portByte wsX3_portByte) := goodIn_app (goodIn_of _ (by decide +kernel)) ggX5_port_X3_portByte
set_option maxRecDepth 20000 in
theorem ggX5_setPort_X3_givePort : GoodIn wsX5_setPort wsX3_givePort := goodIn_r _ [6, 7, 13, 14, 15, 16, 17, 18, 19, 20] rfl (by decide +kernel)
set_option maxRecDepth 20000 in
theorem gX5_setPort_X3_givePort : GoodIn wsX5_setPort (wsV RX5 87 RX3 yX3_givePort wsX3_givePort) := goodIn_app (goodIn_of _ (by decide +kernel)) ggX5_setPort_X3_givePort
set_option maxRecDepth 20000 in
theorem ggX5_run_X5_takeDueInterrupt : GoodIn wsX5_run wsX5_takeDueInterrupt := goodIn_r _ [12, 13, 14, 3, 15, 16, 17, 18, 19, 20, 21, 22, 504, 505, 506, 507, 508, 509, 510, 511, 512, 513, 514, 515, 516, 517] rfl (by decide +kernel)
set_option maxRecDepth 20000 in
theorem gX5_run_X5_takeDueInterrupt : GoodIn wsX5_run (wsV RX5 97 RX5 yX5_takeDueInterrupt wsX5_takeDueInterrupt) := goodIn_app (goodIn_of _ (by decide +kernel)) ggX5_run_X5_takeDueInterrupt
set_option maxRecDepth 20000 in
theorem ggX5_run_X5_noteInterruptStep : GoodIn wsX5_run wsX5_noteInterruptStep := goodIn_r _ [26, 3, 4, 13, 14, 27, 504, 505, 506, 507, 508, 509, 510, 511, 512, 513, 514, 515, 516] rfl (by decide +kernel)
set_option maxRecDepth 20000 in
theorem gX5_run_X5_noteInterruptStep : GoodIn wsX5_run (wsV RX5 101 RX5 yX5_noteInterruptStep wsX5_noteInterruptStep) := goodIn_app (goodIn_of _ (by decide +kernel)) ggX5_run_X5_noteInterruptStep
set_option maxRecDepth 20000 in
theorem ggX5_run_X3_interrupt : GoodIn wsX5_run wsX3_interrupt := goodIn_r _ [32, 33, 34, 35, 36, 37, 38, 39, 31, 40, 41, 42, 43, 44, 45, 46, 47, 48, 49, 50, 51, 52, 53, 54, 55, 56, 57, 58, 59, 60, 61, 62, 63, 64, 65, 66, 67, 68, 69, 70, 71, 72, 73, 74, 75, 76, 77, 78, 79, 80, 81, 82, 83, 20, 84, 22, 85, 86, 87, 88, 89, 90, 91, 92, 93, 94, 95, 96, 97, 98, 99, 100, 101, 509, 510, 511, 512, 513, 514, 515, 516, 518, 519, 520, 517, 521, 522, 523, 524] rfl (by decide +kernel)
set_option maxRecDepth 20000 in
theorem gX5_run_X3_interrupt : GoodIn wsX5_run (wsV RX5 104 RX3 yX3_interrupt wsX3_interrupt) := goodIn_app (goodIn_of _ (by decide +kernel)) ggX5_run_X3_interrupt
set_option maxRecDepth 20000 in
theorem ggX5_run_X1_find : GoodIn wsX5_run wsX1_find := goodIn_r _ [106, 107, 108, 109, 110, 111, 112, 113, 114, 115, 105, 116, 117, 118, 119, 120, 121, 59, 60, 50, 61, 62, 122, 86, 87, 66, 88, 68, 69, 70, 71, 72, 89, 90, 91, 92, 77, 80, 123, 94, 95, 96, 57, 97, 124, 125, 126, 127, 128, 129, 130, 131, 132, 133, 134, 135, 136, 137, 138, 139, 140, 141, 142, 143, 144, 145, 146, 147, 148, 149, 150, 151, 152, 153, 154, 155, 156, 157, 158, 159, 160, 20, 161, 162, 163, 164, 165, 166, 48, 49, 51, 52, 167, 168, 169, 170, 171, 172, 173, 174, 518, 519, 520, 525, 526, 527, 528, 529, 530, 531, 532, 533, 534, 535, 536, 521, 522, 523, 524] rfl (by decide +kernel)
set_option maxRecDepth 20000 in
theorem gX5_run_X1_find : GoodIn wsX5_run (wsV RX5 115 RX1 yX1_find wsX1_find) := goodIn_app (goodIn_of _ (by decide +kernel)) ggX5_run_X1_find
set_option maxRecDepth 20000 in
theorem ggX5_run_X5_noteCodeStep : GoodIn wsX5_run wsX5_noteCodeStep := goodIn_r _ [178, 3, 5, 14, 15, 13, 27, 179, 180, 181, 105, 182, 112, 17, 18, 19, 20, 21, 22, 504, 505, 506, 507, 508, 509, 510, 511, 512, 513, 514, 515, 516, 525, 526, 527, 528, 529, 530, 531, 532, 533, 534, 535, 536, 517] rfl (by decide +kernel)
set_option maxRecDepth 20000 in
theorem gX5_run_X5_noteCodeStep : GoodIn wsX5_run (wsV RX5 121 RX5 yX5_noteCodeStep wsX5_noteCodeStep) := goodIn_app (goodIn_of _ (by decide +kernel)) ggX5_run_X5_noteCodeStep
set_option maxRecDepth 20000 in
theorem ggX5_run_X3_execute : GoodIn wsX5_run wsX3_execute := goodIn_r _ [186, 187, 188, 189, 33, 34, 190, 191, 192, 193, 31, 194, 195, 196, 197, 198, 105, 199, 112, 200, 201, 202, 50, 203, 52, 204, 205, 206, 207, 208, 209, 210, 211, 212, 36, 213, 214, 215, 172, 173, 174, 146, 85, 86, 87, 66, 88, 68, 69, 70, 71, 72, 89, 90, 91, 92, 77, 80, 216, 217, 218, 20, 219, 22, 220, 221, 222, 223, 224, 160, 161, 225, 226, 227, 228, 229, 230, 231, 232, 233, 82, 83, 84, 234, 235, 236, 237, 238, 239, 240, 241, 242, 243, 244, 245, 246, 247, 248, 249, 250, 251, 252, 253, 254, 255, 256, 257, 258, 259, 260, 261, 262, 263, 264, 57, 265, 63, 64, 65, 67, 73, 74, 75, 76, 78, 79, 266, 267, 268, 269, 270, 271, 272, 273, 58, 59, 60, 61, 62, 43, 44, 45, 46, 47, 48, 49, 51, 53, 54, 55, 56, 274, 275, 276, 277, 98, 99, 100, 101, 278, 279, 280, 281, 282, 283, 284, 285, 286, 287, 18, 19, 21, 288, 289, 290, 291, 292, 293, 294, 295, 296, 297, 298, 299, 300, 301, 302, 303, 304, 305, 306, 307, 308, 309, 310, 311, 312, 313, 314, 315, 316, 317, 318, 319, 320, 321, 322, 323, 324, 325, 326, 327, 328, 329, 330, 331, 332, 35, 93, 94, 95, 96, 97, 333, 334, 335, 336, 337, 338, 339, 340, 341, 342, 343, 344, 345, 346, 41, 347, 348, 349, 350, 351, 352, 353, 354, 355, 37, 38, 39, 40, 42, 356, 357, 358, 359, 360, 361, 362, 363, 364, 365, 366, 367, 368, 369, 370, 371, 372, 373, 374, 375, 376, 377, 378, 379, 380, 381, 382, 383, 152, 153, 154, 110, 384, 385, 386, 387, 388, 389, 390, 391, 392, 393, 394, 395, 396, 397, 398, 399, 400, 401, 402, 403, 404, 405, 406, 407, 408, 409, 410, 411, 412, 413, 414, 415, 416, 417, 418, 419, 420, 421, 422, 423, 424, 425, 426, 427, 428, 429, 430, 431, 432, 433, 434, 435, 436, 437, 438, 439, 440, 441, 442, 443, 444, 445, 446, 447, 448, 449, 450, 451, 452, 453, 454, 455, 456, 457, 458, 459, 460, 461, 462, 463, 464, 465, 466, 467, 468, 469, 470, 471, 472, 473, 474, 81, 475, 476, 477, 478, 479, 480, 481, 482, 483, 484, 485, 486, 487, 488, 489, 490, 491, 492, 493, 494, 495, 496, 497, 498, 499, 500, 501, 502, 503, 29, 30, 32, 509, 510, 511, 512, 513, 514, 515, 516, 525, 526, 527, 528, 529, 530, 531, 532, 533, 534, 535, 536, 518, 519, 520, 521, 522, 523, 524, 517] rfl (by decide +kernel)
set_option maxRecDepth 20000 in
theorem gX5_run_X3_execute : GoodIn wsX5_run (wsV RX5 124 RX3 yX3_execute wsX3_execute) := goodIn_app (goodIn_of _ (by decide +kernel)) ggX5_run_X3_execute
set_option maxRecDepth 20000 in
theorem ggX5_takeDueInterrupt_X0_has : GoodIn wsX5_takeDueInterrupt wsX0_has := goodIn_r _ [10, 11, 25] rfl (by decide +kernel)
set_option maxRecDepth 20000 in
theorem gX5_takeDueInterrupt_X0_has : GoodIn wsX5_takeDueInterrupt (wsV RX5 147 RX0 yX0_has wsX0_has) := goodIn_app (goodIn_of _ (by decide +kernel)) ggX5_takeDueInterrupt_X0_has
set_option maxRecDepth 20000 in
theorem ggX5_noteCodeStep_X1_givesSegment : GoodIn wsX5_noteCodeStep wsX1_givesSegment := goodIn_r _ [11, 12, 32, 33, 34, 35, 36, 37, 38, 39, 40, 41, 42, 43] rfl (by decide +kernel)
set_option maxRecDepth 20000 in
theorem gX5_noteCodeStep_X1_givesSegment : GoodIn wsX5_noteCodeStep (wsV RX5 151 RX1 yX1_givesSegment wsX1_givesSegment) := goodIn_app (goodIn_of _ (by decide +kernel)) ggX5_noteCodeStep_X1_givesSegment
set_option maxRecDepth 20000 in
theorem ggX5_noteCodeStep_X0_has : GoodIn wsX5_noteCodeStep wsX0_has := goodIn_r _ [17, 18, 44] rfl (by decide +kernel)
set_option maxRecDepth 20000 in
theorem gX5_noteCodeStep_X0_has : GoodIn wsX5_noteCodeStep (wsV RX5 147 RX0 yX0_has wsX0_has) := goodIn_app (goodIn_of _ (by decide +kernel)) ggX5_noteCodeStep_X0_has
