set_option maxRecDepth 20000 in
theorem ggX1_find_X1_fetchNumber : GoodIn wsX1_find wsX1_fetchNumber := goodIn_r _ [11, 6, 12, 13, 14, 10, 15, 1, 3, 16, 17, 18, 19, 20, 21, 22, 23, 24, 25, 26, 27, 28, 29, 30, 31, 32, 33, 34, 35, 36, 37, 38, 39, 40, 41, 42, 43, 44, 45, 46, 47, 48, 49, 50, 51, 4, 5, 103, 104, 105, 106, 107, 108, 109, 110, 111, 112, 113, 114, 100, 101, 102, 115, 116, 117, 118] rfl (by decide +kernel)
set_option maxRecDepth 20000 in
theorem gX1_find_X1_fetchNumber : GoodIn wsX1_find (wsV RX1 35 RX1 yX1_fetchNumber wsX1_fetchNumber) := goodIn_app (goodIn_of _ (by decide +kernel)) ggX1_find_X1_fetchNumber
set_option maxRecDepth 20000 in
theorem ggX1_find_X1_fetchRest : GoodIn wsX1_find wsX1_fetchRest := goodIn_r _ [55, 6, 56, 57, 58, 44, 45, 10, 46, 47, 59, 60, 61, 62, 63, 64, 65, 66, 67, 68, 69, 70, 12, 13, 14, 15, 1, 3, 16, 17, 18, 19, 20, 21, 22, 23, 24, 25, 26, 27, 28, 29, 30, 31, 32, 33, 34, 35, 36, 37, 38, 39, 40, 41, 42, 43, 71, 72, 73, 74, 4, 75, 76, 77, 78, 79, 80, 81, 82, 83, 84, 85, 86, 87, 88, 89, 90, 91, 103, 104, 105, 106, 107, 108, 109, 110, 111, 112, 113, 114, 100, 101, 102, 115, 116, 117, 118] rfl (by decide +kernel)
set_option maxRecDepth 20000 in
theorem gX1_find_X1_fetchRest : GoodIn wsX1_find (wsV RX1 39 RX1 yX1_fetchRest wsX1_fetchRest) := goodIn_app (goodIn_of _ (by decide +kernel)) ggX1_find_X1_fetchRest
set_option maxRecDepth 20000 in
theorem ggX1_find_X1_formOf : GoodIn wsX1_find wsX1_formOf := goodIn_r _ [46, 47] rfl (by decide +kernel)
set_option maxRecDepth 20000 in
theorem gX1_find_X1_formOf : GoodIn wsX1_find (va_wsS RX1 42 yX1_formOf wsX1_formOf) := goodIn_app (goodIn_of _ (by decide +kernel)) ggX1_find_X1_formOf
set_option maxRecDepth 20000 in
theorem ggX1_find_X1_isCode : GoodIn wsX1_find wsX1_isCode := goodIn_r _ [95, 6, 56, 96, 97, 98, 10, 99, 66, 103, 104, 105, 106, 107, 108, 109, 110, 111, 112, 113, 114] rfl (by decide +kernel)
set_option maxRecDepth 20000 in
theorem gX1_find_X1_isCode : GoodIn wsX1_find (wsV RX1 46 RX1 yX1_isCode wsX1_isCode) := goodIn_app (goodIn_of _ (by decide +kernel)) ggX1_find_X1_isCode
set_option maxRecDepth 20000 in
theorem ggX1_find_X4_moveTo : GoodIn wsX1_find wsX4_moveTo := goodIn_r _ [41, 42, 43, 100, 101, 102] rfl (by decide +kernel)
set_option maxRecDepth 20000 in
theorem gX1_find_X4_moveTo : GoodIn wsX1_find (wsV RX1 50 RX4 yX4_moveTo wsX4_moveTo) := goodIn_app (goodIn_of _ (by decide +kernel)) ggX1_find_X4_moveTo
set_option maxRecDepth 20000 in
theorem ggX1_fetch_X4_segment : GoodIn wsX1_fetch wsX4_segment := goodIn_r _ [7, 8, 31, 32, 33] rfl (by decide +kernel)
set_option maxRecDepth 20000 in
theorem gX1_fetch_X4_segment : GoodIn wsX1_fetch (wsV RX1 58 RX4 yX4_segment wsX4_segment) := goodIn_app (goodIn_of _ (by decide +kernel)) ggX1_fetch_X4_segment
set_option maxRecDepth 20000 in
theorem ggX1_fetch_X2_load : GoodIn wsX1_fetch wsX2_load := goodIn_r _ [13, 14, 15, 12, 16, 17, 18, 19, 20, 21, 22, 23, 24, 46, 47, 48, 49] rfl (by decide +kernel)
set_option maxRecDepth 20000 in
theorem gX1_fetch_X2_load : GoodIn wsX1_fetch (wsV RX1 61 RX2 yX2_load wsX2_load) := goodIn_app (goodIn_of _ (by decide +kernel)) ggX1_fetch_X2_load
set_option maxRecDepth 20000 in
theorem ggX1_fetch_X4_moveTo : GoodIn wsX1_fetch wsX4_moveTo := goodIn_r _ [28, 29, 30, 31, 32, 33] rfl (by decide +kernel)
set_option maxRecDepth 20000 in
theorem gX1_fetch_X4_moveTo : GoodIn wsX1_fetch (wsV RX1 50 RX4 yX4_moveTo wsX4_moveTo) := goodIn_app (goodIn_of _ (by decide +kernel)) ggX1_fetch_X4_moveTo
set_option maxRecDepth 20000 in
theorem ggX1_fetchWord_X1_fetch : GoodIn wsX1_fetchWord wsX1_fetch := goodIn_r _ [5, 6, 7, 8, 9, 10, 11, 12, 13, 14, 15, 16, 17, 18, 19, 20, 21, 22, 23, 24, 25, 26, 27, 28, 29, 30, 31, 32, 33, 34, 35, 36, 37, 38, 39, 40, 41, 42, 43, 44, 45, 46, 47, 48, 49, 50, 51, 52, 53, 54] rfl (by decide +kernel)
set_option maxRecDepth 20000 in
theorem gX1_fetchWord_X1_fetch : GoodIn wsX1_fetchWord (wsV RX1 67 RX1 yX1_fetch wsX1_fetch) := goodIn_app (goodIn_of _ (by decide +kernel)) ggX1_fetchWord_X1_fetch
set_option maxRecDepth 20000 in
theorem ggX1_fetchNumber_X1_fetch : GoodIn wsX1_fetchNumber wsX1_fetch := goodIn_r _ [6, 7, 8, 9, 10, 11, 12, 13, 14, 15, 16, 17, 18, 19, 20, 21, 22, 23, 24, 25, 26, 27, 28, 29, 30, 31, 32, 33, 34, 35, 36, 59, 60, 61, 47, 48, 49, 50, 51, 52, 53, 54, 55, 56, 57, 58, 62, 63, 64, 65] rfl (by decide +kernel)
set_option maxRecDepth 20000 in
theorem gX1_fetchNumber_X1_fetch : GoodIn wsX1_fetchNumber (wsV RX1 67 RX1 yX1_fetch wsX1_fetch) := goodIn_app (goodIn_of _ (by decide +kernel)) ggX1_fetchNumber_X1_fetch
set_option maxRecDepth 20000 in
theorem ggX1_fetchNumber_X1_formOf : GoodIn wsX1_fetchNumber wsX1_formOf := goodIn_r _ [39, 40] rfl (by decide +kernel)
set_option maxRecDepth 20000 in
theorem gX1_fetchNumber_X1_formOf : GoodIn wsX1_fetchNumber (va_wsS RX1 42 yX1_formOf wsX1_formOf) := goodIn_app (goodIn_of _ (by decide +kernel)) ggX1_fetchNumber_X1_formOf
set_option maxRecDepth 20000 in
theorem ggX1_fetchNumber_X1_keepPrefix : GoodIn wsX1_fetchNumber wsX1_keepPrefix := goodIn_r _ [44, 1, 45, 46, 47, 48, 49, 50, 51, 52, 53, 54, 55, 56, 57, 58] rfl (by decide +kernel)
set_option maxRecDepth 20000 in
theorem gX1_fetchNumber_X1_keepPrefix : GoodIn wsX1_fetchNumber (wsV RX1 71 RX1 yX1_keepPrefix wsX1_keepPrefix) := goodIn_app (goodIn_of _ (by decide +kernel)) ggX1_fetchNumber_X1_keepPrefix
set_option maxRecDepth 20000 in
theorem ggX1_fetchRest_X1_formOf : GoodIn wsX1_fetchRest wsX1_formOf := goodIn_r _ [8, 9] rfl (by decide +kernel)
set_option maxRecDepth 20000 in
theorem gX1_fetchRest_X1_formOf : GoodIn wsX1_fetchRest (va_wsS RX1 42 yX1_formOf wsX1_formOf) := goodIn_app (goodIn_of _ (by decide +kernel)) ggX1_fetchRest_X1_formOf
set_option maxRecDepth 20000 in
theorem ggX1_fetchRest_X1_hasM : GoodIn wsX1_fetchRest wsX1_hasM := goodIn_r _ [12] rfl (by decide +kernel)
set_option maxRecDepth 20000 in
theorem gX1_fetchRest_X1_hasM : GoodIn wsX1_fetchRest (va_wsS RX1 74 yX1_hasM wsX1_hasM) := goodIn_app (goodIn_of _ (by decide +kernel)) ggX1_fetchRest_X1_hasM
set_option maxRecDepth 20000 in
theorem ggX1_fetchRest_X1_fetchM : GoodIn wsX1_fetchRest wsX1_fetchM := goodIn_r _ [16, 17, 2, 18, 19, 20, 21, 22, 23, 24, 7, 25, 26, 27, 28, 29, 30, 31, 32, 33, 34, 35, 36, 37, 38, 39, 40, 41, 42, 43, 44, 45, 46, 47, 48, 49, 50, 51, 52, 53, 54, 55, 56, 57, 58, 59, 60, 61, 62, 63, 64, 65, 66, 67, 68, 69, 70, 71, 72, 73, 74, 75, 76, 77, 78, 79, 80, 81, 82, 83, 84, 85, 86, 87, 88, 89, 90, 91, 92, 93, 94, 95, 96] rfl (by decide +kernel)
set_option maxRecDepth 20000 in
theorem gX1_fetchRest_X1_fetchM : GoodIn wsX1_fetchRest (wsV RX1 78 RX1 yX1_fetchM wsX1_fetchM) := goodIn_app (goodIn_of _ (by decide +kernel)) ggX1_fetchRest_X1_fetchM
set_option maxRecDepth 20000 in
theorem ggX1_fetchRest_X1_fetch : GoodIn wsX1_fetchRest wsX1_fetch := goodIn_r _ [25, 26, 27, 28, 29, 30, 31, 32, 33, 34, 35, 36, 37, 38, 39, 40, 41, 42, 43, 44, 45, 46, 47, 48, 49, 50, 51, 52, 53, 54, 55, 90, 91, 92, 78, 79, 80, 81, 82, 83, 84, 85, 86, 87, 88, 89, 93, 94, 95, 96] rfl (by decide +kernel)
set_option maxRecDepth 20000 in
theorem gX1_fetchRest_X1_fetch : GoodIn wsX1_fetchRest (wsV RX1 67 RX1 yX1_fetch wsX1_fetch) := goodIn_app (goodIn_of _ (by decide +kernel)) ggX1_fetchRest_X1_fetch
set_option maxRecDepth 20000 in
theorem ggX1_fetchRest_X1_fetchWord : GoodIn wsX1_fetchRest wsX1_fetchWord := goodIn_r _ [64, 22, 23, 24, 7, 25, 26, 27, 28, 29, 30, 31, 32, 33, 34, 35, 36, 37, 38, 39, 40, 41, 42, 43, 44, 45, 46, 47, 48, 49, 50, 51, 52, 53, 54, 55, 90, 91, 92, 78, 79, 80, 81, 82, 83, 84, 85, 86, 87, 88, 89, 93, 94, 95, 96] rfl (by decide +kernel)
set_option maxRecDepth 20000 in
theorem gX1_fetchRest_X1_fetchWord : GoodIn wsX1_fetchRest (wsV RX1 87 RX1 yX1_fetchWord wsX1_fetchWord) := goodIn_app (goodIn_of _ (by decide +kernel)) ggX1_fetchRest_X1_fetchWord
set_option maxRecDepth 20000 in
theorem ggX1_fetchM_X1_fetch : GoodIn wsX1_fetchM wsX1_fetch := goodIn_r _ [11, 12, 13, 14, 15, 16, 17, 18, 19, 20, 21, 22, 23, 24, 25, 26, 27, 28, 29, 30, 31, 32, 33, 34, 35, 36, 37, 38, 39, 40, 41, 76, 77, 78, 64, 65, 66, 67, 68, 69, 70, 71, 72, 73, 74, 75, 79, 80, 81, 82] rfl (by decide +kernel)
set_option maxRecDepth 20000 in
theorem gX1_fetchM_X1_fetch : GoodIn wsX1_fetchM (wsV RX1 67 RX1 yX1_fetch wsX1_fetch) := goodIn_app (goodIn_of _ (by decide +kernel)) ggX1_fetchM_X1_fetch
set_option maxRecDepth 20000 in
theorem ggX1_fetchM_X1_segmentOr : GoodIn wsX1_fetchM wsX1_segmentOr := goodIn_r _ [45, 46, 64, 65, 66, 67, 68, 69, 70, 71, 72, 73, 74, 75] rfl (by decide +kernel)
set_option maxRecDepth 20000 in
theorem gX1_fetchM_X1_segmentOr : GoodIn wsX1_fetchM (wsV RX1 96 RX1 yX1_segmentOr wsX1_segmentOr) := goodIn_app (goodIn_of _ (by decide +kernel)) ggX1_fetchM_X1_segmentOr
set_option maxRecDepth 20000 in
theorem ggX1_fetchM_X4_segment : GoodIn wsX1_fetchM wsX4_segment := goodIn_r _ [18, 19, 76, 77, 78] rfl (by decide +kernel)
set_option maxRecDepth 20000 in
theorem gX1_fetchM_X4_segment : GoodIn wsX1_fetchM (wsV RX1 58 RX4 yX4_segment wsX4_segment) := goodIn_app (goodIn_of _ (by decide +kernel)) ggX1_fetchM_X4_segment
set_option maxRecDepth 20000 in
theorem ggX1_fetchM_X1_fetchWord : GoodIn wsX1_fetchM wsX1_fetchWord := goodIn_r _ [50, 7, 8, 9, 10, 11, 12, 13, 14, 15, 16, 17, 18, 19, 20, 21, 22, 23, 24, 25, 26, 27, 28, 29, 30, 31, 32, 33, 34, 35, 36, 37, 38, 39, 40, 41, 76, 77, 78, 64, 65, 66, 67, 68, 69, 70, 71, 72, 73, 74, 75, 79, 80, 81, 82] rfl (by decide +kernel)
set_option maxRecDepth 20000 in
theorem gX1_fetchM_X1_fetchWord : GoodIn wsX1_fetchM (wsV RX1 87 RX1 yX1_fetchWord wsX1_fetchWord) := goodIn_app (goodIn_of _ (by decide +kernel)) ggX1_fetchM_X1_fetchWord
set_option maxRecDepth 20000 in
theorem ggX1_fetchM_X0_signed : GoodIn wsX1_fetchM wsX0_signed := goodIn_r _ [54] rfl (by decide +kernel)
set_option maxRecDepth 20000 in
theorem gX1_fetchM_X0_signed : GoodIn wsX1_fetchM (va_wsS RX1 105 yX0_signed wsX0_signed) := goodIn_app (goodIn_of _ (by decide +kernel)) ggX1_fetchM_X0_signed
set_option maxRecDepth 20000 in
theorem ggX1_fetchM_X1_base : GoodIn wsX1_fetchM wsX1_base := goodIn_r _ [58, 3, 59, 60, 61, 17, 62, 63, 64, 65, 66, 67, 68, 69, 70, 71, 72, 73, 74, 75, 76, 77, 78] rfl (by decide +kernel)
set_option maxRecDepth 20000 in
theorem gX1_fetchM_X1_base : GoodIn wsX1_fetchM (wsV RX1 111 RX1 yX1_base wsX1_base) := goodIn_app (goodIn_of _ (by decide +kernel)) ggX1_fetchM_X1_base
set_option maxRecDepth 20000 in
theorem ggX1_base_X4_word : GoodIn wsX1_base wsX4_word := goodIn_r _ [6, 7, 20, 21, 22] rfl (by decide +kernel)
set_option maxRecDepth 20000 in
theorem gX1_base_X4_word : GoodIn wsX1_base (wsV RX1 116 RX4 yX4_word wsX4_word) := goodIn_app (goodIn_of _ (by decide +kernel)) ggX1_base_X4_word
set_option maxRecDepth 20000 in
theorem ggX1_isCode_X1_inRegister : GoodIn wsX1_isCode wsX1_inRegister := goodIn_r _ [7, 8, 9, 10, 11, 12, 13, 14, 15, 16, 17, 18, 19, 20] rfl (by decide +kernel)
set_option maxRecDepth 20000 in
theorem gX1_isCode_X1_inRegister : GoodIn wsX1_isCode (wsV RX1 119 RX1 yX1_inRegister wsX1_inRegister) := goodIn_app (goodIn_of _ (by decide +kernel)) ggX1_isCode_X1_inRegister
