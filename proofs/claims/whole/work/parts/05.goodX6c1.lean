set_option maxRecDepth 20000 in
theorem ggX6_shiftsAndMore_X6_give : GoodIn wsX6_shiftsAndMore wsX6_give := goodIn_r _ [64, 14, 15, 16, 17, 65, 66, 67, 8, 68, 1, 29, 69, 70, 71, 72, 73, 26, 27, 28, 30, 74, 75, 76, 77, 35, 78, 79, 36, 100, 101, 102, 103, 104, 105, 106, 107, 108, 109, 110, 111, 112, 113, 114, 115, 116, 117, 118, 119, 120, 121, 122, 123, 124, 125, 126, 127, 128] rfl (by decide +kernel)
set_option maxRecDepth 20000 in
theorem gX6_shiftsAndMore_X6_give : GoodIn wsX6_shiftsAndMore (wsV RX6 202 RX6 yX6_give wsX6_give) := goodIn_app (goodIn_of _ (by decide +kernel)) ggX6_shiftsAndMore_X6_give
set_option maxRecDepth 20000 in
theorem ggX6_shiftsAndMore_X6_interrupt : GoodIn wsX6_shiftsAndMore wsX6_interrupt := goodIn_r _ [83, 45, 84, 85, 86, 87, 88, 89, 8, 90, 1, 29, 70, 71, 72, 73, 26, 27, 28, 30, 74, 75, 76, 77, 35, 78, 79, 36, 22, 23, 24, 25, 31, 32, 33, 34, 100, 101, 102, 103, 104, 105, 106, 107, 108, 109, 110, 111, 112, 113, 114, 115, 116, 117, 118, 119, 120, 121, 122, 123, 124, 125, 126, 127, 128] rfl (by decide +kernel)
set_option maxRecDepth 20000 in
theorem gX6_shiftsAndMore_X6_interrupt : GoodIn wsX6_shiftsAndMore (wsV RX6 232 RX6 yX6_interrupt wsX6_interrupt) := goodIn_app (goodIn_of _ (by decide +kernel)) ggX6_shiftsAndMore_X6_interrupt
set_option maxRecDepth 20000 in
theorem ggX6_shiftsAndMore_X6_byAnswer : GoodIn wsX6_shiftsAndMore wsX6_byAnswer := goodIn_r _ [60, 53, 54, 55, 8, 56, 45, 46, 47, 48, 49, 100, 101, 102, 103, 104, 105, 106, 107, 108, 109, 110, 111, 112, 113, 114, 115, 116, 117, 118, 119, 120, 121, 122, 123, 124, 125, 126, 127, 128] rfl (by decide +kernel)
set_option maxRecDepth 20000 in
theorem gX6_shiftsAndMore_X6_byAnswer : GoodIn wsX6_shiftsAndMore (wsV RX6 81 RX6 yX6_byAnswer wsX6_byAnswer) := goodIn_app (goodIn_of _ (by decide +kernel)) ggX6_shiftsAndMore_X6_byAnswer
set_option maxRecDepth 20000 in
theorem ggX6_shiftsAndMore_X6_has : GoodIn wsX6_shiftsAndMore wsX6_has := goodIn_r _ [94, 45, 100, 101, 102, 103, 104, 105, 106, 107, 108, 109, 110, 111, 112, 113, 114, 115, 116, 117, 118, 119, 120, 121, 122, 123, 124, 125, 126, 127, 128] rfl (by decide +kernel)
set_option maxRecDepth 20000 in
theorem gX6_shiftsAndMore_X6_has : GoodIn wsX6_shiftsAndMore (wsV RX6 97 RX6 yX6_has wsX6_has) := goodIn_app (goodIn_of _ (by decide +kernel)) ggX6_shiftsAndMore_X6_has
set_option maxRecDepth 20000 in
theorem ggX6_shiftsAndMore_X6_setRegister : GoodIn wsX6_shiftsAndMore wsX6_setRegister := goodIn_r _ [68, 1, 29, 69, 100, 101, 102, 103, 104, 105, 106, 107, 108, 109, 110, 111, 112, 113, 114, 115, 116, 117, 118, 119, 120, 121, 122, 123, 124, 125, 126, 127, 128] rfl (by decide +kernel)
set_option maxRecDepth 20000 in
theorem gX6_shiftsAndMore_X6_setRegister : GoodIn wsX6_shiftsAndMore (wsV RX6 101 RX6 yX6_setRegister wsX6_setRegister) := goodIn_app (goodIn_of _ (by decide +kernel)) ggX6_shiftsAndMore_X6_setRegister
set_option maxRecDepth 20000 in
theorem ggX6_shiftsAndMore_X6_segmentOr : GoodIn wsX6_shiftsAndMore wsX6_segmentOr := goodIn_r _ [98, 85, 99, 100, 101, 102, 103, 104, 105, 106, 107, 108, 109, 110, 111, 112, 113, 114, 115, 116, 117, 118, 119, 120, 121, 122, 123, 124, 125, 126, 127, 128] rfl (by decide +kernel)
set_option maxRecDepth 20000 in
theorem gX6_shiftsAndMore_X6_segmentOr : GoodIn wsX6_shiftsAndMore (wsV RX6 142 RX6 yX6_segmentOr wsX6_segmentOr) := goodIn_app (goodIn_of _ (by decide +kernel)) ggX6_shiftsAndMore_X6_segmentOr
set_option maxRecDepth 20000 in
theorem ggX6_shiftsAndMore_X6_get : GoodIn wsX6_shiftsAndMore wsX6_get := goodIn_r _ [25, 26, 27, 8, 28, 29, 30, 31, 32, 33, 34, 35, 36, 100, 101, 102, 103, 104, 105, 106, 107, 108, 109, 110, 111, 112, 113, 114, 115, 116, 117, 118, 119, 120, 121, 122, 123, 124, 125, 126, 127, 128] rfl (by decide +kernel)
set_option maxRecDepth 20000 in
theorem gX6_shiftsAndMore_X6_get : GoodIn wsX6_shiftsAndMore (wsV RX6 61 RX6 yX6_get wsX6_get) := goodIn_app (goodIn_of _ (by decide +kernel)) ggX6_shiftsAndMore_X6_get
set_option maxRecDepth 20000 in
theorem ggX6_loopsAndPorts_X6_isWide : GoodIn wsX6_loopsAndPorts wsX6_isWide := goodIn_r _ [12, 1, 56, 57, 58, 59, 60, 61, 62, 63, 64, 65, 66, 67, 68, 69, 70, 71, 72, 73, 74, 75, 76, 77, 78, 79, 80, 81, 82, 83, 84] rfl (by decide +kernel)
set_option maxRecDepth 20000 in
theorem gX6_loopsAndPorts_X6_isWide : GoodIn wsX6_loopsAndPorts (wsV RX6 158 RX6 yX6_isWide wsX6_isWide) := goodIn_app (goodIn_of _ (by decide +kernel)) ggX6_loopsAndPorts_X6_isWide
set_option maxRecDepth 20000 in
theorem ggX6_loopsAndPorts_X6_has : GoodIn wsX6_loopsAndPorts wsX6_has := goodIn_r _ [16, 17, 56, 57, 58, 59, 60, 61, 62, 63, 64, 65, 66, 67, 68, 69, 70, 71, 72, 73, 74, 75, 76, 77, 78, 79, 80, 81, 82, 83, 84] rfl (by decide +kernel)
set_option maxRecDepth 20000 in
theorem gX6_loopsAndPorts_X6_has : GoodIn wsX6_loopsAndPorts (wsV RX6 97 RX6 yX6_has wsX6_has) := goodIn_app (goodIn_of _ (by decide +kernel)) ggX6_loopsAndPorts_X6_has
set_option maxRecDepth 20000 in
theorem ggX6_loopsAndPorts_X6_jump : GoodIn wsX6_loopsAndPorts wsX6_jump := goodIn_r _ [21, 5, 4, 56, 57, 58, 59, 60, 61, 62, 63, 64, 65, 66, 67, 68, 69, 70, 71, 72, 73, 74, 75, 76, 77, 78, 79, 80, 81, 82, 83, 84] rfl (by decide +kernel)
set_option maxRecDepth 20000 in
theorem gX6_loopsAndPorts_X6_jump : GoodIn wsX6_loopsAndPorts (wsV RX6 238 RX6 yX6_jump wsX6_jump) := goodIn_app (goodIn_of _ (by decide +kernel)) ggX6_loopsAndPorts_X6_jump
set_option maxRecDepth 20000 in
theorem ggX6_loopsAndPorts_X6_inPort : GoodIn wsX6_loopsAndPorts wsX6_inPort := goodIn_r _ [25, 26, 56, 57, 58, 59, 60, 61, 62, 63, 64, 65, 66, 67, 68, 69, 70, 71, 72, 73, 74, 75, 76, 77, 78, 79, 80, 81, 82, 83, 84] rfl (by decide +kernel)
set_option maxRecDepth 20000 in
theorem gX6_loopsAndPorts_X6_inPort : GoodIn wsX6_loopsAndPorts (wsV RX6 241 RX6 yX6_inPort wsX6_inPort) := goodIn_app (goodIn_of _ (by decide +kernel)) ggX6_loopsAndPorts_X6_inPort
set_option maxRecDepth 20000 in
theorem ggX6_loopsAndPorts_X6_setRegister : GoodIn wsX6_loopsAndPorts wsX6_setRegister := goodIn_r _ [30, 3, 4, 31, 56, 57, 58, 59, 60, 61, 62, 63, 64, 65, 66, 67, 68, 69, 70, 71, 72, 73, 74, 75, 76, 77, 78, 79, 80, 81, 82, 83, 84] rfl (by decide +kernel)
set_option maxRecDepth 20000 in
theorem gX6_loopsAndPorts_X6_setRegister : GoodIn wsX6_loopsAndPorts (wsV RX6 101 RX6 yX6_setRegister wsX6_setRegister) := goodIn_app (goodIn_of _ (by decide +kernel)) ggX6_loopsAndPorts_X6_setRegister
set_option maxRecDepth 20000 in
theorem ggX6_loopsAndPorts_X6_outPort : GoodIn wsX6_loopsAndPorts wsX6_outPort := goodIn_r _ [35, 26, 3, 56, 57, 58, 59, 60, 61, 62, 63, 64, 65, 66, 67, 68, 69, 70, 71, 72, 73, 74, 75, 76, 77, 78, 79, 80, 81, 82, 83, 84] rfl (by decide +kernel)
set_option maxRecDepth 20000 in
theorem gX6_loopsAndPorts_X6_outPort : GoodIn wsX6_loopsAndPorts (wsV RX6 244 RX6 yX6_outPort wsX6_outPort) := goodIn_app (goodIn_of _ (by decide +kernel)) ggX6_loopsAndPorts_X6_outPort
set_option maxRecDepth 20000 in
theorem ggX6_loopsAndPorts_X6_push : GoodIn wsX6_loopsAndPorts wsX6_push := goodIn_r _ [39, 3, 4, 6, 40, 41, 42, 11, 43, 44, 45, 46, 47, 48, 49, 50, 51, 52, 53, 54, 55, 56, 57, 58, 59, 60, 61, 62, 63, 64, 65, 66, 67, 68, 69, 70, 71, 72, 73, 74, 75, 76, 77, 78, 79, 80, 81, 82, 83, 84] rfl (by decide +kernel)
set_option maxRecDepth 20000 in
theorem gX6_loopsAndPorts_X6_push : GoodIn wsX6_loopsAndPorts (wsV RX6 183 RX6 yX6_push wsX6_push) := goodIn_app (goodIn_of _ (by decide +kernel)) ggX6_loopsAndPorts_X6_push
set_option maxRecDepth 20000 in
theorem ggX6_byOne_X6_isWide : GoodIn wsX6_byOne wsX6_isWide := goodIn_r _ [7, 8, 113, 114, 115, 116, 117, 118, 119, 120, 121, 122, 123, 124, 125, 126, 127, 128, 129, 130, 131, 132, 133, 134, 135, 136, 137, 138, 139, 140, 141] rfl (by decide +kernel)
set_option maxRecDepth 20000 in
theorem gX6_byOne_X6_isWide : GoodIn wsX6_byOne (wsV RX6 158 RX6 yX6_isWide wsX6_isWide) := goodIn_app (goodIn_of _ (by decide +kernel)) ggX6_byOne_X6_isWide
set_option maxRecDepth 20000 in
theorem ggX6_byOne_X6_operand : GoodIn wsX6_byOne wsX6_operand := goodIn_r _ [12, 13, 14, 15, 16, 17, 18, 19, 6, 20, 21, 22, 23, 24, 25, 26, 27, 28, 29, 30, 31, 32, 33, 34, 35, 36, 113, 114, 115, 116, 117, 118, 119, 120, 121, 122, 123, 124, 125, 126, 127, 128, 129, 130, 131, 132, 133, 134, 135, 136, 137, 138, 139, 140, 141] rfl (by decide +kernel)
set_option maxRecDepth 20000 in
theorem gX6_byOne_X6_operand : GoodIn wsX6_byOne (wsV RX6 199 RX6 yX6_operand wsX6_operand) := goodIn_app (goodIn_of _ (by decide +kernel)) ggX6_byOne_X6_operand
set_option maxRecDepth 20000 in
theorem ggX6_byOne_X6_operation : GoodIn wsX6_byOne wsX6_operation := goodIn_r _ [40, 41, 42, 43, 44, 6, 45, 46, 47, 48, 49, 50, 51, 52, 53, 54, 55, 29, 56, 57, 58, 59, 60, 61, 62, 63, 64, 65, 66, 67, 68, 69, 70, 71, 113, 114, 115, 116, 117, 118, 119, 120, 121, 122, 123, 124, 125, 126, 127, 128, 129, 130, 131, 132, 133, 134, 135, 136, 137, 138, 139, 140, 141] rfl (by decide +kernel)
set_option maxRecDepth 20000 in
theorem gX6_byOne_X6_operation : GoodIn wsX6_byOne (wsV RX6 187 RX6 yX6_operation wsX6_operation) := goodIn_app (goodIn_of _ (by decide +kernel)) ggX6_byOne_X6_operation
