set_option maxRecDepth 20000 in
theorem ggX3_codesFE_X0_byOne : GoodIn wsX3_codesFE wsX0_byOne := goodIn_r _ [52, 53, 54, 55, 56, 51, 57, 58, 59, 60, 61, 62, 63, 64, 65, 66, 67, 68, 69, 70, 71, 72, 73, 74, 75, 76, 77, 78, 79, 80, 81, 82, 83, 84, 85, 86, 87, 88, 89, 90, 91, 181] rfl (by decide +kernel)
set_option maxRecDepth 20000 in
theorem gX3_codesFE_X0_byOne : GoodIn wsX3_codesFE (wsV RX3 210 RX0 yX0_byOne wsX0_byOne) := goodIn_app (goodIn_of _ (by decide +kernel)) ggX3_codesFE_X0_byOne
set_option maxRecDepth 20000 in
theorem ggX3_codesFE_X3_giveE : GoodIn wsX3_codesFE wsX3_giveE := goodIn_r _ [95, 1, 4, 6, 18, 19, 20, 21, 22, 23, 10, 24, 25, 96, 97, 98, 29, 99, 31, 100, 101, 102, 103, 104, 35, 105, 37, 38, 39, 40, 41, 106, 107, 108, 109, 46, 110, 111, 47, 154, 155, 156, 157, 158, 159, 160, 161, 162, 163, 164, 165, 166, 167, 168, 169, 170, 171, 172, 173, 174, 175, 176, 177, 178, 179, 180] rfl (by decide +kernel)
set_option maxRecDepth 20000 in
theorem gX3_codesFE_X3_giveE : GoodIn wsX3_codesFE (wsV RX3 176 RX3 yX3_giveE wsX3_giveE) := goodIn_app (goodIn_of _ (by decide +kernel)) ggX3_codesFE_X3_giveE
set_option maxRecDepth 20000 in
theorem ggX3_codesFE_X3_push : GoodIn wsX3_codesFE wsX3_push := goodIn_r _ [115, 4, 18, 116, 117, 118, 29, 119, 31, 120, 121, 122, 123, 100, 124, 125, 126, 127, 128, 102, 103, 104, 35, 105, 37, 38, 39, 40, 41, 106, 107, 108, 109, 46, 110, 111, 47, 154, 155, 156, 157, 158, 159, 160, 161, 174, 175, 176, 177, 178, 179, 180] rfl (by decide +kernel)
set_option maxRecDepth 20000 in
theorem gX3_codesFE_X3_push : GoodIn wsX3_codesFE (wsV RX3 110 RX3 yX3_push wsX3_push) := goodIn_app (goodIn_of _ (by decide +kernel)) ggX3_codesFE_X3_push
set_option maxRecDepth 20000 in
theorem ggX3_codesFE_X4_moveTo : GoodIn wsX3_codesFE wsX4_moveTo := goodIn_r _ [132, 100, 133, 174, 175, 176] rfl (by decide +kernel)
set_option maxRecDepth 20000 in
theorem gX3_codesFE_X4_moveTo : GoodIn wsX3_codesFE (wsV RX3 128 RX4 yX4_moveTo wsX4_moveTo) := goodIn_app (goodIn_of _ (by decide +kernel)) ggX3_codesFE_X4_moveTo
set_option maxRecDepth 20000 in
theorem ggX3_codesFE_X3_wordBehindE : GoodIn wsX3_codesFE wsX3_wordBehindE := goodIn_r _ [137, 18, 1, 19, 20, 32, 33, 34, 35, 36, 37, 38, 39, 40, 41, 42, 43, 44, 45, 46, 47, 154, 155, 156, 157, 158, 159, 160, 161, 162, 163, 164, 165, 166, 167, 168, 169, 170, 171, 172, 173, 177, 178, 179, 180] rfl (by decide +kernel)
set_option maxRecDepth 20000 in
theorem gX3_codesFE_X3_wordBehindE : GoodIn wsX3_codesFE (wsV RX3 276 RX3 yX3_wordBehindE wsX3_wordBehindE) := goodIn_app (goodIn_of _ (by decide +kernel)) ggX3_codesFE_X3_wordBehindE
set_option maxRecDepth 20000 in
theorem ggX3_codesFE_X3_callFar : GoodIn wsX3_codesFE wsX3_callFar := goodIn_r _ [141, 4, 5, 124, 125, 126, 29, 127, 128, 112, 113, 114, 16, 115, 18, 116, 117, 118, 119, 31, 120, 121, 122, 123, 100, 102, 103, 104, 35, 105, 37, 38, 39, 40, 41, 106, 107, 108, 109, 46, 110, 111, 47, 142, 143, 144, 145, 129, 130, 131, 132, 133, 146, 147, 148, 149, 154, 155, 156, 157, 158, 159, 160, 161, 174, 175, 176, 177, 178, 179, 180] rfl (by decide +kernel)
set_option maxRecDepth 20000 in
theorem gX3_codesFE_X3_callFar : GoodIn wsX3_codesFE (wsV RX3 224 RX3 yX3_callFar wsX3_callFar) := goodIn_app (goodIn_of _ (by decide +kernel)) ggX3_codesFE_X3_callFar
set_option maxRecDepth 20000 in
theorem ggX3_codesFE_X3_jumpFar : GoodIn wsX3_codesFE wsX3_jumpFar := goodIn_r _ [145, 4, 129, 130, 131, 29, 132, 100, 133, 146, 147, 148, 149, 128, 154, 155, 156, 157, 158, 159, 160, 161, 174, 175, 176] rfl (by decide +kernel)
set_option maxRecDepth 20000 in
theorem gX3_codesFE_X3_jumpFar : GoodIn wsX3_codesFE (wsV RX3 185 RX3 yX3_jumpFar wsX3_jumpFar) := goodIn_app (goodIn_of _ (by decide +kernel)) ggX3_codesFE_X3_jumpFar
set_option maxRecDepth 20000 in
theorem ggX3_codesFE_X1_inRegister : GoodIn wsX3_codesFE wsX1_inRegister := goodIn_r _ [24, 25, 162, 163, 164, 165, 166, 167, 168, 169, 170, 171, 172, 173] rfl (by decide +kernel)
set_option maxRecDepth 20000 in
theorem gX3_codesFE_X1_inRegister : GoodIn wsX3_codesFE (wsV RX3 152 RX1 yX1_inRegister wsX1_inRegister) := goodIn_app (goodIn_of _ (by decide +kernel)) ggX3_codesFE_X1_inRegister
set_option maxRecDepth 20000 in
theorem ggX3_codesFE_X3_pushedRegister : GoodIn wsX3_codesFE wsX3_pushedRegister := goodIn_r _ [153, 4, 116, 117, 118, 29, 119, 31, 154, 155, 156, 157, 158, 159, 160, 161, 174, 175, 176] rfl (by decide +kernel)
set_option maxRecDepth 20000 in
theorem gX3_codesFE_X3_pushedRegister : GoodIn wsX3_codesFE (wsV RX3 214 RX3 yX3_pushedRegister wsX3_pushedRegister) := goodIn_app (goodIn_of _ (by decide +kernel)) ggX3_codesFE_X3_pushedRegister
