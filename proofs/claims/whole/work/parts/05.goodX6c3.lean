set_option maxRecDepth 20000 in
theorem ggX6_does_X6_second : GoodIn wsX6_does wsX6_second := goodIn_r _ [123, 6, 31, 2, 14, 46, 47, 48, 11, 49, 50, 51, 52, 53, 54, 55, 56, 57, 58, 59, 60, 61, 62, 63, 64, 65, 66, 67, 68, 69, 70, 71, 72, 73, 74, 75, 76, 77, 78, 79, 80, 90, 91, 92, 93, 36, 37, 38, 39, 94, 95, 96, 97, 44, 98, 99, 45, 104, 105, 106, 107, 32, 33, 34, 35, 40, 41, 42, 43, 238, 239, 240, 241, 242, 243, 244, 245, 246, 247, 248, 249, 250, 251, 252, 253, 254, 255, 256, 257, 258, 259, 260, 261, 262, 263, 264, 265, 266] rfl (by decide +kernel)
set_option maxRecDepth 20000 in
theorem gX6_does_X6_second : GoodIn wsX6_does (wsV RX6 270 RX6 yX6_second wsX6_second) := goodIn_app (goodIn_of _ (by decide +kernel)) ggX6_does_X6_second
set_option maxRecDepth 20000 in
theorem ggX6_does_X6_holds : GoodIn wsX6_does wsX6_holds := goodIn_r _ [127, 112, 113, 114, 11, 115, 50, 238, 239, 240, 241, 242, 243, 244, 245, 246, 247, 248, 249, 250, 251, 252, 253, 254, 255, 256, 257, 258, 259, 260, 261, 262, 263, 264, 265, 266] rfl (by decide +kernel)
set_option maxRecDepth 20000 in
theorem gX6_does_X6_holds : GoodIn wsX6_does (wsV RX6 273 RX6 yX6_holds wsX6_holds) := goodIn_app (goodIn_of _ (by decide +kernel)) ggX6_does_X6_holds
set_option maxRecDepth 20000 in
theorem ggX6_does_X6_jump : GoodIn wsX6_does wsX6_jump := goodIn_r _ [131, 3, 2, 238, 239, 240, 241, 242, 243, 244, 245, 246, 247, 248, 249, 250, 251, 252, 253, 254, 255, 256, 257, 258, 259, 260, 261, 262, 263, 264, 265, 266] rfl (by decide +kernel)
set_option maxRecDepth 20000 in
theorem gX6_does_X6_jump : GoodIn wsX6_does (wsV RX6 238 RX6 yX6_jump wsX6_jump) := goodIn_app (goodIn_of _ (by decide +kernel)) ggX6_does_X6_jump
set_option maxRecDepth 20000 in
theorem ggX6_does_X6_moves : GoodIn wsX6_does wsX6_moves := goodIn_r _ [135, 6, 13, 7, 14, 31, 26, 4, 15, 16, 17, 11, 18, 19, 20, 21, 22, 23, 24, 25, 27, 28, 29, 30, 32, 33, 34, 35, 36, 37, 38, 2, 39, 40, 41, 42, 43, 44, 45, 46, 47, 48, 49, 50, 51, 52, 53, 54, 55, 56, 57, 58, 59, 60, 61, 62, 63, 64, 65, 66, 67, 68, 69, 70, 71, 72, 73, 74, 75, 76, 77, 78, 79, 80, 81, 82, 83, 84, 85, 86, 87, 88, 89, 90, 91, 92, 93, 94, 95, 96, 97, 98, 99, 104, 105, 106, 107, 238, 239, 240, 241, 242, 243, 244, 245, 246, 247, 248, 249, 250, 251, 252, 253, 254, 255, 256, 257, 258, 259, 260, 261, 262, 263, 264, 265, 266] rfl (by decide +kernel)
set_option maxRecDepth 20000 in
theorem gX6_does_X6_moves : GoodIn wsX6_does (wsV RX6 276 RX6 yX6_moves wsX6_moves) := goodIn_app (goodIn_of _ (by decide +kernel)) ggX6_does_X6_moves
