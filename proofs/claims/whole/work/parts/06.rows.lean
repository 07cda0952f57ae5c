theorem dX3_loopAndPortCodes_0 : decode cX3_loopAndPortCodes 0 = .ok (.aload_n 0, 1) := by decide +kernel
theorem dX3_loopAndPortCodes_1 : decode cX3_loopAndPortCodes 1 = .ok (.getfield 35, 3) := by decide +kernel
theorem dX3_loopAndPortCodes_4 : decode cX3_loopAndPortCodes 4 = .ok (.getfield 47, 3) := by decide +kernel
theorem dX3_loopAndPortCodes_7 : decode cX3_loopAndPortCodes 7 = .ok (.tableswitch 159 224 235 #[61, 61, 61, 68, 159, 159, 159, 159, 91, 116, 130, 151], 61) := by decide +kernel
theorem dX3_loopAndPortCodes_68 : decode cX3_loopAndPortCodes 68 = .ok (.aload_n 0, 1) := by decide +kernel
theorem dX3_loopAndPortCodes_69 : decode cX3_loopAndPortCodes 69 = .ok (.invokevirtual 282, 3) := by decide +kernel
theorem dX3_loopAndPortCodes_72 : decode cX3_loopAndPortCodes 72 = .ok (.goto 129, 3) := by decide +kernel
theorem dX3_loopAndPortCodes_75 : decode cX3_loopAndPortCodes 75 = .ok (.aload_n 0, 1) := by decide +kernel
theorem dX3_loopAndPortCodes_76 : decode cX3_loopAndPortCodes 76 = .ok (.aload_n 0, 1) := by decide +kernel
theorem dX3_loopAndPortCodes_77 : decode cX3_loopAndPortCodes 77 = .ok (.getfield 21, 3) := by decide +kernel
theorem dX3_loopAndPortCodes_80 : decode cX3_loopAndPortCodes 80 = .ok (.iconst 1, 1) := by decide +kernel
theorem dX3_loopAndPortCodes_81 : decode cX3_loopAndPortCodes 81 = .ok (.invokevirtual 139, 3) := by decide +kernel
theorem dX3_loopAndPortCodes_84 : decode cX3_loopAndPortCodes 84 = .ok (.ifCond .ne 7, 3) := by decide +kernel
theorem dX3_loopAndPortCodes_87 : decode cX3_loopAndPortCodes 87 = .ok (.iconst 1, 1) := by decide +kernel
theorem dX3_loopAndPortCodes_88 : decode cX3_loopAndPortCodes 88 = .ok (.goto 4, 3) := by decide +kernel
theorem dX3_loopAndPortCodes_91 : decode cX3_loopAndPortCodes 91 = .ok (.iconst 0, 1) := by decide +kernel
theorem dX3_loopAndPortCodes_92 : decode cX3_loopAndPortCodes 92 = .ok (.invokevirtual 63, 3) := by decide +kernel
theorem dX3_loopAndPortCodes_95 : decode cX3_loopAndPortCodes 95 = .ok (.goto 106, 3) := by decide +kernel
theorem dX3_loopAndPortCodes_98 : decode cX3_loopAndPortCodes 98 = .ok (.aload_n 0, 1) := by decide +kernel
theorem dX3_loopAndPortCodes_99 : decode cX3_loopAndPortCodes 99 = .ok (.aload_n 0, 1) := by decide +kernel
theorem dX3_loopAndPortCodes_100 : decode cX3_loopAndPortCodes 100 = .ok (.getfield 21, 3) := by decide +kernel
theorem dX3_loopAndPortCodes_103 : decode cX3_loopAndPortCodes 103 = .ok (.getfield 121, 3) := by decide +kernel
theorem dX3_loopAndPortCodes_106 : decode cX3_loopAndPortCodes 106 = .ok (.invokevirtual 110, 3) := by decide +kernel
theorem dX3_loopAndPortCodes_109 : decode cX3_loopAndPortCodes 109 = .ok (.aload_n 0, 1) := by decide +kernel
theorem dX3_loopAndPortCodes_110 : decode cX3_loopAndPortCodes 110 = .ok (.aload_n 0, 1) := by decide +kernel
theorem dX3_loopAndPortCodes_111 : decode cX3_loopAndPortCodes 111 = .ok (.getfield 35, 3) := by decide +kernel
theorem dX3_loopAndPortCodes_114 : decode cX3_loopAndPortCodes 114 = .ok (.getfield 83, 3) := by decide +kernel
theorem dX3_loopAndPortCodes_117 : decode cX3_loopAndPortCodes 117 = .ok (.invokevirtual 182, 3) := by decide +kernel
theorem dX3_loopAndPortCodes_120 : decode cX3_loopAndPortCodes 120 = .ok (.goto 81, 3) := by decide +kernel
theorem dX3_loopAndPortCodes_123 : decode cX3_loopAndPortCodes 123 = .ok (.aload_n 0, 1) := by decide +kernel
theorem dX3_loopAndPortCodes_124 : decode cX3_loopAndPortCodes 124 = .ok (.aload_n 0, 1) := by decide +kernel
theorem dX3_loopAndPortCodes_125 : decode cX3_loopAndPortCodes 125 = .ok (.getfield 35, 3) := by decide +kernel
theorem dX3_loopAndPortCodes_128 : decode cX3_loopAndPortCodes 128 = .ok (.getfield 83, 3) := by decide +kernel
theorem dX3_loopAndPortCodes_131 : decode cX3_loopAndPortCodes 131 = .ok (.invokevirtual 182, 3) := by decide +kernel
theorem dX3_loopAndPortCodes_134 : decode cX3_loopAndPortCodes 134 = .ok (.goto 67, 3) := by decide +kernel
theorem dX3_loopAndPortCodes_137 : decode cX3_loopAndPortCodes 137 = .ok (.aload_n 0, 1) := by decide +kernel
theorem dX3_loopAndPortCodes_138 : decode cX3_loopAndPortCodes 138 = .ok (.aload_n 0, 1) := by decide +kernel
theorem dX3_loopAndPortCodes_139 : decode cX3_loopAndPortCodes 139 = .ok (.getfield 35, 3) := by decide +kernel
theorem dX3_loopAndPortCodes_142 : decode cX3_loopAndPortCodes 142 = .ok (.getfield 83, 3) := by decide +kernel
theorem dX3_loopAndPortCodes_145 : decode cX3_loopAndPortCodes 145 = .ok (.aload_n 0, 1) := by decide +kernel
theorem dX3_loopAndPortCodes_146 : decode cX3_loopAndPortCodes 146 = .ok (.getfield 35, 3) := by decide +kernel
theorem dX3_loopAndPortCodes_149 : decode cX3_loopAndPortCodes 149 = .ok (.getfield 221, 3) := by decide +kernel
theorem dX3_loopAndPortCodes_152 : decode cX3_loopAndPortCodes 152 = .ok (.invokevirtual 185, 3) := by decide +kernel
theorem dX3_loopAndPortCodes_155 : decode cX3_loopAndPortCodes 155 = .ok (.goto 46, 3) := by decide +kernel
theorem dX3_loopAndPortCodes_158 : decode cX3_loopAndPortCodes 158 = .ok (.aload_n 0, 1) := by decide +kernel
theorem dX3_loopAndPortCodes_159 : decode cX3_loopAndPortCodes 159 = .ok (.iconst 1, 1) := by decide +kernel
theorem dX3_loopAndPortCodes_160 : decode cX3_loopAndPortCodes 160 = .ok (.invokevirtual 63, 3) := by decide +kernel
theorem dX3_loopAndPortCodes_163 : decode cX3_loopAndPortCodes 163 = .ok (.goto 38, 3) := by decide +kernel
theorem dX3_loopAndPortCodes_166 : decode cX3_loopAndPortCodes 166 = .ok (.aload_n 0, 1) := by decide +kernel
theorem dX3_loopAndPortCodes_167 : decode cX3_loopAndPortCodes 167 = .ok (.aload_n 0, 1) := by decide +kernel
theorem dX3_loopAndPortCodes_168 : decode cX3_loopAndPortCodes 168 = .ok (.getfield 35, 3) := by decide +kernel
theorem dX3_loopAndPortCodes_171 : decode cX3_loopAndPortCodes 171 = .ok (.getfield 47, 3) := by decide +kernel
theorem dX3_loopAndPortCodes_174 : decode cX3_loopAndPortCodes 174 = .ok (.sipush 232, 3) := by decide +kernel
theorem dX3_loopAndPortCodes_177 : decode cX3_loopAndPortCodes 177 = .ok (.if_icmp .ge 13, 3) := by decide +kernel
theorem dX3_loopAndPortCodes_180 : decode cX3_loopAndPortCodes 180 = .ok (.aload_n 0, 1) := by decide +kernel
theorem dX3_loopAndPortCodes_181 : decode cX3_loopAndPortCodes 181 = .ok (.getfield 35, 3) := by decide +kernel
theorem dX3_loopAndPortCodes_184 : decode cX3_loopAndPortCodes 184 = .ok (.getfield 83, 3) := by decide +kernel
theorem dX3_loopAndPortCodes_187 : decode cX3_loopAndPortCodes 187 = .ok (.goto 11, 3) := by decide +kernel
theorem dX3_loopAndPortCodes_190 : decode cX3_loopAndPortCodes 190 = .ok (.aload_n 0, 1) := by decide +kernel
theorem dX3_loopAndPortCodes_191 : decode cX3_loopAndPortCodes 191 = .ok (.getfield 21, 3) := by decide +kernel
theorem dX3_loopAndPortCodes_194 : decode cX3_loopAndPortCodes 194 = .ok (.iconst 2, 1) := by decide +kernel
theorem dX3_loopAndPortCodes_195 : decode cX3_loopAndPortCodes 195 = .ok (.invokevirtual 139, 3) := by decide +kernel
theorem dX3_loopAndPortCodes_198 : decode cX3_loopAndPortCodes 198 = .ok (.invokevirtual 285, 3) := by decide +kernel
theorem dX3_loopAndPortCodes_201 : decode cX3_loopAndPortCodes 201 = .ok (.return_, 1) := by decide +kernel
set_option maxRecDepth 20000 in
theorem ggX3_loop_X4_word : GoodIn wsX3_loop wsX4_word := goodIn_r _ [9, 10, 61, 62, 63] (by decide +kernel) (by decide +kernel)
set_option maxRecDepth 20000 in
theorem gX3_loop_X4_word : GoodIn wsX3_loop (wsV RX3 139 RX4 yX4_word wsX4_word) := goodIn_app (goodIn_of _ (by decide +kernel)) ggX3_loop_X4_word
set_option maxRecDepth 20000 in
theorem ggX3_loop_X4_setWord : GoodIn wsX3_loop wsX4_setWord := goodIn_r _ [14, 10, 15, 61, 62, 63] (by decide +kernel) (by decide +kernel)
set_option maxRecDepth 20000 in
theorem gX3_loop_X4_setWord : GoodIn wsX3_loop (wsV RX3 142 RX4 yX4_setWord wsX4_setWord) := goodIn_app (goodIn_of _ (by decide +kernel)) ggX3_loop_X4_setWord
set_option maxRecDepth 20000 in
theorem ggX3_loop_X0_has : GoodIn wsX3_loop wsX0_has := goodIn_r _ [20, 21, 64] (by decide +kernel) (by decide +kernel)
set_option maxRecDepth 20000 in
theorem gX3_loop_X0_has : GoodIn wsX3_loop (wsV RX3 249 RX0 yX0_has wsX0_has) := goodIn_app (goodIn_of _ (by decide +kernel)) ggX3_loop_X0_has
set_option maxRecDepth 20000 in
theorem ggX3_loop_X3_jumpIf : GoodIn wsX3_loop wsX3_jumpIf := goodIn_r _ [26, 2, 27, 28, 29, 19, 30, 31, 32, 33, 25, 34, 1, 35, 36, 37, 38, 8, 39, 15, 40, 41, 42, 43, 44, 45, 46, 47, 48, 49, 50, 51, 52, 53, 54, 55, 56, 57, 58, 59, 60, 61, 62, 63] (by decide +kernel) (by decide +kernel)
set_option maxRecDepth 20000 in
theorem gX3_loop_X3_jumpIf : GoodIn wsX3_loop (wsV RX3 63 RX3 yX3_jumpIf wsX3_jumpIf) := goodIn_app (goodIn_of _ (by decide +kernel)) ggX3_loop_X3_jumpIf
theorem dX3_loop_0 : decode cX3_loop 0 = .ok (.aload_n 0, 1) := by decide +kernel
theorem dX3_loop_1 : decode cX3_loop 1 = .ok (.getfield 21, 3) := by decide +kernel
theorem dX3_loop_4 : decode cX3_loop 4 = .ok (.iconst 1, 1) := by decide +kernel
theorem dX3_loop_5 : decode cX3_loop 5 = .ok (.aload_n 0, 1) := by decide +kernel
theorem dX3_loop_6 : decode cX3_loop 6 = .ok (.getfield 21, 3) := by decide +kernel
theorem dX3_loop_9 : decode cX3_loop 9 = .ok (.iconst 1, 1) := by decide +kernel
theorem dX3_loop_10 : decode cX3_loop 10 = .ok (.invokevirtual 139, 3) := by decide +kernel
theorem dX3_loop_13 : decode cX3_loop 13 = .ok (.iconst 1, 1) := by decide +kernel
theorem dX3_loop_14 : decode cX3_loop 14 = .ok (.isub, 1) := by decide +kernel
theorem dX3_loop_15 : decode cX3_loop 15 = .ok (.invokevirtual 142, 3) := by decide +kernel
theorem dX3_loop_18 : decode cX3_loop 18 = .ok (.aload_n 0, 1) := by decide +kernel
theorem dX3_loop_19 : decode cX3_loop 19 = .ok (.getfield 35, 3) := by decide +kernel
theorem dX3_loop_22 : decode cX3_loop 22 = .ok (.getfield 47, 3) := by decide +kernel
theorem dX3_loop_25 : decode cX3_loop 25 = .ok (.sipush 226, 3) := by decide +kernel
theorem dX3_loop_28 : decode cX3_loop 28 = .ok (.if_icmp .eq 33, 3) := by decide +kernel
theorem dX3_loop_31 : decode cX3_loop 31 = .ok (.aload_n 0, 1) := by decide +kernel
theorem dX3_loop_32 : decode cX3_loop 32 = .ok (.getfield 28, 3) := by decide +kernel
theorem dX3_loop_35 : decode cX3_loop 35 = .ok (.bipush 64, 2) := by decide +kernel
theorem dX3_loop_37 : decode cX3_loop 37 = .ok (.invokevirtual 249, 3) := by decide +kernel
theorem dX3_loop_40 : decode cX3_loop 40 = .ok (.aload_n 0, 1) := by decide +kernel
theorem dX3_loop_41 : decode cX3_loop 41 = .ok (.getfield 35, 3) := by decide +kernel
theorem dX3_loop_44 : decode cX3_loop 44 = .ok (.getfield 47, 3) := by decide +kernel
theorem dX3_loop_47 : decode cX3_loop 47 = .ok (.sipush 225, 3) := by decide +kernel
theorem dX3_loop_50 : decode cX3_loop 50 = .ok (.if_icmp .ne 7, 3) := by decide +kernel
theorem dX3_loop_53 : decode cX3_loop 53 = .ok (.iconst 1, 1) := by decide +kernel
theorem dX3_loop_54 : decode cX3_loop 54 = .ok (.goto 4, 3) := by decide +kernel
theorem dX3_loop_57 : decode cX3_loop 57 = .ok (.iconst 0, 1) := by decide +kernel
theorem dX3_loop_58 : decode cX3_loop 58 = .ok (.if_icmp .ne 7, 3) := by decide +kernel
theorem dX3_loop_61 : decode cX3_loop 61 = .ok (.iconst 1, 1) := by decide +kernel
theorem dX3_loop_62 : decode cX3_loop 62 = .ok (.goto 4, 3) := by decide +kernel
theorem dX3_loop_65 : decode cX3_loop 65 = .ok (.iconst 0, 1) := by decide +kernel
theorem dX3_loop_66 : decode cX3_loop 66 = .ok (.istore_n 1, 1) := by decide +kernel
theorem dX3_loop_67 : decode cX3_loop 67 = .ok (.aload_n 0, 1) := by decide +kernel
theorem dX3_loop_68 : decode cX3_loop 68 = .ok (.aload_n 0, 1) := by decide +kernel
theorem dX3_loop_69 : decode cX3_loop 69 = .ok (.getfield 21, 3) := by decide +kernel
theorem dX3_loop_72 : decode cX3_loop 72 = .ok (.iconst 1, 1) := by decide +kernel
theorem dX3_loop_73 : decode cX3_loop 73 = .ok (.invokevirtual 139, 3) := by decide +kernel
theorem dX3_loop_76 : decode cX3_loop 76 = .ok (.ifCond .eq 11, 3) := by decide +kernel
theorem dX3_loop_79 : decode cX3_loop 79 = .ok (.iload_n 1, 1) := by decide +kernel
theorem dX3_loop_80 : decode cX3_loop 80 = .ok (.ifCond .eq 7, 3) := by decide +kernel
theorem dX3_loop_83 : decode cX3_loop 83 = .ok (.iconst 1, 1) := by decide +kernel
theorem dX3_loop_84 : decode cX3_loop 84 = .ok (.goto 4, 3) := by decide +kernel
theorem dX3_loop_87 : decode cX3_loop 87 = .ok (.iconst 0, 1) := by decide +kernel
theorem dX3_loop_88 : decode cX3_loop 88 = .ok (.invokevirtual 63, 3) := by decide +kernel
theorem dX3_loop_91 : decode cX3_loop 91 = .ok (.return_, 1) := by decide +kernel
set_option maxRecDepth 20000 in
theorem ggX3_usePort_X1_wide : GoodIn wsX3_usePort wsX1_wide := goodIn_r _ [7, 8, 48, 49, 50, 51, 52, 53, 54, 55, 56, 57, 58, 59] (by decide +kernel) (by decide +kernel)
set_option maxRecDepth 20000 in
theorem gX3_usePort_X1_wide : GoodIn wsX3_usePort (wsV RX3 188 RX1 yX1_wide wsX1_wide) := goodIn_app (goodIn_of _ (by decide +kernel)) ggX3_usePort_X1_wide
set_option maxRecDepth 20000 in
theorem ggX3_usePort_X3_portByte : GoodIn wsX3_usePort wsX3_portByte := goodIn_r _ [13, 14, 40, 41, 42, 43, 44, 45, 46, 47] (by decide +kernel) (by decide +kernel)
set_option maxRecDepth 20000 in
theorem gX3_usePort_X3_portByte : GoodIn wsX3_usePort (wsV RX3 288 RX3 yX3_portByte wsX3_portByte) := goodIn_app (goodIn_of _ (by decide +kernel)) ggX3_usePort_X3_portByte
set_option maxRecDepth 20000 in
theorem ggX3_usePort_X3_giveA : GoodIn wsX3_usePort wsX3_giveA := goodIn_r _ [18, 19, 20, 21, 22, 23, 24, 25, 26, 27, 40, 41, 42, 43, 44, 45, 46, 47, 60, 61, 62] (by decide +kernel) (by decide +kernel)
set_option maxRecDepth 20000 in
theorem gX3_usePort_X3_giveA : GoodIn wsX3_usePort (wsV RX3 200 RX3 yX3_giveA wsX3_giveA) := goodIn_app (goodIn_of _ (by decide +kernel)) ggX3_usePort_X3_giveA
set_option maxRecDepth 20000 in
theorem ggX3_usePort_X3_a : GoodIn wsX3_usePort wsX3_a := goodIn_r _ [31, 19, 32, 33, 34, 23, 35, 25, 40, 41, 42, 43, 44, 45, 46, 47, 60, 61, 62] (by decide +kernel) (by decide +kernel)
set_option maxRecDepth 20000 in
theorem gX3_usePort_X3_a : GoodIn wsX3_usePort (wsV RX3 197 RX3 yX3_a wsX3_a) := goodIn_app (goodIn_of _ (by decide +kernel)) ggX3_usePort_X3_a
set_option maxRecDepth 20000 in
theorem ggX3_usePort_X3_givePort : GoodIn wsX3_usePort wsX3_givePort := goodIn_r _ [39, 14, 40, 41, 42, 43, 44, 45, 46, 47] (by decide +kernel) (by decide +kernel)
set_option maxRecDepth 20000 in
theorem gX3_usePort_X3_givePort : GoodIn wsX3_usePort (wsV RX3 291 RX3 yX3_givePort wsX3_givePort) := goodIn_app (goodIn_of _ (by decide +kernel)) ggX3_usePort_X3_givePort
theorem dX3_usePort_0 : decode cX3_usePort 0 = .ok (.aload_n 0, 1) := by decide +kernel
theorem dX3_usePort_1 : decode cX3_usePort 1 = .ok (.getfield 35, 3) := by decide +kernel
theorem dX3_usePort_4 : decode cX3_usePort 4 = .ok (.invokevirtual 188, 3) := by decide +kernel
theorem dX3_usePort_7 : decode cX3_usePort 7 = .ok (.istore_n 2, 1) := by decide +kernel
theorem dX3_usePort_8 : decode cX3_usePort 8 = .ok (.aload_n 0, 1) := by decide +kernel
theorem dX3_usePort_9 : decode cX3_usePort 9 = .ok (.getfield 35, 3) := by decide +kernel
theorem dX3_usePort_12 : decode cX3_usePort 12 = .ok (.getfield 47, 3) := by decide +kernel
theorem dX3_usePort_15 : decode cX3_usePort 15 = .ok (.iconst 2, 1) := by decide +kernel
theorem dX3_usePort_16 : decode cX3_usePort 16 = .ok (.iand, 1) := by decide +kernel
theorem dX3_usePort_17 : decode cX3_usePort 17 = .ok (.ifCond .eq 7, 3) := by decide +kernel
theorem dX3_usePort_20 : decode cX3_usePort 20 = .ok (.iconst 1, 1) := by decide +kernel
theorem dX3_usePort_21 : decode cX3_usePort 21 = .ok (.goto 4, 3) := by decide +kernel
theorem dX3_usePort_24 : decode cX3_usePort 24 = .ok (.iconst 0, 1) := by decide +kernel
theorem dX3_usePort_25 : decode cX3_usePort 25 = .ok (.istore_n 3, 1) := by decide +kernel
theorem dX3_usePort_26 : decode cX3_usePort 26 = .ok (.iload_n 3, 1) := by decide +kernel
theorem dX3_usePort_27 : decode cX3_usePort 27 = .ok (.ifCond .ne 37, 3) := by decide +kernel
theorem dX3_usePort_30 : decode cX3_usePort 30 = .ok (.aload_n 0, 1) := by decide +kernel
theorem dX3_usePort_31 : decode cX3_usePort 31 = .ok (.iload_n 2, 1) := by decide +kernel
theorem dX3_usePort_32 : decode cX3_usePort 32 = .ok (.ifCond .eq 22, 3) := by decide +kernel
theorem dX3_usePort_35 : decode cX3_usePort 35 = .ok (.aload_n 0, 1) := by decide +kernel
theorem dX3_usePort_36 : decode cX3_usePort 36 = .ok (.iload_n 1, 1) := by decide +kernel
theorem dX3_usePort_37 : decode cX3_usePort 37 = .ok (.invokevirtual 288, 3) := by decide +kernel
theorem dX3_usePort_40 : decode cX3_usePort 40 = .ok (.aload_n 0, 1) := by decide +kernel
theorem dX3_usePort_41 : decode cX3_usePort 41 = .ok (.iload_n 1, 1) := by decide +kernel
theorem dX3_usePort_42 : decode cX3_usePort 42 = .ok (.iconst 1, 1) := by decide +kernel
theorem dX3_usePort_43 : decode cX3_usePort 43 = .ok (.iadd, 1) := by decide +kernel
theorem dX3_usePort_44 : decode cX3_usePort 44 = .ok (.invokevirtual 288, 3) := by decide +kernel
theorem dX3_usePort_47 : decode cX3_usePort 47 = .ok (.bipush 8, 2) := by decide +kernel
theorem dX3_usePort_49 : decode cX3_usePort 49 = .ok (.ishl, 1) := by decide +kernel
theorem dX3_usePort_50 : decode cX3_usePort 50 = .ok (.ior, 1) := by decide +kernel
theorem dX3_usePort_51 : decode cX3_usePort 51 = .ok (.goto 8, 3) := by decide +kernel
theorem dX3_usePort_54 : decode cX3_usePort 54 = .ok (.aload_n 0, 1) := by decide +kernel
theorem dX3_usePort_55 : decode cX3_usePort 55 = .ok (.iload_n 1, 1) := by decide +kernel
theorem dX3_usePort_56 : decode cX3_usePort 56 = .ok (.invokevirtual 288, 3) := by decide +kernel
theorem dX3_usePort_59 : decode cX3_usePort 59 = .ok (.iload_n 2, 1) := by decide +kernel
theorem dX3_usePort_60 : decode cX3_usePort 60 = .ok (.invokevirtual 200, 3) := by decide +kernel
theorem dX3_usePort_63 : decode cX3_usePort 63 = .ok (.return_, 1) := by decide +kernel
theorem dX3_usePort_64 : decode cX3_usePort 64 = .ok (.aload_n 0, 1) := by decide +kernel
theorem dX3_usePort_65 : decode cX3_usePort 65 = .ok (.iload_n 1, 1) := by decide +kernel
theorem dX3_usePort_66 : decode cX3_usePort 66 = .ok (.aload_n 0, 1) := by decide +kernel
theorem dX3_usePort_67 : decode cX3_usePort 67 = .ok (.iconst 0, 1) := by decide +kernel
theorem dX3_usePort_68 : decode cX3_usePort 68 = .ok (.invokevirtual 197, 3) := by decide +kernel
theorem dX3_usePort_71 : decode cX3_usePort 71 = .ok (.invokevirtual 291, 3) := by decide +kernel
theorem dX3_usePort_74 : decode cX3_usePort 74 = .ok (.iload_n 2, 1) := by decide +kernel
theorem dX3_usePort_75 : decode cX3_usePort 75 = .ok (.ifCond .eq 18, 3) := by decide +kernel
theorem dX3_usePort_78 : decode cX3_usePort 78 = .ok (.aload_n 0, 1) := by decide +kernel
theorem dX3_usePort_79 : decode cX3_usePort 79 = .ok (.iload_n 1, 1) := by decide +kernel
theorem dX3_usePort_80 : decode cX3_usePort 80 = .ok (.iconst 1, 1) := by decide +kernel
theorem dX3_usePort_81 : decode cX3_usePort 81 = .ok (.iadd, 1) := by decide +kernel
theorem dX3_usePort_82 : decode cX3_usePort 82 = .ok (.aload_n 0, 1) := by decide +kernel
theorem dX3_usePort_83 : decode cX3_usePort 83 = .ok (.iconst 1, 1) := by decide +kernel
theorem dX3_usePort_84 : decode cX3_usePort 84 = .ok (.invokevirtual 197, 3) := by decide +kernel
theorem dX3_usePort_87 : decode cX3_usePort 87 = .ok (.bipush 8, 2) := by decide +kernel
theorem dX3_usePort_89 : decode cX3_usePort 89 = .ok (.ishr, 1) := by decide +kernel
theorem dX3_usePort_90 : decode cX3_usePort 90 = .ok (.invokevirtual 291, 3) := by decide +kernel
theorem dX3_usePort_93 : decode cX3_usePort 93 = .ok (.return_, 1) := by decide +kernel
set_option maxRecDepth 20000 in
theorem ggX3_lastCodes_X1_wide : GoodIn wsX3_lastCodes wsX1_wide := goodIn_r _ [9, 10, 216, 217, 218, 219, 220, 221, 222, 223, 224, 225, 226, 227] (by decide +kernel) (by decide +kernel)
set_option maxRecDepth 20000 in
theorem gX3_lastCodes_X1_wide : GoodIn wsX3_lastCodes (wsV RX3 188 RX1 yX1_wide wsX1_wide) := goodIn_app (goodIn_of _ (by decide +kernel)) ggX3_lastCodes_X1_wide
set_option maxRecDepth 20000 in
theorem ggX3_lastCodes_X0_has : GoodIn wsX3_lastCodes wsX0_has := goodIn_r _ [15, 16, 228] (by decide +kernel) (by decide +kernel)
set_option maxRecDepth 20000 in
theorem gX3_lastCodes_X0_has : GoodIn wsX3_lastCodes (wsV RX3 249 RX0 yX0_has wsX0_has) := goodIn_app (goodIn_of _ (by decide +kernel)) ggX3_lastCodes_X0_has
set_option maxRecDepth 20000 in
theorem ggX3_lastCodes_X0_mark : GoodIn wsX3_lastCodes wsX0_mark := goodIn_r _ [20, 16, 228] (by decide +kernel) (by decide +kernel)
set_option maxRecDepth 20000 in
theorem gX3_lastCodes_X0_mark : GoodIn wsX3_lastCodes (wsV RX3 113 RX0 yX0_mark wsX0_mark) := goodIn_app (goodIn_of _ (by decide +kernel)) ggX3_lastCodes_X0_mark
set_option maxRecDepth 20000 in
theorem ggX3_lastCodes_X3_codesF6 : GoodIn wsX3_lastCodes wsX3_codesF6 := goodIn_r _ [25, 1, 26, 4, 27, 5, 6, 7, 8, 9, 10, 28, 29, 30, 24, 31, 32, 33, 34, 35, 36, 37, 38, 39, 40, 41, 42, 43, 44, 45, 46, 47, 48, 49, 50, 51, 52, 53, 54, 55, 56, 57, 58, 59, 60, 61, 62, 63, 64, 65, 66, 14, 67, 16, 68, 69, 70, 71, 72, 73, 74, 75, 76, 77, 78, 79, 80, 81, 82, 83, 18, 19, 20, 84, 85, 86, 87, 88, 89, 90, 91, 92, 93, 94, 95, 96, 97, 98, 99, 100, 101, 102, 103, 104, 105, 106, 107, 108, 109, 110, 111, 112, 113, 114, 115, 116, 117, 118, 119, 120, 121, 122, 123, 124, 125, 126, 127, 128, 129, 130, 131, 132, 133, 134, 135, 136, 137, 138, 139, 140, 141, 142, 143, 144, 145, 146, 147, 148, 149, 150, 151, 152, 153, 154, 155, 156, 157, 158, 159, 160, 161, 162, 163, 164, 208, 209, 210, 211, 212, 213, 214, 215, 216, 217, 218, 219, 220, 221, 222, 223, 224, 225, 226, 227, 229, 230, 231, 232, 233, 234, 235, 228] (by decide +kernel) (by decide +kernel)
set_option maxRecDepth 20000 in
theorem gX3_lastCodes_X3_codesF6 : GoodIn wsX3_lastCodes (wsV RX3 298 RX3 yX3_codesF6 wsX3_codesF6) := goodIn_app (goodIn_of _ (by decide +kernel)) ggX3_lastCodes_X3_codesF6
set_option maxRecDepth 20000 in
theorem ggX3_lastCodes_X3_codesFE : GoodIn wsX3_lastCodes wsX3_codesFE := goodIn_r _ [168, 1, 26, 4, 32, 169, 33, 5, 6, 7, 8, 9, 10, 28, 29, 30, 24, 31, 34, 35, 36, 37, 38, 39, 40, 41, 42, 43, 44, 45, 46, 47, 48, 49, 50, 51, 52, 53, 54, 55, 56, 57, 58, 59, 60, 61, 62, 63, 170, 171, 172, 14, 173, 16, 103, 104, 105, 106, 72, 73, 74, 75, 76, 77, 78, 79, 80, 81, 82, 83, 18, 19, 20, 84, 85, 86, 87, 88, 89, 90, 91, 92, 93, 94, 95, 96, 97, 98, 68, 69, 70, 71, 107, 108, 109, 110, 111, 112, 113, 114, 115, 116, 117, 118, 119, 120, 121, 122, 123, 124, 125, 126, 174, 175, 176, 177, 158, 159, 160, 161, 143, 144, 145, 146, 178, 179, 180, 181, 182, 183, 184, 185, 186, 187, 188, 189, 190, 191, 192, 193, 194, 195, 196, 197, 198, 199, 200, 201, 202, 203, 204, 205, 206, 207, 208, 209, 210, 211, 212, 213, 214, 215, 216, 217, 218, 219, 220, 221, 222, 223, 224, 225, 226, 227, 229, 230, 231, 232, 233, 234, 235, 228] (by decide +kernel) (by decide +kernel)
set_option maxRecDepth 20000 in
theorem gX3_lastCodes_X3_codesFE : GoodIn wsX3_lastCodes (wsV RX3 301 RX3 yX3_codesFE wsX3_codesFE) := goodIn_app (goodIn_of _ (by decide +kernel)) ggX3_lastCodes_X3_codesFE
theorem dX3_lastCodes_0 : decode cX3_lastCodes 0 = .ok (.aload_n 0, 1) := by decide +kernel
theorem dX3_lastCodes_1 : decode cX3_lastCodes 1 = .ok (.getfield 35, 3) := by decide +kernel
theorem dX3_lastCodes_4 : decode cX3_lastCodes 4 = .ok (.invokevirtual 188, 3) := by decide +kernel
theorem dX3_lastCodes_7 : decode cX3_lastCodes 7 = .ok (.istore_n 1, 1) := by decide +kernel
theorem dX3_lastCodes_8 : decode cX3_lastCodes 8 = .ok (.aload_n 0, 1) := by decide +kernel
theorem dX3_lastCodes_9 : decode cX3_lastCodes 9 = .ok (.getfield 35, 3) := by decide +kernel
theorem dX3_lastCodes_12 : decode cX3_lastCodes 12 = .ok (.getfield 47, 3) := by decide +kernel
theorem dX3_lastCodes_15 : decode cX3_lastCodes 15 = .ok (.tableswitch 135 244 253 #[53, 61, 88, 88, 95, 95, 107, 107, 121, 121], 53) := by decide +kernel
theorem dX3_lastCodes_68 : decode cX3_lastCodes 68 = .ok (.aload_n 0, 1) := by decide +kernel
theorem dX3_lastCodes_69 : decode cX3_lastCodes 69 = .ok (.iconst 1, 1) := by decide +kernel
theorem dX3_lastCodes_70 : decode cX3_lastCodes 70 = .ok (.putfield 294, 3) := by decide +kernel
theorem dX3_lastCodes_73 : decode cX3_lastCodes 73 = .ok (.goto 81, 3) := by decide +kernel
theorem dX3_lastCodes_76 : decode cX3_lastCodes 76 = .ok (.aload_n 0, 1) := by decide +kernel
theorem dX3_lastCodes_77 : decode cX3_lastCodes 77 = .ok (.getfield 28, 3) := by decide +kernel
theorem dX3_lastCodes_80 : decode cX3_lastCodes 80 = .ok (.iconst 1, 1) := by decide +kernel
theorem dX3_lastCodes_81 : decode cX3_lastCodes 81 = .ok (.aload_n 0, 1) := by decide +kernel
theorem dX3_lastCodes_82 : decode cX3_lastCodes 82 = .ok (.getfield 28, 3) := by decide +kernel
theorem dX3_lastCodes_85 : decode cX3_lastCodes 85 = .ok (.iconst 1, 1) := by decide +kernel
theorem dX3_lastCodes_86 : decode cX3_lastCodes 86 = .ok (.invokevirtual 249, 3) := by decide +kernel
theorem dX3_lastCodes_89 : decode cX3_lastCodes 89 = .ok (.ifCond .ne 7, 3) := by decide +kernel
theorem dX3_lastCodes_92 : decode cX3_lastCodes 92 = .ok (.iconst 1, 1) := by decide +kernel
theorem dX3_lastCodes_93 : decode cX3_lastCodes 93 = .ok (.goto 4, 3) := by decide +kernel
theorem dX3_lastCodes_96 : decode cX3_lastCodes 96 = .ok (.iconst 0, 1) := by decide +kernel
theorem dX3_lastCodes_97 : decode cX3_lastCodes 97 = .ok (.invokevirtual 113, 3) := by decide +kernel
theorem dX3_lastCodes_100 : decode cX3_lastCodes 100 = .ok (.goto 54, 3) := by decide +kernel
theorem dX3_lastCodes_103 : decode cX3_lastCodes 103 = .ok (.aload_n 0, 1) := by decide +kernel
theorem dX3_lastCodes_104 : decode cX3_lastCodes 104 = .ok (.invokevirtual 298, 3) := by decide +kernel
theorem dX3_lastCodes_107 : decode cX3_lastCodes 107 = .ok (.goto 47, 3) := by decide +kernel
theorem dX3_lastCodes_110 : decode cX3_lastCodes 110 = .ok (.aload_n 0, 1) := by decide +kernel
theorem dX3_lastCodes_111 : decode cX3_lastCodes 111 = .ok (.getfield 28, 3) := by decide +kernel
theorem dX3_lastCodes_114 : decode cX3_lastCodes 114 = .ok (.iconst 1, 1) := by decide +kernel
theorem dX3_lastCodes_115 : decode cX3_lastCodes 115 = .ok (.iload_n 1, 1) := by decide +kernel
theorem dX3_lastCodes_116 : decode cX3_lastCodes 116 = .ok (.invokevirtual 113, 3) := by decide +kernel
theorem dX3_lastCodes_119 : decode cX3_lastCodes 119 = .ok (.goto 35, 3) := by decide +kernel
theorem dX3_lastCodes_122 : decode cX3_lastCodes 122 = .ok (.aload_n 0, 1) := by decide +kernel
theorem dX3_lastCodes_123 : decode cX3_lastCodes 123 = .ok (.getfield 28, 3) := by decide +kernel
theorem dX3_lastCodes_126 : decode cX3_lastCodes 126 = .ok (.sipush 512, 3) := by decide +kernel
theorem dX3_lastCodes_129 : decode cX3_lastCodes 129 = .ok (.iload_n 1, 1) := by decide +kernel
theorem dX3_lastCodes_130 : decode cX3_lastCodes 130 = .ok (.invokevirtual 113, 3) := by decide +kernel
theorem dX3_lastCodes_133 : decode cX3_lastCodes 133 = .ok (.goto 21, 3) := by decide +kernel
theorem dX3_lastCodes_136 : decode cX3_lastCodes 136 = .ok (.aload_n 0, 1) := by decide +kernel
theorem dX3_lastCodes_137 : decode cX3_lastCodes 137 = .ok (.getfield 28, 3) := by decide +kernel
theorem dX3_lastCodes_140 : decode cX3_lastCodes 140 = .ok (.sipush 1024, 3) := by decide +kernel
theorem dX3_lastCodes_143 : decode cX3_lastCodes 143 = .ok (.iload_n 1, 1) := by decide +kernel
theorem dX3_lastCodes_144 : decode cX3_lastCodes 144 = .ok (.invokevirtual 113, 3) := by decide +kernel
theorem dX3_lastCodes_147 : decode cX3_lastCodes 147 = .ok (.goto 7, 3) := by decide +kernel
theorem dX3_lastCodes_150 : decode cX3_lastCodes 150 = .ok (.aload_n 0, 1) := by decide +kernel
theorem dX3_lastCodes_151 : decode cX3_lastCodes 151 = .ok (.invokevirtual 301, 3) := by decide +kernel
theorem dX3_lastCodes_154 : decode cX3_lastCodes 154 = .ok (.return_, 1) := by decide +kernel
set_option maxRecDepth 20000 in
theorem ggX3_codesF6_X1_wide : GoodIn wsX3_codesF6 wsX1_wide := goodIn_r _ [9, 10, 162, 163, 164, 165, 166, 167, 168, 169, 170, 171, 172, 173] (by decide +kernel) (by decide +kernel)
set_option maxRecDepth 20000 in
theorem gX3_codesF6_X1_wide : GoodIn wsX3_codesF6 (wsV RX3 188 RX1 yX1_wide wsX1_wide) := goodIn_app (goodIn_of _ (by decide +kernel)) ggX3_codesF6_X1_wide
set_option maxRecDepth 20000 in
theorem ggX3_codesF6_X3_e : GoodIn wsX3_codesF6 wsX3_e := goodIn_r _ [15, 1, 16, 17, 18, 19, 20, 21, 22, 23, 8, 24, 25, 26, 27, 28, 29, 30, 31, 32, 33, 34, 35, 36, 37, 38, 39, 40, 41, 42, 43, 44, 45, 46, 47, 154, 155, 156, 157, 158, 159, 160, 161, 162, 163, 164, 165, 166, 167, 168, 169, 170, 171, 172, 173, 174, 175, 176, 177, 178, 179, 180] (by decide +kernel) (by decide +kernel)
set_option maxRecDepth 20000 in
theorem gX3_codesF6_X3_e : GoodIn wsX3_codesF6 (wsV RX3 168 RX3 yX3_e wsX3_e) := goodIn_app (goodIn_of _ (by decide +kernel)) ggX3_codesF6_X3_e
set_option maxRecDepth 20000 in
theorem ggX3_codesF6_X0_operation : GoodIn wsX3_codesF6 wsX0_operation := goodIn_r _ [52, 53, 54, 55, 56, 51, 57, 58, 59, 60, 61, 62, 63, 64, 65, 66, 67, 68, 69, 70, 71, 72, 73, 74, 75, 76, 77, 78, 79, 80, 81, 82, 83, 84, 85, 86, 87, 88, 89, 90, 91, 92, 93, 94, 95, 181] (by decide +kernel) (by decide +kernel)
set_option maxRecDepth 20000 in
theorem gX3_codesF6_X0_operation : GoodIn wsX3_codesF6 (wsV RX3 172 RX0 yX0_operation wsX0_operation) := goodIn_app (goodIn_of _ (by decide +kernel)) ggX3_codesF6_X0_operation
set_option maxRecDepth 20000 in
theorem ggX3_codesF6_X3_giveE : GoodIn wsX3_codesF6 wsX3_giveE := goodIn_r _ [99, 1, 16, 17, 18, 19, 20, 21, 22, 23, 8, 24, 25, 100, 101, 102, 29, 103, 31, 104, 105, 106, 107, 108, 35, 109, 37, 38, 39, 40, 41, 110, 111, 112, 113, 46, 114, 115, 47, 154, 155, 156, 157, 158, 159, 160, 161, 162, 163, 164, 165, 166, 167, 168, 169, 170, 171, 172, 173, 174, 175, 176, 177, 178, 179, 180] (by decide +kernel) (by decide +kernel)
set_option maxRecDepth 20000 in
theorem gX3_codesF6_X3_giveE : GoodIn wsX3_codesF6 (wsV RX3 176 RX3 yX3_giveE wsX3_giveE) := goodIn_app (goodIn_of _ (by decide +kernel)) ggX3_codesF6_X3_giveE
set_option maxRecDepth 20000 in
theorem ggX3_codesF6_X3_multiply : GoodIn wsX3_codesF6 wsX3_multiply := goodIn_r _ [119, 1, 3, 16, 5, 6, 7, 8, 9, 10, 120, 121, 122, 14, 123, 26, 27, 28, 29, 30, 31, 11, 12, 13, 15, 17, 18, 19, 20, 21, 22, 23, 24, 25, 32, 33, 34, 35, 36, 37, 38, 39, 40, 41, 42, 43, 44, 45, 46, 47, 124, 125, 126, 51, 127, 58, 59, 60, 65, 66, 67, 68, 69, 70, 71, 72, 53, 128, 129, 130, 131, 100, 101, 102, 103, 104, 105, 132, 133, 134, 135, 154, 155, 156, 157, 158, 159, 160, 161, 162, 163, 164, 165, 166, 167, 168, 169, 170, 171, 172, 173, 174, 175, 176, 177, 178, 179, 180, 181] (by decide +kernel) (by decide +kernel)
set_option maxRecDepth 20000 in
theorem gX3_codesF6_X3_multiply : GoodIn wsX3_codesF6 (wsV RX3 304 RX3 yX3_multiply wsX3_multiply) := goodIn_app (goodIn_of _ (by decide +kernel)) ggX3_codesF6_X3_multiply
set_option maxRecDepth 20000 in
theorem ggX3_codesF6_X3_divide : GoodIn wsX3_codesF6 wsX3_divide := goodIn_r _ [139, 1, 140, 16, 5, 6, 7, 8, 9, 10, 11, 12, 13, 14, 15, 17, 18, 19, 20, 21, 22, 23, 24, 25, 26, 27, 28, 29, 30, 31, 32, 33, 34, 35, 36, 37, 38, 39, 40, 41, 42, 43, 44, 45, 46, 47, 141, 59, 51, 60, 142, 143, 144, 145, 146, 120, 121, 122, 123, 147, 148, 149, 150, 151, 152, 153, 77, 78, 79, 80, 65, 66, 67, 68, 128, 129, 130, 131, 100, 101, 102, 103, 104, 105, 154, 155, 156, 157, 158, 159, 160, 161, 162, 163, 164, 165, 166, 167, 168, 169, 170, 171, 172, 173, 174, 175, 176, 177, 178, 179, 180] (by decide +kernel) (by decide +kernel)
set_option maxRecDepth 20000 in
theorem gX3_codesF6_X3_divide : GoodIn wsX3_codesF6 (wsV RX3 307 RX3 yX3_divide wsX3_divide) := goodIn_app (goodIn_of _ (by decide +kernel)) ggX3_codesF6_X3_divide
theorem dX3_codesF6_0 : decode cX3_codesF6 0 = .ok (.aload_n 0, 1) := by decide +kernel
theorem dX3_codesF6_1 : decode cX3_codesF6 1 = .ok (.getfield 35, 3) := by decide +kernel
theorem dX3_codesF6_4 : decode cX3_codesF6 4 = .ok (.invokevirtual 188, 3) := by decide +kernel
theorem dX3_codesF6_7 : decode cX3_codesF6 7 = .ok (.istore_n 1, 1) := by decide +kernel
theorem dX3_codesF6_8 : decode cX3_codesF6 8 = .ok (.aload_n 0, 1) := by decide +kernel
theorem dX3_codesF6_9 : decode cX3_codesF6 9 = .ok (.getfield 35, 3) := by decide +kernel
theorem dX3_codesF6_12 : decode cX3_codesF6 12 = .ok (.getfield 191, 3) := by decide +kernel
theorem dX3_codesF6_15 : decode cX3_codesF6 15 = .ok (.tableswitch 134 0 5 #[37, 37, 63, 87, 111, 111], 37) := by decide +kernel
theorem dX3_codesF6_52 : decode cX3_codesF6 52 = .ok (.aload_n 0, 1) := by decide +kernel
theorem dX3_codesF6_53 : decode cX3_codesF6 53 = .ok (.getfield 28, 3) := by decide +kernel
theorem dX3_codesF6_56 : decode cX3_codesF6 56 = .ok (.bipush 8, 2) := by decide +kernel
theorem dX3_codesF6_58 : decode cX3_codesF6 58 = .ok (.aload_n 0, 1) := by decide +kernel
theorem dX3_codesF6_59 : decode cX3_codesF6 59 = .ok (.iload_n 1, 1) := by decide +kernel
theorem dX3_codesF6_60 : decode cX3_codesF6 60 = .ok (.invokevirtual 168, 3) := by decide +kernel
theorem dX3_codesF6_63 : decode cX3_codesF6 63 = .ok (.aload_n 0, 1) := by decide +kernel
theorem dX3_codesF6_64 : decode cX3_codesF6 64 = .ok (.getfield 35, 3) := by decide +kernel
theorem dX3_codesF6_67 : decode cX3_codesF6 67 = .ok (.getfield 83, 3) := by decide +kernel
theorem dX3_codesF6_70 : decode cX3_codesF6 70 = .ok (.iload_n 1, 1) := by decide +kernel
theorem dX3_codesF6_71 : decode cX3_codesF6 71 = .ok (.invokevirtual 172, 3) := by decide +kernel
theorem dX3_codesF6_74 : decode cX3_codesF6 74 = .ok (.pop, 1) := by decide +kernel
theorem dX3_codesF6_75 : decode cX3_codesF6 75 = .ok (.goto 95, 3) := by decide +kernel
theorem dX3_codesF6_78 : decode cX3_codesF6 78 = .ok (.aload_n 0, 1) := by decide +kernel
theorem dX3_codesF6_79 : decode cX3_codesF6 79 = .ok (.aload_n 0, 1) := by decide +kernel
theorem dX3_codesF6_80 : decode cX3_codesF6 80 = .ok (.getfield 28, 3) := by decide +kernel
theorem dX3_codesF6_83 : decode cX3_codesF6 83 = .ok (.bipush 12, 2) := by decide +kernel
theorem dX3_codesF6_85 : decode cX3_codesF6 85 = .ok (.aload_n 0, 1) := by decide +kernel
theorem dX3_codesF6_86 : decode cX3_codesF6 86 = .ok (.iload_n 1, 1) := by decide +kernel
theorem dX3_codesF6_87 : decode cX3_codesF6 87 = .ok (.invokevirtual 168, 3) := by decide +kernel
theorem dX3_codesF6_90 : decode cX3_codesF6 90 = .ok (.iconst 0, 1) := by decide +kernel
theorem dX3_codesF6_91 : decode cX3_codesF6 91 = .ok (.iload_n 1, 1) := by decide +kernel
theorem dX3_codesF6_92 : decode cX3_codesF6 92 = .ok (.invokevirtual 172, 3) := by decide +kernel
theorem dX3_codesF6_95 : decode cX3_codesF6 95 = .ok (.iload_n 1, 1) := by decide +kernel
theorem dX3_codesF6_96 : decode cX3_codesF6 96 = .ok (.invokevirtual 176, 3) := by decide +kernel
theorem dX3_codesF6_99 : decode cX3_codesF6 99 = .ok (.goto 71, 3) := by decide +kernel
theorem dX3_codesF6_102 : decode cX3_codesF6 102 = .ok (.aload_n 0, 1) := by decide +kernel
theorem dX3_codesF6_103 : decode cX3_codesF6 103 = .ok (.aload_n 0, 1) := by decide +kernel
theorem dX3_codesF6_104 : decode cX3_codesF6 104 = .ok (.getfield 28, 3) := by decide +kernel
theorem dX3_codesF6_107 : decode cX3_codesF6 107 = .ok (.bipush 11, 2) := by decide +kernel
theorem dX3_codesF6_109 : decode cX3_codesF6 109 = .ok (.aload_n 0, 1) := by decide +kernel
theorem dX3_codesF6_110 : decode cX3_codesF6 110 = .ok (.iload_n 1, 1) := by decide +kernel
theorem dX3_codesF6_111 : decode cX3_codesF6 111 = .ok (.invokevirtual 168, 3) := by decide +kernel
theorem dX3_codesF6_114 : decode cX3_codesF6 114 = .ok (.iconst 0, 1) := by decide +kernel
theorem dX3_codesF6_115 : decode cX3_codesF6 115 = .ok (.iload_n 1, 1) := by decide +kernel
theorem dX3_codesF6_116 : decode cX3_codesF6 116 = .ok (.invokevirtual 172, 3) := by decide +kernel
theorem dX3_codesF6_119 : decode cX3_codesF6 119 = .ok (.iload_n 1, 1) := by decide +kernel
theorem dX3_codesF6_120 : decode cX3_codesF6 120 = .ok (.invokevirtual 176, 3) := by decide +kernel
theorem dX3_codesF6_123 : decode cX3_codesF6 123 = .ok (.goto 47, 3) := by decide +kernel
theorem dX3_codesF6_126 : decode cX3_codesF6 126 = .ok (.aload_n 0, 1) := by decide +kernel
theorem dX3_codesF6_127 : decode cX3_codesF6 127 = .ok (.aload_n 0, 1) := by decide +kernel
theorem dX3_codesF6_128 : decode cX3_codesF6 128 = .ok (.getfield 35, 3) := by decide +kernel
theorem dX3_codesF6_131 : decode cX3_codesF6 131 = .ok (.getfield 191, 3) := by decide +kernel
theorem dX3_codesF6_134 : decode cX3_codesF6 134 = .ok (.iconst 5, 1) := by decide +kernel
theorem dX3_codesF6_135 : decode cX3_codesF6 135 = .ok (.if_icmp .ne 7, 3) := by decide +kernel
theorem dX3_codesF6_138 : decode cX3_codesF6 138 = .ok (.iconst 1, 1) := by decide +kernel
theorem dX3_codesF6_139 : decode cX3_codesF6 139 = .ok (.goto 4, 3) := by decide +kernel
theorem dX3_codesF6_142 : decode cX3_codesF6 142 = .ok (.iconst 0, 1) := by decide +kernel
theorem dX3_codesF6_143 : decode cX3_codesF6 143 = .ok (.invokevirtual 304, 3) := by decide +kernel
theorem dX3_codesF6_146 : decode cX3_codesF6 146 = .ok (.goto 24, 3) := by decide +kernel
theorem dX3_codesF6_149 : decode cX3_codesF6 149 = .ok (.aload_n 0, 1) := by decide +kernel
theorem dX3_codesF6_150 : decode cX3_codesF6 150 = .ok (.aload_n 0, 1) := by decide +kernel
theorem dX3_codesF6_151 : decode cX3_codesF6 151 = .ok (.getfield 35, 3) := by decide +kernel
theorem dX3_codesF6_154 : decode cX3_codesF6 154 = .ok (.getfield 191, 3) := by decide +kernel
theorem dX3_codesF6_157 : decode cX3_codesF6 157 = .ok (.bipush 7, 2) := by decide +kernel
theorem dX3_codesF6_159 : decode cX3_codesF6 159 = .ok (.if_icmp .ne 7, 3) := by decide +kernel
theorem dX3_codesF6_162 : decode cX3_codesF6 162 = .ok (.iconst 1, 1) := by decide +kernel
theorem dX3_codesF6_163 : decode cX3_codesF6 163 = .ok (.goto 4, 3) := by decide +kernel
theorem dX3_codesF6_166 : decode cX3_codesF6 166 = .ok (.iconst 0, 1) := by decide +kernel
theorem dX3_codesF6_167 : decode cX3_codesF6 167 = .ok (.invokevirtual 307, 3) := by decide +kernel
theorem dX3_codesF6_170 : decode cX3_codesF6 170 = .ok (.return_, 1) := by decide +kernel
set_option maxRecDepth 20000 in
theorem ggX3_multiply_X1_wide : GoodIn wsX3_multiply wsX1_wide := goodIn_r _ [8, 9, 89, 90, 91, 92, 93, 94, 95, 96, 97, 98, 99, 100] (by decide +kernel) (by decide +kernel)
set_option maxRecDepth 20000 in
theorem gX3_multiply_X1_wide : GoodIn wsX3_multiply (wsV RX3 188 RX1 yX1_wide wsX1_wide) := goodIn_app (goodIn_of _ (by decide +kernel)) ggX3_multiply_X1_wide
set_option maxRecDepth 20000 in
theorem ggX3_multiply_X3_a : GoodIn wsX3_multiply wsX3_a := goodIn_r _ [14, 3, 15, 16, 17, 18, 19, 20, 81, 82, 83, 84, 85, 86, 87, 88, 101, 102, 103] (by decide +kernel) (by decide +kernel)
set_option maxRecDepth 20000 in
theorem gX3_multiply_X3_a : GoodIn wsX3_multiply (wsV RX3 197 RX3 yX3_a wsX3_a) := goodIn_app (goodIn_of _ (by decide +kernel)) ggX3_multiply_X3_a
set_option maxRecDepth 20000 in
theorem ggX3_multiply_X3_e : GoodIn wsX3_multiply wsX3_e := goodIn_r _ [24, 1, 3, 25, 26, 27, 28, 29, 30, 31, 7, 32, 33, 15, 16, 17, 18, 19, 20, 34, 35, 36, 37, 38, 39, 40, 41, 42, 43, 44, 45, 46, 47, 48, 49, 81, 82, 83, 84, 85, 86, 87, 88, 89, 90, 91, 92, 93, 94, 95, 96, 97, 98, 99, 100, 101, 102, 103, 104, 105, 106, 107] (by decide +kernel) (by decide +kernel)
set_option maxRecDepth 20000 in
theorem gX3_multiply_X3_e : GoodIn wsX3_multiply (wsV RX3 168 RX3 yX3_e wsX3_e) := goodIn_app (goodIn_of _ (by decide +kernel)) ggX3_multiply_X3_e
set_option maxRecDepth 20000 in
theorem ggX3_multiply_X0_product : GoodIn wsX3_multiply wsX0_product := goodIn_r _ [54, 55, 56, 53, 57, 58, 59, 60, 61, 62, 63, 64, 65, 66, 108] (by decide +kernel) (by decide +kernel)
set_option maxRecDepth 20000 in
theorem gX3_multiply_X0_product : GoodIn wsX3_multiply (wsV RX3 310 RX0 yX0_product wsX0_product) := goodIn_app (goodIn_of _ (by decide +kernel)) ggX3_multiply_X0_product
set_option maxRecDepth 20000 in
theorem ggX3_multiply_X3_giveA : GoodIn wsX3_multiply wsX3_giveA := goodIn_r _ [70, 3, 71, 72, 73, 18, 74, 20, 75, 76, 81, 82, 83, 84, 85, 86, 87, 88, 101, 102, 103] (by decide +kernel) (by decide +kernel)
set_option maxRecDepth 20000 in
theorem gX3_multiply_X3_giveA : GoodIn wsX3_multiply (wsV RX3 200 RX3 yX3_giveA wsX3_giveA) := goodIn_app (goodIn_of _ (by decide +kernel)) ggX3_multiply_X3_giveA
set_option maxRecDepth 20000 in
theorem ggX3_multiply_X4_setWord : GoodIn wsX3_multiply wsX4_setWord := goodIn_r _ [80, 20, 75, 101, 102, 103] (by decide +kernel) (by decide +kernel)
set_option maxRecDepth 20000 in
theorem gX3_multiply_X4_setWord : GoodIn wsX3_multiply (wsV RX3 142 RX4 yX4_setWord wsX4_setWord) := goodIn_app (goodIn_of _ (by decide +kernel)) ggX3_multiply_X4_setWord
theorem dX3_multiply_0 : decode cX3_multiply 0 = .ok (.aload_n 0, 1) := by decide +kernel
theorem dX3_multiply_1 : decode cX3_multiply 1 = .ok (.getfield 35, 3) := by decide +kernel
theorem dX3_multiply_4 : decode cX3_multiply 4 = .ok (.invokevirtual 188, 3) := by decide +kernel
theorem dX3_multiply_7 : decode cX3_multiply 7 = .ok (.istore_n 2, 1) := by decide +kernel
theorem dX3_multiply_8 : decode cX3_multiply 8 = .ok (.aload_n 0, 1) := by decide +kernel
theorem dX3_multiply_9 : decode cX3_multiply 9 = .ok (.getfield 28, 3) := by decide +kernel
theorem dX3_multiply_12 : decode cX3_multiply 12 = .ok (.aload_n 0, 1) := by decide +kernel
theorem dX3_multiply_13 : decode cX3_multiply 13 = .ok (.iload_n 2, 1) := by decide +kernel
theorem dX3_multiply_14 : decode cX3_multiply 14 = .ok (.invokevirtual 197, 3) := by decide +kernel
theorem dX3_multiply_17 : decode cX3_multiply 17 = .ok (.aload_n 0, 1) := by decide +kernel
theorem dX3_multiply_18 : decode cX3_multiply 18 = .ok (.iload_n 2, 1) := by decide +kernel
theorem dX3_multiply_19 : decode cX3_multiply 19 = .ok (.invokevirtual 168, 3) := by decide +kernel
theorem dX3_multiply_22 : decode cX3_multiply 22 = .ok (.iload_n 2, 1) := by decide +kernel
theorem dX3_multiply_23 : decode cX3_multiply 23 = .ok (.iload_n 1, 1) := by decide +kernel
theorem dX3_multiply_24 : decode cX3_multiply 24 = .ok (.invokevirtual 310, 3) := by decide +kernel
theorem dX3_multiply_27 : decode cX3_multiply 27 = .ok (.istore_n 3, 1) := by decide +kernel
theorem dX3_multiply_28 : decode cX3_multiply 28 = .ok (.aload_n 0, 1) := by decide +kernel
theorem dX3_multiply_29 : decode cX3_multiply 29 = .ok (.iload_n 3, 1) := by decide +kernel
theorem dX3_multiply_30 : decode cX3_multiply 30 = .ok (.iconst 1, 1) := by decide +kernel
theorem dX3_multiply_31 : decode cX3_multiply 31 = .ok (.invokevirtual 200, 3) := by decide +kernel
theorem dX3_multiply_34 : decode cX3_multiply 34 = .ok (.iload_n 2, 1) := by decide +kernel
theorem dX3_multiply_35 : decode cX3_multiply 35 = .ok (.ifCond .eq 15, 3) := by decide +kernel
theorem dX3_multiply_38 : decode cX3_multiply 38 = .ok (.aload_n 0, 1) := by decide +kernel
theorem dX3_multiply_39 : decode cX3_multiply 39 = .ok (.getfield 21, 3) := by decide +kernel
theorem dX3_multiply_42 : decode cX3_multiply 42 = .ok (.iconst 2, 1) := by decide +kernel
theorem dX3_multiply_43 : decode cX3_multiply 43 = .ok (.iload_n 3, 1) := by decide +kernel
theorem dX3_multiply_44 : decode cX3_multiply 44 = .ok (.bipush 16, 2) := by decide +kernel
theorem dX3_multiply_46 : decode cX3_multiply 46 = .ok (.ishr, 1) := by decide +kernel
theorem dX3_multiply_47 : decode cX3_multiply 47 = .ok (.invokevirtual 142, 3) := by decide +kernel
theorem dX3_multiply_50 : decode cX3_multiply 50 = .ok (.return_, 1) := by decide +kernel
set_option maxRecDepth 20000 in
theorem ggX3_divide_X1_wide : GoodIn wsX3_divide wsX1_wide := goodIn_r _ [8, 9, 92, 93, 94, 95, 96, 97, 98, 99, 100, 101, 102, 103] (by decide +kernel) (by decide +kernel)
set_option maxRecDepth 20000 in
theorem gX3_divide_X1_wide : GoodIn wsX3_divide (wsV RX3 188 RX1 yX1_wide wsX1_wide) := goodIn_app (goodIn_of _ (by decide +kernel)) ggX3_divide_X1_wide
set_option maxRecDepth 20000 in
theorem ggX3_divide_X3_e : GoodIn wsX3_divide wsX3_e := goodIn_r _ [14, 1, 3, 15, 16, 17, 18, 19, 20, 21, 7, 22, 23, 24, 25, 26, 27, 28, 29, 30, 31, 32, 33, 34, 35, 36, 37, 38, 39, 40, 41, 42, 43, 44, 45, 84, 85, 86, 87, 88, 89, 90, 91, 92, 93, 94, 95, 96, 97, 98, 99, 100, 101, 102, 103, 104, 105, 106, 107, 108, 109, 110] (by decide +kernel) (by decide +kernel)
set_option maxRecDepth 20000 in
theorem gX3_divide_X3_e : GoodIn wsX3_divide (wsV RX3 168 RX3 yX3_e wsX3_e) := goodIn_app (goodIn_of _ (by decide +kernel)) ggX3_divide_X3_e
set_option maxRecDepth 20000 in
theorem ggX3_divide_X0_signed : GoodIn wsX3_divide wsX0_signed := goodIn_r _ [49] (by decide +kernel) (by decide +kernel)
set_option maxRecDepth 20000 in
theorem gX3_divide_X0_signed : GoodIn wsX3_divide (va_wsS RX3 179 yX0_signed wsX0_signed) := goodIn_app (goodIn_of _ (by decide +kernel)) ggX3_divide_X0_signed
set_option maxRecDepth 20000 in
theorem ggX3_divide_X3_dividend : GoodIn wsX3_divide wsX3_dividend := goodIn_r _ [53, 3, 54, 55, 56, 57, 13, 58, 24, 25, 26, 27, 28, 29, 46, 47, 48, 49, 59, 60, 61, 62, 84, 85, 86, 87, 88, 89, 90, 91, 104, 105, 106] (by decide +kernel) (by decide +kernel)
set_option maxRecDepth 20000 in
theorem gX3_divide_X3_dividend : GoodIn wsX3_divide (wsV RX3 314 RX3 yX3_dividend wsX3_dividend) := goodIn_app (goodIn_of _ (by decide +kernel)) ggX3_divide_X3_dividend
set_option maxRecDepth 20000 in
theorem ggX3_divide_X0_fits : GoodIn wsX3_divide wsX0_fits := goodIn_r _ [65, 66, 67, 48, 68, 69, 70, 71, 72, 73] (by decide +kernel) (by decide +kernel)
set_option maxRecDepth 20000 in
theorem gX3_divide_X0_fits : GoodIn wsX3_divide (va_wsS RX3 318 yX0_fits wsX0_fits) := goodIn_app (goodIn_of _ (by decide +kernel)) ggX3_divide_X0_fits
set_option maxRecDepth 20000 in
theorem ggX3_divide_X3_giveA : GoodIn wsX3_divide wsX3_giveA := goodIn_r _ [77, 3, 78, 79, 80, 27, 81, 29, 82, 83, 84, 85, 86, 87, 88, 89, 90, 91, 104, 105, 106] (by decide +kernel) (by decide +kernel)
set_option maxRecDepth 20000 in
theorem gX3_divide_X3_giveA : GoodIn wsX3_divide (wsV RX3 200 RX3 yX3_giveA wsX3_giveA) := goodIn_app (goodIn_of _ (by decide +kernel)) ggX3_divide_X3_giveA
set_option maxRecDepth 20000 in
theorem ggX3_divide_X4_give : GoodIn wsX3_divide wsX4_give := goodIn_r _ [81, 29, 82, 83, 104, 105, 106] (by decide +kernel) (by decide +kernel)
set_option maxRecDepth 20000 in
theorem gX3_divide_X4_give : GoodIn wsX3_divide (wsV RX3 86 RX4 yX4_give wsX4_give) := goodIn_app (goodIn_of _ (by decide +kernel)) ggX3_divide_X4_give
theorem dX3_divide_0 : decode cX3_divide 0 = .ok (.aload_n 0, 1) := by decide +kernel
theorem dX3_divide_1 : decode cX3_divide 1 = .ok (.getfield 35, 3) := by decide +kernel
theorem dX3_divide_4 : decode cX3_divide 4 = .ok (.invokevirtual 188, 3) := by decide +kernel
theorem dX3_divide_7 : decode cX3_divide 7 = .ok (.istore_n 2, 1) := by decide +kernel
theorem dX3_divide_8 : decode cX3_divide 8 = .ok (.iload_n 1, 1) := by decide +kernel
theorem dX3_divide_9 : decode cX3_divide 9 = .ok (.ifCond .eq 16, 3) := by decide +kernel
theorem dX3_divide_12 : decode cX3_divide 12 = .ok (.aload_n 0, 1) := by decide +kernel
theorem dX3_divide_13 : decode cX3_divide 13 = .ok (.iload_n 2, 1) := by decide +kernel
theorem dX3_divide_14 : decode cX3_divide 14 = .ok (.invokevirtual 168, 3) := by decide +kernel
theorem dX3_divide_17 : decode cX3_divide 17 = .ok (.iload_n 2, 1) := by decide +kernel
theorem dX3_divide_18 : decode cX3_divide 18 = .ok (.invokestatic 179, 3) := by decide +kernel
theorem dX3_divide_21 : decode cX3_divide 21 = .ok (.i2l, 1) := by decide +kernel
theorem dX3_divide_22 : decode cX3_divide 22 = .ok (.goto 9, 3) := by decide +kernel
theorem dX3_divide_25 : decode cX3_divide 25 = .ok (.aload_n 0, 1) := by decide +kernel
theorem dX3_divide_26 : decode cX3_divide 26 = .ok (.iload_n 2, 1) := by decide +kernel
theorem dX3_divide_27 : decode cX3_divide 27 = .ok (.invokevirtual 168, 3) := by decide +kernel
theorem dX3_divide_30 : decode cX3_divide 30 = .ok (.i2l, 1) := by decide +kernel
theorem dX3_divide_31 : decode cX3_divide 31 = .ok (.lstore_n 3, 1) := by decide +kernel
theorem dX3_divide_32 : decode cX3_divide 32 = .ok (.lload_n 3, 1) := by decide +kernel
theorem dX3_divide_33 : decode cX3_divide 33 = .ok (.lconst 0, 1) := by decide +kernel
theorem dX3_divide_34 : decode cX3_divide 34 = .ok (.lcmp, 1) := by decide +kernel
theorem dX3_divide_35 : decode cX3_divide 35 = .ok (.ifCond .ne 9, 3) := by decide +kernel
theorem dX3_divide_38 : decode cX3_divide 38 = .ok (.aload_n 0, 1) := by decide +kernel
theorem dX3_divide_39 : decode cX3_divide 39 = .ok (.iconst 0, 1) := by decide +kernel
theorem dX3_divide_40 : decode cX3_divide 40 = .ok (.putfield 43, 3) := by decide +kernel
theorem dX3_divide_43 : decode cX3_divide 43 = .ok (.return_, 1) := by decide +kernel
theorem dX3_divide_44 : decode cX3_divide 44 = .ok (.aload_n 0, 1) := by decide +kernel
theorem dX3_divide_45 : decode cX3_divide 45 = .ok (.iload_n 2, 1) := by decide +kernel
theorem dX3_divide_46 : decode cX3_divide 46 = .ok (.iload_n 1, 1) := by decide +kernel
theorem dX3_divide_47 : decode cX3_divide 47 = .ok (.invokevirtual 314, 3) := by decide +kernel
theorem dX3_divide_50 : decode cX3_divide 50 = .ok (.lstore 5, 2) := by decide +kernel
theorem dX3_divide_52 : decode cX3_divide 52 = .ok (.lload 5, 2) := by decide +kernel
theorem dX3_divide_54 : decode cX3_divide 54 = .ok (.lload_n 3, 1) := by decide +kernel
theorem dX3_divide_55 : decode cX3_divide 55 = .ok (.ldiv, 1) := by decide +kernel
theorem dX3_divide_56 : decode cX3_divide 56 = .ok (.lstore 7, 2) := by decide +kernel
theorem dX3_divide_58 : decode cX3_divide 58 = .ok (.lload 7, 2) := by decide +kernel
theorem dX3_divide_60 : decode cX3_divide 60 = .ok (.iload_n 2, 1) := by decide +kernel
theorem dX3_divide_61 : decode cX3_divide 61 = .ok (.iload_n 1, 1) := by decide +kernel
theorem dX3_divide_62 : decode cX3_divide 62 = .ok (.invokestatic 318, 3) := by decide +kernel
theorem dX3_divide_65 : decode cX3_divide 65 = .ok (.ifCond .ne 9, 3) := by decide +kernel
theorem dX3_divide_68 : decode cX3_divide 68 = .ok (.aload_n 0, 1) := by decide +kernel
theorem dX3_divide_69 : decode cX3_divide 69 = .ok (.iconst 0, 1) := by decide +kernel
theorem dX3_divide_70 : decode cX3_divide 70 = .ok (.putfield 43, 3) := by decide +kernel
theorem dX3_divide_73 : decode cX3_divide 73 = .ok (.return_, 1) := by decide +kernel
theorem dX3_divide_74 : decode cX3_divide 74 = .ok (.aload_n 0, 1) := by decide +kernel
theorem dX3_divide_75 : decode cX3_divide 75 = .ok (.lload 7, 2) := by decide +kernel
theorem dX3_divide_77 : decode cX3_divide 77 = .ok (.l2i, 1) := by decide +kernel
theorem dX3_divide_78 : decode cX3_divide 78 = .ok (.iload_n 2, 1) := by decide +kernel
theorem dX3_divide_79 : decode cX3_divide 79 = .ok (.invokevirtual 200, 3) := by decide +kernel
theorem dX3_divide_82 : decode cX3_divide 82 = .ok (.aload_n 0, 1) := by decide +kernel
theorem dX3_divide_83 : decode cX3_divide 83 = .ok (.getfield 21, 3) := by decide +kernel
theorem dX3_divide_86 : decode cX3_divide 86 = .ok (.iload_n 2, 1) := by decide +kernel
theorem dX3_divide_87 : decode cX3_divide 87 = .ok (.ifCond .eq 7, 3) := by decide +kernel
theorem dX3_divide_90 : decode cX3_divide 90 = .ok (.iconst 2, 1) := by decide +kernel
theorem dX3_divide_91 : decode cX3_divide 91 = .ok (.goto 4, 3) := by decide +kernel
theorem dX3_divide_94 : decode cX3_divide 94 = .ok (.iconst 4, 1) := by decide +kernel
theorem dX3_divide_95 : decode cX3_divide 95 = .ok (.lload 5, 2) := by decide +kernel
theorem dX3_divide_97 : decode cX3_divide 97 = .ok (.lload_n 3, 1) := by decide +kernel
theorem dX3_divide_98 : decode cX3_divide 98 = .ok (.lrem, 1) := by decide +kernel
theorem dX3_divide_99 : decode cX3_divide 99 = .ok (.l2i, 1) := by decide +kernel
theorem dX3_divide_100 : decode cX3_divide 100 = .ok (.iload_n 2, 1) := by decide +kernel
theorem dX3_divide_101 : decode cX3_divide 101 = .ok (.invokevirtual 86, 3) := by decide +kernel
theorem dX3_divide_104 : decode cX3_divide 104 = .ok (.return_, 1) := by decide +kernel
set_option maxRecDepth 20000 in
theorem ggX3_dividend_X3_a : GoodIn wsX3_dividend wsX3_a := goodIn_r _ [7, 1, 8, 9, 10, 11, 12, 13, 22, 23, 24, 25, 26, 27, 28, 29, 30, 31, 32] (by decide +kernel) (by decide +kernel)
set_option maxRecDepth 20000 in
theorem gX3_dividend_X3_a : GoodIn wsX3_dividend (wsV RX3 197 RX3 yX3_a wsX3_a) := goodIn_app (goodIn_of _ (by decide +kernel)) ggX3_dividend_X3_a
set_option maxRecDepth 20000 in
theorem ggX3_dividend_X0_signed : GoodIn wsX3_dividend wsX0_signed := goodIn_r _ [17] (by decide +kernel) (by decide +kernel)
set_option maxRecDepth 20000 in
theorem gX3_dividend_X0_signed : GoodIn wsX3_dividend (va_wsS RX3 179 yX0_signed wsX0_signed) := goodIn_app (goodIn_of _ (by decide +kernel)) ggX3_dividend_X0_signed
set_option maxRecDepth 20000 in
theorem ggX3_dividend_X4_word : GoodIn wsX3_dividend wsX4_word := goodIn_r _ [21, 13, 30, 31, 32] (by decide +kernel) (by decide +kernel)
set_option maxRecDepth 20000 in
theorem gX3_dividend_X4_word : GoodIn wsX3_dividend (wsV RX3 139 RX4 yX4_word wsX4_word) := goodIn_app (goodIn_of _ (by decide +kernel)) ggX3_dividend_X4_word
theorem dX3_dividend_0 : decode cX3_dividend 0 = .ok (.iload_n 1, 1) := by decide +kernel
theorem dX3_dividend_1 : decode cX3_dividend 1 = .ok (.ifCond .ne 27, 3) := by decide +kernel
theorem dX3_dividend_4 : decode cX3_dividend 4 = .ok (.iload_n 2, 1) := by decide +kernel
theorem dX3_dividend_5 : decode cX3_dividend 5 = .ok (.ifCond .eq 16, 3) := by decide +kernel
theorem dX3_dividend_8 : decode cX3_dividend 8 = .ok (.aload_n 0, 1) := by decide +kernel
theorem dX3_dividend_9 : decode cX3_dividend 9 = .ok (.iconst 1, 1) := by decide +kernel
theorem dX3_dividend_10 : decode cX3_dividend 10 = .ok (.invokevirtual 197, 3) := by decide +kernel
theorem dX3_dividend_13 : decode cX3_dividend 13 = .ok (.iconst 1, 1) := by decide +kernel
theorem dX3_dividend_14 : decode cX3_dividend 14 = .ok (.invokestatic 179, 3) := by decide +kernel
theorem dX3_dividend_17 : decode cX3_dividend 17 = .ok (.i2l, 1) := by decide +kernel
theorem dX3_dividend_18 : decode cX3_dividend 18 = .ok (.goto 9, 3) := by decide +kernel
theorem dX3_dividend_21 : decode cX3_dividend 21 = .ok (.aload_n 0, 1) := by decide +kernel
theorem dX3_dividend_22 : decode cX3_dividend 22 = .ok (.iconst 1, 1) := by decide +kernel
theorem dX3_dividend_23 : decode cX3_dividend 23 = .ok (.invokevirtual 197, 3) := by decide +kernel
theorem dX3_dividend_26 : decode cX3_dividend 26 = .ok (.i2l, 1) := by decide +kernel
theorem dX3_dividend_27 : decode cX3_dividend 27 = .ok (.lreturn, 1) := by decide +kernel
theorem dX3_dividend_28 : decode cX3_dividend 28 = .ok (.aload_n 0, 1) := by decide +kernel
theorem dX3_dividend_29 : decode cX3_dividend 29 = .ok (.getfield 21, 3) := by decide +kernel
theorem dX3_dividend_32 : decode cX3_dividend 32 = .ok (.iconst 2, 1) := by decide +kernel
theorem dX3_dividend_33 : decode cX3_dividend 33 = .ok (.invokevirtual 139, 3) := by decide +kernel
theorem dX3_dividend_36 : decode cX3_dividend 36 = .ok (.bipush 16, 2) := by decide +kernel
theorem dX3_dividend_38 : decode cX3_dividend 38 = .ok (.ishl, 1) := by decide +kernel
theorem dX3_dividend_39 : decode cX3_dividend 39 = .ok (.aload_n 0, 1) := by decide +kernel
theorem dX3_dividend_40 : decode cX3_dividend 40 = .ok (.iconst 1, 1) := by decide +kernel
theorem dX3_dividend_41 : decode cX3_dividend 41 = .ok (.invokevirtual 197, 3) := by decide +kernel
theorem dX3_dividend_44 : decode cX3_dividend 44 = .ok (.ior, 1) := by decide +kernel
theorem dX3_dividend_45 : decode cX3_dividend 45 = .ok (.istore_n 3, 1) := by decide +kernel
theorem dX3_dividend_46 : decode cX3_dividend 46 = .ok (.iload_n 2, 1) := by decide +kernel
theorem dX3_dividend_47 : decode cX3_dividend 47 = .ok (.ifCond .eq 8, 3) := by decide +kernel
theorem dX3_dividend_50 : decode cX3_dividend 50 = .ok (.iload_n 3, 1) := by decide +kernel
theorem dX3_dividend_51 : decode cX3_dividend 51 = .ok (.i2l, 1) := by decide +kernel
theorem dX3_dividend_52 : decode cX3_dividend 52 = .ok (.goto 9, 3) := by decide +kernel
theorem dX3_dividend_55 : decode cX3_dividend 55 = .ok (.iload_n 3, 1) := by decide +kernel
theorem dX3_dividend_56 : decode cX3_dividend 56 = .ok (.i2l, 1) := by decide +kernel
theorem dX3_dividend_57 : decode cX3_dividend 57 = .ok (.ldc2_w 322, 3) := by decide +kernel
theorem dX3_dividend_60 : decode cX3_dividend 60 = .ok (.land, 1) := by decide +kernel
theorem dX3_dividend_61 : decode cX3_dividend 61 = .ok (.lreturn, 1) := by decide +kernel
set_option maxRecDepth 20000 in
theorem ggX3_codesFE_X1_wide : GoodIn wsX3_codesFE wsX1_wide := goodIn_r _ [11, 12, 162, 163, 164, 165, 166, 167, 168, 169, 170, 171, 172, 173] (by decide +kernel) (by decide +kernel)
set_option maxRecDepth 20000 in
theorem gX3_codesFE_X1_wide : GoodIn wsX3_codesFE (wsV RX3 188 RX1 yX1_wide wsX1_wide) := goodIn_app (goodIn_of _ (by decide +kernel)) ggX3_codesFE_X1_wide
set_option maxRecDepth 20000 in
theorem ggX3_codesFE_X3_e : GoodIn wsX3_codesFE wsX3_e := goodIn_r _ [17, 1, 4, 6, 18, 19, 20, 21, 22, 23, 10, 24, 25, 26, 27, 28, 29, 30, 31, 32, 33, 34, 35, 36, 37, 38, 39, 40, 41, 42, 43, 44, 45, 46, 47, 154, 155, 156, 157, 158, 159, 160, 161, 162, 163, 164, 165, 166, 167, 168, 169, 170, 171, 172, 173, 174, 175, 176, 177, 178, 179, 180] (by decide +kernel) (by decide +kernel)
set_option maxRecDepth 20000 in
theorem gX3_codesFE_X3_e : GoodIn wsX3_codesFE (wsV RX3 168 RX3 yX3_e wsX3_e) := goodIn_app (goodIn_of _ (by decide +kernel)) ggX3_codesFE_X3_e
set_option maxRecDepth 20000 in
theorem ggX3_codesFE_X0_byOne : GoodIn wsX3_codesFE wsX0_byOne := goodIn_r _ [52, 53, 54, 55, 56, 51, 57, 58, 59, 60, 61, 62, 63, 64, 65, 66, 67, 68, 69, 70, 71, 72, 73, 74, 75, 76, 77, 78, 79, 80, 81, 82, 83, 84, 85, 86, 87, 88, 89, 90, 91, 181] (by decide +kernel) (by decide +kernel)
set_option maxRecDepth 20000 in
theorem gX3_codesFE_X0_byOne : GoodIn wsX3_codesFE (wsV RX3 210 RX0 yX0_byOne wsX0_byOne) := goodIn_app (goodIn_of _ (by decide +kernel)) ggX3_codesFE_X0_byOne
set_option maxRecDepth 20000 in
theorem ggX3_codesFE_X3_giveE : GoodIn wsX3_codesFE wsX3_giveE := goodIn_r _ [95, 1, 4, 6, 18, 19, 20, 21, 22, 23, 10, 24, 25, 96, 97, 98, 29, 99, 31, 100, 101, 102, 103, 104, 35, 105, 37, 38, 39, 40, 41, 106, 107, 108, 109, 46, 110, 111, 47, 154, 155, 156, 157, 158, 159, 160, 161, 162, 163, 164, 165, 166, 167, 168, 169, 170, 171, 172, 173, 174, 175, 176, 177, 178, 179, 180] (by decide +kernel) (by decide +kernel)
set_option maxRecDepth 20000 in
theorem gX3_codesFE_X3_giveE : GoodIn wsX3_codesFE (wsV RX3 176 RX3 yX3_giveE wsX3_giveE) := goodIn_app (goodIn_of _ (by decide +kernel)) ggX3_codesFE_X3_giveE
set_option maxRecDepth 20000 in
theorem ggX3_codesFE_X3_push : GoodIn wsX3_codesFE wsX3_push := goodIn_r _ [115, 4, 18, 116, 117, 118, 29, 119, 31, 120, 121, 122, 123, 100, 124, 125, 126, 127, 128, 102, 103, 104, 35, 105, 37, 38, 39, 40, 41, 106, 107, 108, 109, 46, 110, 111, 47, 154, 155, 156, 157, 158, 159, 160, 161, 174, 175, 176, 177, 178, 179, 180] (by decide +kernel) (by decide +kernel)
set_option maxRecDepth 20000 in
theorem gX3_codesFE_X3_push : GoodIn wsX3_codesFE (wsV RX3 110 RX3 yX3_push wsX3_push) := goodIn_app (goodIn_of _ (by decide +kernel)) ggX3_codesFE_X3_push
set_option maxRecDepth 20000 in
theorem ggX3_codesFE_X4_moveTo : GoodIn wsX3_codesFE wsX4_moveTo := goodIn_r _ [132, 100, 133, 174, 175, 176] (by decide +kernel) (by decide +kernel)
set_option maxRecDepth 20000 in
theorem gX3_codesFE_X4_moveTo : GoodIn wsX3_codesFE (wsV RX3 128 RX4 yX4_moveTo wsX4_moveTo) := goodIn_app (goodIn_of _ (by decide +kernel)) ggX3_codesFE_X4_moveTo
set_option maxRecDepth 20000 in
theorem ggX3_codesFE_X3_wordBehindE : GoodIn wsX3_codesFE wsX3_wordBehindE := goodIn_r _ [137, 18, 1, 19, 20, 32, 33, 34, 35, 36, 37, 38, 39, 40, 41, 42, 43, 44, 45, 46, 47, 154, 155, 156, 157, 158, 159, 160, 161, 162, 163, 164, 165, 166, 167, 168, 169, 170, 171, 172, 173, 177, 178, 179, 180] (by decide +kernel) (by decide +kernel)
set_option maxRecDepth 20000 in
theorem gX3_codesFE_X3_wordBehindE : GoodIn wsX3_codesFE (wsV RX3 276 RX3 yX3_wordBehindE wsX3_wordBehindE) := goodIn_app (goodIn_of _ (by decide +kernel)) ggX3_codesFE_X3_wordBehindE
set_option maxRecDepth 20000 in
theorem ggX3_codesFE_X3_callFar : GoodIn wsX3_codesFE wsX3_callFar := goodIn_r _ [141, 4, 5, 124, 125, 126, 29, 127, 128, 112, 113, 114, 16, 115, 18, 116, 117, 118, 119, 31, 120, 121, 122, 123, 100, 102, 103, 104, 35, 105, 37, 38, 39, 40, 41, 106, 107, 108, 109, 46, 110, 111, 47, 142, 143, 144, 145, 129, 130, 131, 132, 133, 146, 147, 148, 149, 154, 155, 156, 157, 158, 159, 160, 161, 174, 175, 176, 177, 178, 179, 180] (by decide +kernel) (by decide +kernel)
set_option maxRecDepth 20000 in
theorem gX3_codesFE_X3_callFar : GoodIn wsX3_codesFE (wsV RX3 224 RX3 yX3_callFar wsX3_callFar) := goodIn_app (goodIn_of _ (by decide +kernel)) ggX3_codesFE_X3_callFar
set_option maxRecDepth 20000 in
theorem ggX3_codesFE_X3_jumpFar : GoodIn wsX3_codesFE wsX3_jumpFar := goodIn_r _ [145, 4, 129, 130, 131, 29, 132, 100, 133, 146, 147, 148, 149, 128, 154, 155, 156, 157, 158, 159, 160, 161, 174, 175, 176] (by decide +kernel) (by decide +kernel)
set_option maxRecDepth 20000 in
theorem gX3_codesFE_X3_jumpFar : GoodIn wsX3_codesFE (wsV RX3 185 RX3 yX3_jumpFar wsX3_jumpFar) := goodIn_app (goodIn_of _ (by decide +kernel)) ggX3_codesFE_X3_jumpFar
set_option maxRecDepth 20000 in
theorem ggX3_codesFE_X1_inRegister : GoodIn wsX3_codesFE wsX1_inRegister := goodIn_r _ [24, 25, 162, 163, 164, 165, 166, 167, 168, 169, 170, 171, 172, 173] (by decide +kernel) (by decide +kernel)
set_option maxRecDepth 20000 in
theorem gX3_codesFE_X1_inRegister : GoodIn wsX3_codesFE (wsV RX3 152 RX1 yX1_inRegister wsX1_inRegister) := goodIn_app (goodIn_of _ (by decide +kernel)) ggX3_codesFE_X1_inRegister
set_option maxRecDepth 20000 in
theorem ggX3_codesFE_X3_pushedRegister : GoodIn wsX3_codesFE wsX3_pushedRegister := goodIn_r _ [153, 4, 116, 117, 118, 29, 119, 31, 154, 155, 156, 157, 158, 159, 160, 161, 174, 175, 176] (by decide +kernel) (by decide +kernel)
set_option maxRecDepth 20000 in
theorem gX3_codesFE_X3_pushedRegister : GoodIn wsX3_codesFE (wsV RX3 214 RX3 yX3_pushedRegister wsX3_pushedRegister) := goodIn_app (goodIn_of _ (by decide +kernel)) ggX3_codesFE_X3_pushedRegister
theorem dX3_codesFE_0 : decode cX3_codesFE 0 = .ok (.aload_n 0, 1) := by decide +kernel
theorem dX3_codesFE_1 : decode cX3_codesFE 1 = .ok (.getfield 35, 3) := by decide +kernel
theorem dX3_codesFE_4 : decode cX3_codesFE 4 = .ok (.invokevirtual 188, 3) := by decide +kernel
theorem dX3_codesFE_7 : decode cX3_codesFE 7 = .ok (.istore_n 1, 1) := by decide +kernel
theorem dX3_codesFE_8 : decode cX3_codesFE 8 = .ok (.aload_n 0, 1) := by decide +kernel
theorem dX3_codesFE_9 : decode cX3_codesFE 9 = .ok (.getfield 35, 3) := by decide +kernel
theorem dX3_codesFE_12 : decode cX3_codesFE 12 = .ok (.getfield 191, 3) := by decide +kernel
theorem dX3_codesFE_15 : decode cX3_codesFE 15 = .ok (.tableswitch 149 0 5 #[37, 37, 74, 102, 118, 133], 37) := by decide +kernel
theorem dX3_codesFE_52 : decode cX3_codesFE 52 = .ok (.aload_n 0, 1) := by decide +kernel
theorem dX3_codesFE_53 : decode cX3_codesFE 53 = .ok (.aload_n 0, 1) := by decide +kernel
theorem dX3_codesFE_54 : decode cX3_codesFE 54 = .ok (.getfield 28, 3) := by decide +kernel
theorem dX3_codesFE_57 : decode cX3_codesFE 57 = .ok (.aload_n 0, 1) := by decide +kernel
theorem dX3_codesFE_58 : decode cX3_codesFE 58 = .ok (.iload_n 1, 1) := by decide +kernel
theorem dX3_codesFE_59 : decode cX3_codesFE 59 = .ok (.invokevirtual 168, 3) := by decide +kernel
theorem dX3_codesFE_62 : decode cX3_codesFE 62 = .ok (.aload_n 0, 1) := by decide +kernel
theorem dX3_codesFE_63 : decode cX3_codesFE 63 = .ok (.getfield 35, 3) := by decide +kernel
theorem dX3_codesFE_66 : decode cX3_codesFE 66 = .ok (.getfield 191, 3) := by decide +kernel
theorem dX3_codesFE_69 : decode cX3_codesFE 69 = .ok (.iconst 1, 1) := by decide +kernel
theorem dX3_codesFE_70 : decode cX3_codesFE 70 = .ok (.if_icmp .ne 7, 3) := by decide +kernel
theorem dX3_codesFE_73 : decode cX3_codesFE 73 = .ok (.iconst 1, 1) := by decide +kernel
theorem dX3_codesFE_74 : decode cX3_codesFE 74 = .ok (.goto 4, 3) := by decide +kernel
theorem dX3_codesFE_77 : decode cX3_codesFE 77 = .ok (.iconst 0, 1) := by decide +kernel
theorem dX3_codesFE_78 : decode cX3_codesFE 78 = .ok (.iload_n 1, 1) := by decide +kernel
theorem dX3_codesFE_79 : decode cX3_codesFE 79 = .ok (.invokevirtual 210, 3) := by decide +kernel
theorem dX3_codesFE_82 : decode cX3_codesFE 82 = .ok (.iload_n 1, 1) := by decide +kernel
theorem dX3_codesFE_83 : decode cX3_codesFE 83 = .ok (.invokevirtual 176, 3) := by decide +kernel
theorem dX3_codesFE_86 : decode cX3_codesFE 86 = .ok (.goto 111, 3) := by decide +kernel
theorem dX3_codesFE_89 : decode cX3_codesFE 89 = .ok (.aload_n 0, 1) := by decide +kernel
theorem dX3_codesFE_90 : decode cX3_codesFE 90 = .ok (.iconst 1, 1) := by decide +kernel
theorem dX3_codesFE_91 : decode cX3_codesFE 91 = .ok (.invokevirtual 168, 3) := by decide +kernel
theorem dX3_codesFE_94 : decode cX3_codesFE 94 = .ok (.istore_n 2, 1) := by decide +kernel
theorem dX3_codesFE_95 : decode cX3_codesFE 95 = .ok (.aload_n 0, 1) := by decide +kernel
theorem dX3_codesFE_96 : decode cX3_codesFE 96 = .ok (.aload_n 0, 1) := by decide +kernel
theorem dX3_codesFE_97 : decode cX3_codesFE 97 = .ok (.getfield 21, 3) := by decide +kernel
theorem dX3_codesFE_100 : decode cX3_codesFE 100 = .ok (.getfield 121, 3) := by decide +kernel
theorem dX3_codesFE_103 : decode cX3_codesFE 103 = .ok (.invokevirtual 110, 3) := by decide +kernel
theorem dX3_codesFE_106 : decode cX3_codesFE 106 = .ok (.aload_n 0, 1) := by decide +kernel
theorem dX3_codesFE_107 : decode cX3_codesFE 107 = .ok (.getfield 21, 3) := by decide +kernel
theorem dX3_codesFE_110 : decode cX3_codesFE 110 = .ok (.iload_n 2, 1) := by decide +kernel
theorem dX3_codesFE_111 : decode cX3_codesFE 111 = .ok (.invokevirtual 128, 3) := by decide +kernel
theorem dX3_codesFE_114 : decode cX3_codesFE 114 = .ok (.goto 83, 3) := by decide +kernel
theorem dX3_codesFE_117 : decode cX3_codesFE 117 = .ok (.aload_n 0, 1) := by decide +kernel
theorem dX3_codesFE_118 : decode cX3_codesFE 118 = .ok (.aload_n 0, 1) := by decide +kernel
theorem dX3_codesFE_119 : decode cX3_codesFE 119 = .ok (.iconst 1, 1) := by decide +kernel
theorem dX3_codesFE_120 : decode cX3_codesFE 120 = .ok (.invokevirtual 168, 3) := by decide +kernel
theorem dX3_codesFE_123 : decode cX3_codesFE 123 = .ok (.aload_n 0, 1) := by decide +kernel
theorem dX3_codesFE_124 : decode cX3_codesFE 124 = .ok (.invokevirtual 276, 3) := by decide +kernel
theorem dX3_codesFE_127 : decode cX3_codesFE 127 = .ok (.invokevirtual 224, 3) := by decide +kernel
theorem dX3_codesFE_130 : decode cX3_codesFE 130 = .ok (.goto 67, 3) := by decide +kernel
theorem dX3_codesFE_133 : decode cX3_codesFE 133 = .ok (.aload_n 0, 1) := by decide +kernel
theorem dX3_codesFE_134 : decode cX3_codesFE 134 = .ok (.getfield 21, 3) := by decide +kernel
theorem dX3_codesFE_137 : decode cX3_codesFE 137 = .ok (.aload_n 0, 1) := by decide +kernel
theorem dX3_codesFE_138 : decode cX3_codesFE 138 = .ok (.iconst 1, 1) := by decide +kernel
theorem dX3_codesFE_139 : decode cX3_codesFE 139 = .ok (.invokevirtual 168, 3) := by decide +kernel
theorem dX3_codesFE_142 : decode cX3_codesFE 142 = .ok (.invokevirtual 128, 3) := by decide +kernel
theorem dX3_codesFE_145 : decode cX3_codesFE 145 = .ok (.goto 52, 3) := by decide +kernel
theorem dX3_codesFE_148 : decode cX3_codesFE 148 = .ok (.aload_n 0, 1) := by decide +kernel
theorem dX3_codesFE_149 : decode cX3_codesFE 149 = .ok (.aload_n 0, 1) := by decide +kernel
theorem dX3_codesFE_150 : decode cX3_codesFE 150 = .ok (.iconst 1, 1) := by decide +kernel
theorem dX3_codesFE_151 : decode cX3_codesFE 151 = .ok (.invokevirtual 168, 3) := by decide +kernel
theorem dX3_codesFE_154 : decode cX3_codesFE 154 = .ok (.aload_n 0, 1) := by decide +kernel
theorem dX3_codesFE_155 : decode cX3_codesFE 155 = .ok (.invokevirtual 276, 3) := by decide +kernel
theorem dX3_codesFE_158 : decode cX3_codesFE 158 = .ok (.invokevirtual 185, 3) := by decide +kernel
theorem dX3_codesFE_161 : decode cX3_codesFE 161 = .ok (.goto 36, 3) := by decide +kernel
theorem dX3_codesFE_164 : decode cX3_codesFE 164 = .ok (.aload_n 0, 1) := by decide +kernel
theorem dX3_codesFE_165 : decode cX3_codesFE 165 = .ok (.aload_n 0, 1) := by decide +kernel
theorem dX3_codesFE_166 : decode cX3_codesFE 166 = .ok (.getfield 35, 3) := by decide +kernel
theorem dX3_codesFE_169 : decode cX3_codesFE 169 = .ok (.invokevirtual 152, 3) := by decide +kernel
theorem dX3_codesFE_172 : decode cX3_codesFE 172 = .ok (.ifCond .eq 17, 3) := by decide +kernel
theorem dX3_codesFE_175 : decode cX3_codesFE 175 = .ok (.aload_n 0, 1) := by decide +kernel
theorem dX3_codesFE_176 : decode cX3_codesFE 176 = .ok (.aload_n 0, 1) := by decide +kernel
theorem dX3_codesFE_177 : decode cX3_codesFE 177 = .ok (.getfield 35, 3) := by decide +kernel
theorem dX3_codesFE_180 : decode cX3_codesFE 180 = .ok (.getfield 155, 3) := by decide +kernel
theorem dX3_codesFE_183 : decode cX3_codesFE 183 = .ok (.invokevirtual 214, 3) := by decide +kernel
theorem dX3_codesFE_186 : decode cX3_codesFE 186 = .ok (.goto 8, 3) := by decide +kernel
theorem dX3_codesFE_189 : decode cX3_codesFE 189 = .ok (.aload_n 0, 1) := by decide +kernel
theorem dX3_codesFE_190 : decode cX3_codesFE 190 = .ok (.iconst 1, 1) := by decide +kernel
theorem dX3_codesFE_191 : decode cX3_codesFE 191 = .ok (.invokevirtual 168, 3) := by decide +kernel
theorem dX3_codesFE_194 : decode cX3_codesFE 194 = .ok (.invokevirtual 110, 3) := by decide +kernel
theorem dX3_codesFE_197 : decode cX3_codesFE 197 = .ok (.return_, 1) := by decide +kernel
theorem dX4_init_0 : decode cX4_init 0 = .ok (.aload_n 0, 1) := by decide +kernel
theorem dX4_init_1 : decode cX4_init 1 = .ok (.invokespecial 1, 3) := by decide +kernel
theorem dX4_init_4 : decode cX4_init 4 = .ok (.aload_n 0, 1) := by decide +kernel
theorem dX4_init_5 : decode cX4_init 5 = .ok (.bipush 8, 2) := by decide +kernel
theorem dX4_init_7 : decode cX4_init 7 = .ok (.newarray .int, 2) := by decide +kernel
theorem dX4_init_9 : decode cX4_init 9 = .ok (.putfield 7, 3) := by decide +kernel
theorem dX4_init_12 : decode cX4_init 12 = .ok (.aload_n 0, 1) := by decide +kernel
theorem dX4_init_13 : decode cX4_init 13 = .ok (.iconst 4, 1) := by decide +kernel
theorem dX4_init_14 : decode cX4_init 14 = .ok (.newarray .int, 2) := by decide +kernel
theorem dX4_init_16 : decode cX4_init 16 = .ok (.putfield 13, 3) := by decide +kernel
theorem dX4_init_19 : decode cX4_init 19 = .ok (.return_, 1) := by decide +kernel
theorem dX4_word_0 : decode cX4_word 0 = .ok (.aload_n 0, 1) := by decide +kernel
theorem dX4_word_1 : decode cX4_word 1 = .ok (.getfield 7, 3) := by decide +kernel
theorem dX4_word_4 : decode cX4_word 4 = .ok (.iload_n 1, 1) := by decide +kernel
theorem dX4_word_5 : decode cX4_word 5 = .ok (.bipush 7, 2) := by decide +kernel
theorem dX4_word_7 : decode cX4_word 7 = .ok (.iand, 1) := by decide +kernel
theorem dX4_word_8 : decode cX4_word 8 = .ok (.iaload, 1) := by decide +kernel
theorem dX4_word_9 : decode cX4_word 9 = .ok (.ireturn, 1) := by decide +kernel
theorem dX4_setWord_0 : decode cX4_setWord 0 = .ok (.aload_n 0, 1) := by decide +kernel
theorem dX4_setWord_1 : decode cX4_setWord 1 = .ok (.getfield 7, 3) := by decide +kernel
theorem dX4_setWord_4 : decode cX4_setWord 4 = .ok (.iload_n 1, 1) := by decide +kernel
theorem dX4_setWord_5 : decode cX4_setWord 5 = .ok (.bipush 7, 2) := by decide +kernel
theorem dX4_setWord_7 : decode cX4_setWord 7 = .ok (.iand, 1) := by decide +kernel
theorem dX4_setWord_8 : decode cX4_setWord 8 = .ok (.iload_n 2, 1) := by decide +kernel
theorem dX4_setWord_9 : decode cX4_setWord 9 = .ok (.ldc 16, 2) := by decide +kernel
theorem dX4_setWord_11 : decode cX4_setWord 11 = .ok (.iand, 1) := by decide +kernel
theorem dX4_setWord_12 : decode cX4_setWord 12 = .ok (.iastore, 1) := by decide +kernel
theorem dX4_setWord_13 : decode cX4_setWord 13 = .ok (.return_, 1) := by decide +kernel
theorem dX4_segment_0 : decode cX4_segment 0 = .ok (.aload_n 0, 1) := by decide +kernel
theorem dX4_segment_1 : decode cX4_segment 1 = .ok (.getfield 13, 3) := by decide +kernel
theorem dX4_segment_4 : decode cX4_segment 4 = .ok (.iload_n 1, 1) := by decide +kernel
theorem dX4_segment_5 : decode cX4_segment 5 = .ok (.iconst 3, 1) := by decide +kernel
theorem dX4_segment_6 : decode cX4_segment 6 = .ok (.iand, 1) := by decide +kernel
theorem dX4_segment_7 : decode cX4_segment 7 = .ok (.iaload, 1) := by decide +kernel
theorem dX4_segment_8 : decode cX4_segment 8 = .ok (.ireturn, 1) := by decide +kernel
theorem dX4_setSegment_0 : decode cX4_setSegment 0 = .ok (.aload_n 0, 1) := by decide +kernel
theorem dX4_setSegment_1 : decode cX4_setSegment 1 = .ok (.getfield 13, 3) := by decide +kernel
theorem dX4_setSegment_4 : decode cX4_setSegment 4 = .ok (.iload_n 1, 1) := by decide +kernel
theorem dX4_setSegment_5 : decode cX4_setSegment 5 = .ok (.iconst 3, 1) := by decide +kernel
theorem dX4_setSegment_6 : decode cX4_setSegment 6 = .ok (.iand, 1) := by decide +kernel
theorem dX4_setSegment_7 : decode cX4_setSegment 7 = .ok (.iload_n 2, 1) := by decide +kernel
theorem dX4_setSegment_8 : decode cX4_setSegment 8 = .ok (.ldc 16, 2) := by decide +kernel
theorem dX4_setSegment_10 : decode cX4_setSegment 10 = .ok (.iand, 1) := by decide +kernel
theorem dX4_setSegment_11 : decode cX4_setSegment 11 = .ok (.iastore, 1) := by decide +kernel
theorem dX4_setSegment_12 : decode cX4_setSegment 12 = .ok (.return_, 1) := by decide +kernel
theorem dX4_moveTo_0 : decode cX4_moveTo 0 = .ok (.aload_n 0, 1) := by decide +kernel
theorem dX4_moveTo_1 : decode cX4_moveTo 1 = .ok (.iload_n 1, 1) := by decide +kernel
theorem dX4_moveTo_2 : decode cX4_moveTo 2 = .ok (.ldc 16, 2) := by decide +kernel
theorem dX4_moveTo_4 : decode cX4_moveTo 4 = .ok (.iand, 1) := by decide +kernel
theorem dX4_moveTo_5 : decode cX4_moveTo 5 = .ok (.putfield 17, 3) := by decide +kernel
theorem dX4_moveTo_8 : decode cX4_moveTo 8 = .ok (.return_, 1) := by decide +kernel
theorem dX4_value_0 : decode cX4_value 0 = .ok (.iload_n 2, 1) := by decide +kernel
theorem dX4_value_1 : decode cX4_value 1 = .ok (.ifCond .eq 13, 3) := by decide +kernel
theorem dX4_value_4 : decode cX4_value 4 = .ok (.aload_n 0, 1) := by decide +kernel
theorem dX4_value_5 : decode cX4_value 5 = .ok (.getfield 7, 3) := by decide +kernel
theorem dX4_value_8 : decode cX4_value 8 = .ok (.iload_n 1, 1) := by decide +kernel
theorem dX4_value_9 : decode cX4_value 9 = .ok (.bipush 7, 2) := by decide +kernel
theorem dX4_value_11 : decode cX4_value 11 = .ok (.iand, 1) := by decide +kernel
theorem dX4_value_12 : decode cX4_value 12 = .ok (.iaload, 1) := by decide +kernel
theorem dX4_value_13 : decode cX4_value 13 = .ok (.ireturn, 1) := by decide +kernel
theorem dX4_value_14 : decode cX4_value 14 = .ok (.aload_n 0, 1) := by decide +kernel
theorem dX4_value_15 : decode cX4_value 15 = .ok (.getfield 7, 3) := by decide +kernel
theorem dX4_value_18 : decode cX4_value 18 = .ok (.iload_n 1, 1) := by decide +kernel
theorem dX4_value_19 : decode cX4_value 19 = .ok (.iconst 3, 1) := by decide +kernel
theorem dX4_value_20 : decode cX4_value 20 = .ok (.iand, 1) := by decide +kernel
theorem dX4_value_21 : decode cX4_value 21 = .ok (.iaload, 1) := by decide +kernel
theorem dX4_value_22 : decode cX4_value 22 = .ok (.iload_n 1, 1) := by decide +kernel
theorem dX4_value_23 : decode cX4_value 23 = .ok (.iconst 4, 1) := by decide +kernel
theorem dX4_value_24 : decode cX4_value 24 = .ok (.iand, 1) := by decide +kernel
theorem dX4_value_25 : decode cX4_value 25 = .ok (.ifCond .ne 7, 3) := by decide +kernel
theorem dX4_value_28 : decode cX4_value 28 = .ok (.iconst 0, 1) := by decide +kernel
theorem dX4_value_29 : decode cX4_value 29 = .ok (.goto 5, 3) := by decide +kernel
theorem dX4_value_32 : decode cX4_value 32 = .ok (.bipush 8, 2) := by decide +kernel
theorem dX4_value_34 : decode cX4_value 34 = .ok (.ishr, 1) := by decide +kernel
theorem dX4_value_35 : decode cX4_value 35 = .ok (.sipush 255, 3) := by decide +kernel
theorem dX4_value_38 : decode cX4_value 38 = .ok (.iand, 1) := by decide +kernel
theorem dX4_value_39 : decode cX4_value 39 = .ok (.ireturn, 1) := by decide +kernel
theorem dX4_give_0 : decode cX4_give 0 = .ok (.iload_n 3, 1) := by decide +kernel
theorem dX4_give_1 : decode cX4_give 1 = .ok (.ifCond .eq 19, 3) := by decide +kernel
theorem dX4_give_4 : decode cX4_give 4 = .ok (.aload_n 0, 1) := by decide +kernel
theorem dX4_give_5 : decode cX4_give 5 = .ok (.getfield 7, 3) := by decide +kernel
theorem dX4_give_8 : decode cX4_give 8 = .ok (.iload_n 1, 1) := by decide +kernel
theorem dX4_give_9 : decode cX4_give 9 = .ok (.bipush 7, 2) := by decide +kernel
theorem dX4_give_11 : decode cX4_give 11 = .ok (.iand, 1) := by decide +kernel
theorem dX4_give_12 : decode cX4_give 12 = .ok (.iload_n 2, 1) := by decide +kernel
theorem dX4_give_13 : decode cX4_give 13 = .ok (.ldc 16, 2) := by decide +kernel
theorem dX4_give_15 : decode cX4_give 15 = .ok (.iand, 1) := by decide +kernel
theorem dX4_give_16 : decode cX4_give 16 = .ok (.iastore, 1) := by decide +kernel
theorem dX4_give_17 : decode cX4_give 17 = .ok (.goto 66, 3) := by decide +kernel
theorem dX4_give_20 : decode cX4_give 20 = .ok (.iload_n 1, 1) := by decide +kernel
theorem dX4_give_21 : decode cX4_give 21 = .ok (.iconst 4, 1) := by decide +kernel
theorem dX4_give_22 : decode cX4_give 22 = .ok (.iand, 1) := by decide +kernel
theorem dX4_give_23 : decode cX4_give 23 = .ok (.ifCond .ne 31, 3) := by decide +kernel
theorem dX4_give_26 : decode cX4_give 26 = .ok (.aload_n 0, 1) := by decide +kernel
theorem dX4_give_27 : decode cX4_give 27 = .ok (.getfield 7, 3) := by decide +kernel
theorem dX4_give_30 : decode cX4_give 30 = .ok (.iload_n 1, 1) := by decide +kernel
theorem dX4_give_31 : decode cX4_give 31 = .ok (.iconst 3, 1) := by decide +kernel
theorem dX4_give_32 : decode cX4_give 32 = .ok (.iand, 1) := by decide +kernel
theorem dX4_give_33 : decode cX4_give 33 = .ok (.aload_n 0, 1) := by decide +kernel
theorem dX4_give_34 : decode cX4_give 34 = .ok (.getfield 7, 3) := by decide +kernel
theorem dX4_give_37 : decode cX4_give 37 = .ok (.iload_n 1, 1) := by decide +kernel
theorem dX4_give_38 : decode cX4_give 38 = .ok (.iconst 3, 1) := by decide +kernel
theorem dX4_give_39 : decode cX4_give 39 = .ok (.iand, 1) := by decide +kernel
theorem dX4_give_40 : decode cX4_give 40 = .ok (.iaload, 1) := by decide +kernel
theorem dX4_give_41 : decode cX4_give 41 = .ok (.ldc 21, 2) := by decide +kernel
theorem dX4_give_43 : decode cX4_give 43 = .ok (.iand, 1) := by decide +kernel
theorem dX4_give_44 : decode cX4_give 44 = .ok (.iload_n 2, 1) := by decide +kernel
theorem dX4_give_45 : decode cX4_give 45 = .ok (.sipush 255, 3) := by decide +kernel
theorem dX4_give_48 : decode cX4_give 48 = .ok (.iand, 1) := by decide +kernel
theorem dX4_give_49 : decode cX4_give 49 = .ok (.ior, 1) := by decide +kernel
theorem dX4_give_50 : decode cX4_give 50 = .ok (.iastore, 1) := by decide +kernel
theorem dX4_give_51 : decode cX4_give 51 = .ok (.goto 32, 3) := by decide +kernel
theorem dX4_give_54 : decode cX4_give 54 = .ok (.aload_n 0, 1) := by decide +kernel
theorem dX4_give_55 : decode cX4_give 55 = .ok (.getfield 7, 3) := by decide +kernel
theorem dX4_give_58 : decode cX4_give 58 = .ok (.iload_n 1, 1) := by decide +kernel
theorem dX4_give_59 : decode cX4_give 59 = .ok (.iconst 3, 1) := by decide +kernel
theorem dX4_give_60 : decode cX4_give 60 = .ok (.iand, 1) := by decide +kernel
theorem dX4_give_61 : decode cX4_give 61 = .ok (.aload_n 0, 1) := by decide +kernel
theorem dX4_give_62 : decode cX4_give 62 = .ok (.getfield 7, 3) := by decide +kernel
theorem dX4_give_65 : decode cX4_give 65 = .ok (.iload_n 1, 1) := by decide +kernel
theorem dX4_give_66 : decode cX4_give 66 = .ok (.iconst 3, 1) := by decide +kernel
theorem dX4_give_67 : decode cX4_give 67 = .ok (.iand, 1) := by decide +kernel
theorem dX4_give_68 : decode cX4_give 68 = .ok (.iaload, 1) := by decide +kernel
theorem dX4_give_69 : decode cX4_give 69 = .ok (.sipush 255, 3) := by decide +kernel
theorem dX4_give_72 : decode cX4_give 72 = .ok (.iand, 1) := by decide +kernel
theorem dX4_give_73 : decode cX4_give 73 = .ok (.iload_n 2, 1) := by decide +kernel
theorem dX4_give_74 : decode cX4_give 74 = .ok (.sipush 255, 3) := by decide +kernel
theorem dX4_give_77 : decode cX4_give 77 = .ok (.iand, 1) := by decide +kernel
theorem dX4_give_78 : decode cX4_give 78 = .ok (.bipush 8, 2) := by decide +kernel
theorem dX4_give_80 : decode cX4_give 80 = .ok (.ishl, 1) := by decide +kernel
theorem dX4_give_81 : decode cX4_give 81 = .ok (.ior, 1) := by decide +kernel
theorem dX4_give_82 : decode cX4_give 82 = .ok (.iastore, 1) := by decide +kernel
theorem dX4_give_83 : decode cX4_give 83 = .ok (.return_, 1) := by decide +kernel
set_option maxRecDepth 20000 in
theorem ggX5_init_X3_init : GoodIn wsX5_init wsX3_init := goodIn_r _ [10, 11, 2, 3, 12, 13, 14, 15, 16, 17, 18, 19, 20, 21, 22, 23, 24, 25, 26, 27, 28, 29, 30, 31, 32, 33, 34, 35, 36, 37, 38, 39, 40, 41, 42, 43, 44, 45, 46, 47, 48, 62, 63, 64, 65, 49, 50, 51, 52, 53, 54, 55, 56, 66, 67, 68, 69, 70, 71, 72, 73, 74, 75, 76, 77, 78, 79, 80, 81] (by decide +kernel) (by decide +kernel)
set_option maxRecDepth 20000 in
theorem gX5_init_X3_init_n9 : GoodIn wsX5_init (wsX3_init) := ggX5_init_X3_init
theorem dX5_init_0 : decode cX5_init 0 = .ok (.aload_n 0, 1) := by decide +kernel
theorem dX5_init_1 : decode cX5_init 1 = .ok (.invokespecial 1, 3) := by decide +kernel
theorem dX5_init_4 : decode cX5_init 4 = .ok (.aload_n 0, 1) := by decide +kernel
theorem dX5_init_5 : decode cX5_init 5 = .ok (.new 7, 3) := by decide +kernel
theorem dX5_init_8 : decode cX5_init 8 = .ok (.dup, 1) := by decide +kernel
theorem dX5_init_9 : decode cX5_init 9 = .ok (.invokespecial 9, 3) := by decide +kernel
theorem dX5_init_12 : decode cX5_init 12 = .ok (.putfield 10, 3) := by decide +kernel
theorem dX5_init_15 : decode cX5_init 15 = .ok (.aload_n 0, 1) := by decide +kernel
theorem dX5_init_16 : decode cX5_init 16 = .ok (.iconst (-1), 1) := by decide +kernel
theorem dX5_init_17 : decode cX5_init 17 = .ok (.putfield 16, 3) := by decide +kernel
theorem dX5_init_20 : decode cX5_init 20 = .ok (.return_, 1) := by decide +kernel
set_option maxRecDepth 20000 in
theorem ggX5_set_X0_keep : GoodIn wsX5_set wsX0_keep := goodIn_r _ [10, 11, 42] (by decide +kernel) (by decide +kernel)
set_option maxRecDepth 20000 in
theorem gX5_set_X0_keep : GoodIn wsX5_set (wsV RX5 31 RX0 yX0_keep wsX0_keep) := goodIn_app (goodIn_of _ (by decide +kernel)) ggX5_set_X0_keep
set_option maxRecDepth 20000 in
theorem ggX5_set_X4_moveTo : GoodIn wsX5_set wsX4_moveTo := goodIn_r _ [16, 17, 18, 43, 44, 45] (by decide +kernel) (by decide +kernel)
set_option maxRecDepth 20000 in
theorem gX5_set_X4_moveTo : GoodIn wsX5_set (wsV RX5 41 RX4 yX4_moveTo wsX4_moveTo) := goodIn_app (goodIn_of _ (by decide +kernel)) ggX5_set_X4_moveTo
set_option maxRecDepth 20000 in
theorem ggX5_set_X4_setSegment : GoodIn wsX5_set wsX4_setSegment := goodIn_r _ [22, 23, 17, 43, 44, 45] (by decide +kernel) (by decide +kernel)
set_option maxRecDepth 20000 in
theorem gX5_set_X4_setSegment : GoodIn wsX5_set (wsV RX5 46 RX4 yX4_setSegment wsX4_setSegment) := goodIn_app (goodIn_of _ (by decide +kernel)) ggX5_set_X4_setSegment
set_option maxRecDepth 20000 in
theorem ggX5_set_X4_setWord : GoodIn wsX5_set wsX4_setWord := goodIn_r _ [27, 28, 17, 43, 44, 45] (by decide +kernel) (by decide +kernel)
set_option maxRecDepth 20000 in
theorem gX5_set_X4_setWord : GoodIn wsX5_set (wsV RX5 50 RX4 yX4_setWord wsX4_setWord) := goodIn_app (goodIn_of _ (by decide +kernel)) ggX5_set_X4_setWord
theorem dX5_set_0 : decode cX5_set 0 = .ok (.iload_n 1, 1) := by decide +kernel
theorem dX5_set_1 : decode cX5_set 1 = .ok (.ifCond .lt 9, 3) := by decide +kernel
theorem dX5_set_4 : decode cX5_set 4 = .ok (.iload_n 1, 1) := by decide +kernel
theorem dX5_set_5 : decode cX5_set 5 = .ok (.bipush 13, 2) := by decide +kernel
theorem dX5_set_7 : decode cX5_set 7 = .ok (.if_icmp .le 13, 3) := by decide +kernel
theorem dX5_set_10 : decode cX5_set 10 = .ok (.new 20, 3) := by decide +kernel
theorem dX5_set_13 : decode cX5_set 13 = .ok (.dup, 1) := by decide +kernel
theorem dX5_set_14 : decode cX5_set 14 = .ok (.ldc 22, 2) := by decide +kernel
theorem dX5_set_16 : decode cX5_set 16 = .ok (.invokespecial 24, 3) := by decide +kernel
theorem dX5_set_19 : decode cX5_set 19 = .ok (.athrow, 1) := by decide +kernel
theorem dX5_set_20 : decode cX5_set 20 = .ok (.iload_n 1, 1) := by decide +kernel
theorem dX5_set_21 : decode cX5_set 21 = .ok (.bipush 13, 2) := by decide +kernel
theorem dX5_set_23 : decode cX5_set 23 = .ok (.if_icmp .ne 17, 3) := by decide +kernel
theorem dX5_set_26 : decode cX5_set 26 = .ok (.aload_n 0, 1) := by decide +kernel
theorem dX5_set_27 : decode cX5_set 27 = .ok (.getfield 10, 3) := by decide +kernel
theorem dX5_set_30 : decode cX5_set 30 = .ok (.getfield 27, 3) := by decide +kernel
theorem dX5_set_33 : decode cX5_set 33 = .ok (.iload_n 2, 1) := by decide +kernel
theorem dX5_set_34 : decode cX5_set 34 = .ok (.invokevirtual 31, 3) := by decide +kernel
theorem dX5_set_37 : decode cX5_set 37 = .ok (.goto 59, 3) := by decide +kernel
theorem dX5_set_40 : decode cX5_set 40 = .ok (.iload_n 1, 1) := by decide +kernel
theorem dX5_set_41 : decode cX5_set 41 = .ok (.bipush 12, 2) := by decide +kernel
theorem dX5_set_43 : decode cX5_set 43 = .ok (.if_icmp .ne 17, 3) := by decide +kernel
theorem dX5_set_46 : decode cX5_set 46 = .ok (.aload_n 0, 1) := by decide +kernel
theorem dX5_set_47 : decode cX5_set 47 = .ok (.getfield 10, 3) := by decide +kernel
theorem dX5_set_50 : decode cX5_set 50 = .ok (.getfield 37, 3) := by decide +kernel
theorem dX5_set_53 : decode cX5_set 53 = .ok (.iload_n 2, 1) := by decide +kernel
theorem dX5_set_54 : decode cX5_set 54 = .ok (.invokevirtual 41, 3) := by decide +kernel
theorem dX5_set_57 : decode cX5_set 57 = .ok (.goto 39, 3) := by decide +kernel
theorem dX5_set_60 : decode cX5_set 60 = .ok (.iload_n 1, 1) := by decide +kernel
theorem dX5_set_61 : decode cX5_set 61 = .ok (.bipush 8, 2) := by decide +kernel
theorem dX5_set_63 : decode cX5_set 63 = .ok (.if_icmp .lt 21, 3) := by decide +kernel
theorem dX5_set_66 : decode cX5_set 66 = .ok (.aload_n 0, 1) := by decide +kernel
theorem dX5_set_67 : decode cX5_set 67 = .ok (.getfield 10, 3) := by decide +kernel
theorem dX5_set_70 : decode cX5_set 70 = .ok (.getfield 37, 3) := by decide +kernel
theorem dX5_set_73 : decode cX5_set 73 = .ok (.iload_n 1, 1) := by decide +kernel
theorem dX5_set_74 : decode cX5_set 74 = .ok (.bipush 8, 2) := by decide +kernel
theorem dX5_set_76 : decode cX5_set 76 = .ok (.isub, 1) := by decide +kernel
theorem dX5_set_77 : decode cX5_set 77 = .ok (.iload_n 2, 1) := by decide +kernel
theorem dX5_set_78 : decode cX5_set 78 = .ok (.invokevirtual 46, 3) := by decide +kernel
theorem dX5_set_81 : decode cX5_set 81 = .ok (.goto 15, 3) := by decide +kernel
theorem dX5_set_84 : decode cX5_set 84 = .ok (.aload_n 0, 1) := by decide +kernel
theorem dX5_set_85 : decode cX5_set 85 = .ok (.getfield 10, 3) := by decide +kernel
theorem dX5_set_88 : decode cX5_set 88 = .ok (.getfield 37, 3) := by decide +kernel
theorem dX5_set_91 : decode cX5_set 91 = .ok (.iload_n 1, 1) := by decide +kernel
theorem dX5_set_92 : decode cX5_set 92 = .ok (.iload_n 2, 1) := by decide +kernel
theorem dX5_set_93 : decode cX5_set 93 = .ok (.invokevirtual 50, 3) := by decide +kernel
theorem dX5_set_96 : decode cX5_set 96 = .ok (.return_, 1) := by decide +kernel
set_option maxRecDepth 20000 in
theorem ggX5_get_X4_segment : GoodIn wsX5_get wsX4_segment := goodIn_r _ [12, 13, 33, 34, 35] (by decide +kernel) (by decide +kernel)
set_option maxRecDepth 20000 in
theorem gX5_get_X4_segment : GoodIn wsX5_get (wsV RX5 59 RX4 yX4_segment wsX4_segment) := goodIn_app (goodIn_of _ (by decide +kernel)) ggX5_get_X4_segment
set_option maxRecDepth 20000 in
theorem ggX5_get_X4_word : GoodIn wsX5_get wsX4_word := goodIn_r _ [17, 18, 33, 34, 35] (by decide +kernel) (by decide +kernel)
set_option maxRecDepth 20000 in
theorem gX5_get_X4_word : GoodIn wsX5_get (wsV RX5 63 RX4 yX4_word wsX4_word) := goodIn_app (goodIn_of _ (by decide +kernel)) ggX5_get_X4_word
theorem dX5_get_0 : decode cX5_get 0 = .ok (.iload_n 1, 1) := by decide +kernel
theorem dX5_get_1 : decode cX5_get 1 = .ok (.ifCond .lt 9, 3) := by decide +kernel
theorem dX5_get_4 : decode cX5_get 4 = .ok (.iload_n 1, 1) := by decide +kernel
theorem dX5_get_5 : decode cX5_get 5 = .ok (.bipush 13, 2) := by decide +kernel
theorem dX5_get_7 : decode cX5_get 7 = .ok (.if_icmp .le 13, 3) := by decide +kernel
theorem dX5_get_10 : decode cX5_get 10 = .ok (.new 20, 3) := by decide +kernel
theorem dX5_get_13 : decode cX5_get 13 = .ok (.dup, 1) := by decide +kernel
theorem dX5_get_14 : decode cX5_get 14 = .ok (.ldc 22, 2) := by decide +kernel
theorem dX5_get_16 : decode cX5_get 16 = .ok (.invokespecial 24, 3) := by decide +kernel
theorem dX5_get_19 : decode cX5_get 19 = .ok (.athrow, 1) := by decide +kernel
theorem dX5_get_20 : decode cX5_get 20 = .ok (.iload_n 1, 1) := by decide +kernel
theorem dX5_get_21 : decode cX5_get 21 = .ok (.bipush 13, 2) := by decide +kernel
theorem dX5_get_23 : decode cX5_get 23 = .ok (.if_icmp .ne 14, 3) := by decide +kernel
theorem dX5_get_26 : decode cX5_get 26 = .ok (.aload_n 0, 1) := by decide +kernel
theorem dX5_get_27 : decode cX5_get 27 = .ok (.getfield 10, 3) := by decide +kernel
theorem dX5_get_30 : decode cX5_get 30 = .ok (.getfield 27, 3) := by decide +kernel
theorem dX5_get_33 : decode cX5_get 33 = .ok (.getfield 53, 3) := by decide +kernel
theorem dX5_get_36 : decode cX5_get 36 = .ok (.ireturn, 1) := by decide +kernel
theorem dX5_get_37 : decode cX5_get 37 = .ok (.iload_n 1, 1) := by decide +kernel
theorem dX5_get_38 : decode cX5_get 38 = .ok (.bipush 12, 2) := by decide +kernel
theorem dX5_get_40 : decode cX5_get 40 = .ok (.if_icmp .ne 14, 3) := by decide +kernel
theorem dX5_get_43 : decode cX5_get 43 = .ok (.aload_n 0, 1) := by decide +kernel
theorem dX5_get_44 : decode cX5_get 44 = .ok (.getfield 10, 3) := by decide +kernel
theorem dX5_get_47 : decode cX5_get 47 = .ok (.getfield 37, 3) := by decide +kernel
theorem dX5_get_50 : decode cX5_get 50 = .ok (.getfield 56, 3) := by decide +kernel
theorem dX5_get_53 : decode cX5_get 53 = .ok (.ireturn, 1) := by decide +kernel
theorem dX5_get_54 : decode cX5_get 54 = .ok (.iload_n 1, 1) := by decide +kernel
theorem dX5_get_55 : decode cX5_get 55 = .ok (.bipush 8, 2) := by decide +kernel
theorem dX5_get_57 : decode cX5_get 57 = .ok (.if_icmp .lt 20, 3) := by decide +kernel
theorem dX5_get_60 : decode cX5_get 60 = .ok (.aload_n 0, 1) := by decide +kernel
theorem dX5_get_61 : decode cX5_get 61 = .ok (.getfield 10, 3) := by decide +kernel
theorem dX5_get_64 : decode cX5_get 64 = .ok (.getfield 37, 3) := by decide +kernel
theorem dX5_get_67 : decode cX5_get 67 = .ok (.iload_n 1, 1) := by decide +kernel
theorem dX5_get_68 : decode cX5_get 68 = .ok (.bipush 8, 2) := by decide +kernel
theorem dX5_get_70 : decode cX5_get 70 = .ok (.isub, 1) := by decide +kernel
theorem dX5_get_71 : decode cX5_get 71 = .ok (.invokevirtual 59, 3) := by decide +kernel
theorem dX5_get_74 : decode cX5_get 74 = .ok (.goto 14, 3) := by decide +kernel
theorem dX5_get_77 : decode cX5_get 77 = .ok (.aload_n 0, 1) := by decide +kernel
theorem dX5_get_78 : decode cX5_get 78 = .ok (.getfield 10, 3) := by decide +kernel
theorem dX5_get_81 : decode cX5_get 81 = .ok (.getfield 37, 3) := by decide +kernel
theorem dX5_get_84 : decode cX5_get 84 = .ok (.iload_n 1, 1) := by decide +kernel
theorem dX5_get_85 : decode cX5_get 85 = .ok (.invokevirtual 63, 3) := by decide +kernel
theorem dX5_get_88 : decode cX5_get 88 = .ok (.ireturn, 1) := by decide +kernel
set_option maxRecDepth 20000 in
theorem ggX5_write_X2_put : GoodIn wsX5_write wsX2_put := goodIn_r _ [10, 11, 12, 13, 14, 15, 29, 30, 31, 32] (by decide +kernel) (by decide +kernel)
set_option maxRecDepth 20000 in
theorem gX5_write_X2_put : GoodIn wsX5_write (wsV RX5 73 RX2 yX2_put wsX2_put) := goodIn_app (goodIn_of _ (by decide +kernel)) ggX5_write_X2_put
theorem dX5_write_0 : decode cX5_write 0 = .ok (.iload_n 1, 1) := by decide +kernel
theorem dX5_write_1 : decode cX5_write 1 = .ok (.ifCond .lt 9, 3) := by decide +kernel
theorem dX5_write_4 : decode cX5_write 4 = .ok (.iload_n 1, 1) := by decide +kernel
theorem dX5_write_5 : decode cX5_write 5 = .ok (.ldc 66, 2) := by decide +kernel
theorem dX5_write_7 : decode cX5_write 7 = .ok (.if_icmp .le 13, 3) := by decide +kernel
theorem dX5_write_10 : decode cX5_write 10 = .ok (.new 20, 3) := by decide +kernel
theorem dX5_write_13 : decode cX5_write 13 = .ok (.dup, 1) := by decide +kernel
theorem dX5_write_14 : decode cX5_write 14 = .ok (.ldc 67, 2) := by decide +kernel
theorem dX5_write_16 : decode cX5_write 16 = .ok (.invokespecial 24, 3) := by decide +kernel
theorem dX5_write_19 : decode cX5_write 19 = .ok (.athrow, 1) := by decide +kernel
theorem dX5_write_20 : decode cX5_write 20 = .ok (.iconst 0, 1) := by decide +kernel
theorem dX5_write_21 : decode cX5_write 21 = .ok (.istore_n 3, 1) := by decide +kernel
theorem dX5_write_22 : decode cX5_write 22 = .ok (.iload_n 3, 1) := by decide +kernel
theorem dX5_write_23 : decode cX5_write 23 = .ok (.iconst 4, 1) := by decide +kernel
theorem dX5_write_24 : decode cX5_write 24 = .ok (.if_icmp .ge 31, 3) := by decide +kernel
theorem dX5_write_27 : decode cX5_write 27 = .ok (.aload_n 0, 1) := by decide +kernel
theorem dX5_write_28 : decode cX5_write 28 = .ok (.getfield 10, 3) := by decide +kernel
theorem dX5_write_31 : decode cX5_write 31 = .ok (.getfield 69, 3) := by decide +kernel
theorem dX5_write_34 : decode cX5_write 34 = .ok (.iload_n 1, 1) := by decide +kernel
theorem dX5_write_35 : decode cX5_write 35 = .ok (.iload_n 3, 1) := by decide +kernel
theorem dX5_write_36 : decode cX5_write 36 = .ok (.iadd, 1) := by decide +kernel
theorem dX5_write_37 : decode cX5_write 37 = .ok (.iload_n 2, 1) := by decide +kernel
theorem dX5_write_38 : decode cX5_write 38 = .ok (.bipush 24, 2) := by decide +kernel
theorem dX5_write_40 : decode cX5_write 40 = .ok (.bipush 8, 2) := by decide +kernel
theorem dX5_write_42 : decode cX5_write 42 = .ok (.iload_n 3, 1) := by decide +kernel
theorem dX5_write_43 : decode cX5_write 43 = .ok (.imul, 1) := by decide +kernel
theorem dX5_write_44 : decode cX5_write 44 = .ok (.isub, 1) := by decide +kernel
theorem dX5_write_45 : decode cX5_write 45 = .ok (.ishr, 1) := by decide +kernel
theorem dX5_write_46 : decode cX5_write 46 = .ok (.invokevirtual 73, 3) := by decide +kernel
theorem dX5_write_49 : decode cX5_write 49 = .ok (.iinc 3 1, 3) := by decide +kernel
theorem dX5_write_52 : decode cX5_write 52 = .ok (.goto (-30), 3) := by decide +kernel
theorem dX5_write_55 : decode cX5_write 55 = .ok (.return_, 1) := by decide +kernel
set_option maxRecDepth 20000 in
theorem ggX5_byteAt_X2_at : GoodIn wsX5_byteAt wsX2_at := goodIn_r _ [10, 11, 12, 13, 27, 28, 29, 30] (by decide +kernel) (by decide +kernel)
set_option maxRecDepth 20000 in
theorem gX5_byteAt_X2_at : GoodIn wsX5_byteAt (wsV RX5 81 RX2 yX2_at wsX2_at) := goodIn_app (goodIn_of _ (by decide +kernel)) ggX5_byteAt_X2_at
theorem dX5_byteAt_0 : decode cX5_byteAt 0 = .ok (.iload_n 1, 1) := by decide +kernel
theorem dX5_byteAt_1 : decode cX5_byteAt 1 = .ok (.ifCond .lt 9, 3) := by decide +kernel
theorem dX5_byteAt_4 : decode cX5_byteAt 4 = .ok (.iload_n 1, 1) := by decide +kernel
theorem dX5_byteAt_5 : decode cX5_byteAt 5 = .ok (.ldc 78, 2) := by decide +kernel
theorem dX5_byteAt_7 : decode cX5_byteAt 7 = .ok (.if_icmp .le 13, 3) := by decide +kernel
theorem dX5_byteAt_10 : decode cX5_byteAt 10 = .ok (.new 20, 3) := by decide +kernel
theorem dX5_byteAt_13 : decode cX5_byteAt 13 = .ok (.dup, 1) := by decide +kernel
theorem dX5_byteAt_14 : decode cX5_byteAt 14 = .ok (.ldc 79, 2) := by decide +kernel
theorem dX5_byteAt_16 : decode cX5_byteAt 16 = .ok (.invokespecial 24, 3) := by decide +kernel
theorem dX5_byteAt_19 : decode cX5_byteAt 19 = .ok (.athrow, 1) := by decide +kernel
theorem dX5_byteAt_20 : decode cX5_byteAt 20 = .ok (.aload_n 0, 1) := by decide +kernel
theorem dX5_byteAt_21 : decode cX5_byteAt 21 = .ok (.getfield 10, 3) := by decide +kernel
theorem dX5_byteAt_24 : decode cX5_byteAt 24 = .ok (.getfield 69, 3) := by decide +kernel
theorem dX5_byteAt_27 : decode cX5_byteAt 27 = .ok (.iload_n 1, 1) := by decide +kernel
theorem dX5_byteAt_28 : decode cX5_byteAt 28 = .ok (.invokevirtual 81, 3) := by decide +kernel
theorem dX5_byteAt_31 : decode cX5_byteAt 31 = .ok (.ireturn, 1) := by decide +kernel
set_option maxRecDepth 20000 in
theorem ggX5_port_X3_portByte : GoodIn wsX5_port wsX3_portByte := goodIn_r _ [6, 7, 13, 14, 15, 16, 17, 18, 19, 20] (by decide +kernel) (by decide +kernel)
set_option maxRecDepth 20000 in
theorem gX5_port_X3_portByte : GoodIn wsX5_port (wsV RX5 84 RX3 yX3_portByte wsX3_portByte) := goodIn_app (goodIn_of _ (by decide +kernel)) ggX5_port_X3_portByte
theorem dX5_port_0 : decode cX5_port 0 = .ok (.aload_n 0, 1) := by decide +kernel
theorem dX5_port_1 : decode cX5_port 1 = .ok (.getfield 10, 3) := by decide +kernel
theorem dX5_port_4 : decode cX5_port 4 = .ok (.iload_n 1, 1) := by decide +kernel
theorem dX5_port_5 : decode cX5_port 5 = .ok (.invokevirtual 84, 3) := by decide +kernel
theorem dX5_port_8 : decode cX5_port 8 = .ok (.ireturn, 1) := by decide +kernel
set_option maxRecDepth 20000 in
theorem ggX5_setPort_X3_givePort : GoodIn wsX5_setPort wsX3_givePort := goodIn_r _ [6, 7, 13, 14, 15, 16, 17, 18, 19, 20] (by decide +kernel) (by decide +kernel)
set_option maxRecDepth 20000 in
theorem gX5_setPort_X3_givePort : GoodIn wsX5_setPort (wsV RX5 87 RX3 yX3_givePort wsX3_givePort) := goodIn_app (goodIn_of _ (by decide +kernel)) ggX5_setPort_X3_givePort
theorem dX5_setPort_0 : decode cX5_setPort 0 = .ok (.aload_n 0, 1) := by decide +kernel
theorem dX5_setPort_1 : decode cX5_setPort 1 = .ok (.getfield 10, 3) := by decide +kernel
theorem dX5_setPort_4 : decode cX5_setPort 4 = .ok (.iload_n 1, 1) := by decide +kernel
theorem dX5_setPort_5 : decode cX5_setPort 5 = .ok (.iload_n 2, 1) := by decide +kernel
theorem dX5_setPort_6 : decode cX5_setPort 6 = .ok (.invokevirtual 87, 3) := by decide +kernel
theorem dX5_setPort_9 : decode cX5_setPort 9 = .ok (.return_, 1) := by decide +kernel
theorem dX5_line_0 : decode cX5_line 0 = .ok (.iload_n 1, 1) := by decide +kernel
theorem dX5_line_1 : decode cX5_line 1 = .ok (.sipush 255, 3) := by decide +kernel
theorem dX5_line_4 : decode cX5_line 4 = .ok (.if_icmp .le 13, 3) := by decide +kernel
theorem dX5_line_7 : decode cX5_line 7 = .ok (.new 90, 3) := by decide +kernel
theorem dX5_line_10 : decode cX5_line 10 = .ok (.dup, 1) := by decide +kernel
theorem dX5_line_11 : decode cX5_line 11 = .ok (.ldc 92, 2) := by decide +kernel
theorem dX5_line_13 : decode cX5_line 13 = .ok (.invokespecial 94, 3) := by decide +kernel
theorem dX5_line_16 : decode cX5_line 16 = .ok (.athrow, 1) := by decide +kernel
theorem dX5_line_17 : decode cX5_line 17 = .ok (.aload_n 0, 1) := by decide +kernel
theorem dX5_line_18 : decode cX5_line 18 = .ok (.iload_n 1, 1) := by decide +kernel
theorem dX5_line_19 : decode cX5_line 19 = .ok (.ifCond .ge 7, 3) := by decide +kernel
theorem dX5_line_22 : decode cX5_line 22 = .ok (.iconst (-1), 1) := by decide +kernel
theorem dX5_line_23 : decode cX5_line 23 = .ok (.goto 4, 3) := by decide +kernel
theorem dX5_line_26 : decode cX5_line 26 = .ok (.iload_n 1, 1) := by decide +kernel
theorem dX5_line_27 : decode cX5_line 27 = .ok (.putfield 16, 3) := by decide +kernel
theorem dX5_line_30 : decode cX5_line 30 = .ok (.return_, 1) := by decide +kernel
set_option maxRecDepth 20000 in
theorem ggX5_run_X5_takeDueInterrupt : GoodIn wsX5_run wsX5_takeDueInterrupt := goodIn_r _ [12, 13, 14, 3, 15, 16, 17, 18, 19, 20, 21, 22, 504, 505, 506, 507, 508, 509, 510, 511, 512, 513, 514, 515, 516, 517] (by decide +kernel) (by decide +kernel)
set_option maxRecDepth 20000 in
theorem gX5_run_X5_takeDueInterrupt : GoodIn wsX5_run (wsV RX5 97 RX5 yX5_takeDueInterrupt wsX5_takeDueInterrupt) := goodIn_app (goodIn_of _ (by decide +kernel)) ggX5_run_X5_takeDueInterrupt
set_option maxRecDepth 20000 in
theorem ggX5_run_X5_noteInterruptStep : GoodIn wsX5_run wsX5_noteInterruptStep := goodIn_r _ [26, 3, 4, 13, 14, 27, 504, 505, 506, 507, 508, 509, 510, 511, 512, 513, 514, 515, 516] (by decide +kernel) (by decide +kernel)
set_option maxRecDepth 20000 in
theorem gX5_run_X5_noteInterruptStep : GoodIn wsX5_run (wsV RX5 101 RX5 yX5_noteInterruptStep wsX5_noteInterruptStep) := goodIn_app (goodIn_of _ (by decide +kernel)) ggX5_run_X5_noteInterruptStep
set_option maxRecDepth 20000 in
theorem ggX5_run_X3_interrupt : GoodIn wsX5_run wsX3_interrupt := goodIn_r _ [32, 33, 34, 35, 36, 37, 38, 39, 31, 40, 41, 42, 43, 44, 45, 46, 47, 48, 49, 50, 51, 52, 53, 54, 55, 56, 57, 58, 59, 60, 61, 62, 63, 64, 65, 66, 67, 68, 69, 70, 71, 72, 73, 74, 75, 76, 77, 78, 79, 80, 81, 82, 83, 20, 84, 22, 85, 86, 87, 88, 89, 90, 91, 92, 93, 94, 95, 96, 97, 98, 99, 100, 101, 509, 510, 511, 512, 513, 514, 515, 516, 518, 519, 520, 517, 521, 522, 523, 524] (by decide +kernel) (by decide +kernel)
set_option maxRecDepth 20000 in
theorem gX5_run_X3_interrupt : GoodIn wsX5_run (wsV RX5 104 RX3 yX3_interrupt wsX3_interrupt) := goodIn_app (goodIn_of _ (by decide +kernel)) ggX5_run_X3_interrupt
set_option maxRecDepth 20000 in
theorem ggX5_run_X1_find : GoodIn wsX5_run wsX1_find := goodIn_r _ [106, 107, 108, 109, 110, 111, 112, 113, 114, 115, 105, 116, 117, 118, 119, 120, 121, 59, 60, 50, 61, 62, 122, 86, 87, 66, 88, 68, 69, 70, 71, 72, 89, 90, 91, 92, 77, 80, 123, 94, 95, 96, 57, 97, 124, 125, 126, 127, 128, 129, 130, 131, 132, 133, 134, 135, 136, 137, 138, 139, 140, 141, 142, 143, 144, 145, 146, 147, 148, 149, 150, 151, 152, 153, 154, 155, 156, 157, 158, 159, 160, 20, 161, 162, 163, 164, 165, 166, 48, 49, 51, 52, 167, 168, 169, 170, 171, 172, 173, 174, 518, 519, 520, 525, 526, 527, 528, 529, 530, 531, 532, 533, 534, 535, 536, 521, 522, 523, 524] (by decide +kernel) (by decide +kernel)
set_option maxRecDepth 20000 in
theorem gX5_run_X1_find : GoodIn wsX5_run (wsV RX5 115 RX1 yX1_find wsX1_find) := goodIn_app (goodIn_of _ (by decide +kernel)) ggX5_run_X1_find
set_option maxRecDepth 20000 in
theorem ggX5_run_X5_noteCodeStep : GoodIn wsX5_run wsX5_noteCodeStep := goodIn_r _ [178, 3, 5, 14, 15, 13, 27, 179, 180, 181, 105, 182, 112, 17, 18, 19, 20, 21, 22, 504, 505, 506, 507, 508, 509, 510, 511, 512, 513, 514, 515, 516, 525, 526, 527, 528, 529, 530, 531, 532, 533, 534, 535, 536, 517] (by decide +kernel) (by decide +kernel)
set_option maxRecDepth 20000 in
theorem gX5_run_X5_noteCodeStep : GoodIn wsX5_run (wsV RX5 121 RX5 yX5_noteCodeStep wsX5_noteCodeStep) := goodIn_app (goodIn_of _ (by decide +kernel)) ggX5_run_X5_noteCodeStep
set_option maxRecDepth 20000 in
theorem ggX5_run_X3_execute : GoodIn wsX5_run wsX3_execute := goodIn_r _ [186, 187, 188, 189, 33, 34, 190, 191, 192, 193, 31, 194, 195, 196, 197, 198, 105, 199, 112, 200, 201, 202, 50, 203, 52, 204, 205, 206, 207, 208, 209, 210, 211, 212, 36, 213, 214, 215, 172, 173, 174, 146, 85, 86, 87, 66, 88, 68, 69, 70, 71, 72, 89, 90, 91, 92, 77, 80, 216, 217, 218, 20, 219, 22, 220, 221, 222, 223, 224, 160, 161, 225, 226, 227, 228, 229, 230, 231, 232, 233, 82, 83, 84, 234, 235, 236, 237, 238, 239, 240, 241, 242, 243, 244, 245, 246, 247, 248, 249, 250, 251, 252, 253, 254, 255, 256, 257, 258, 259, 260, 261, 262, 263, 264, 57, 265, 63, 64, 65, 67, 73, 74, 75, 76, 78, 79, 266, 267, 268, 269, 270, 271, 272, 273, 58, 59, 60, 61, 62, 43, 44, 45, 46, 47, 48, 49, 51, 53, 54, 55, 56, 274, 275, 276, 277, 98, 99, 100, 101, 278, 279, 280, 281, 282, 283, 284, 285, 286, 287, 18, 19, 21, 288, 289, 290, 291, 292, 293, 294, 295, 296, 297, 298, 299, 300, 301, 302, 303, 304, 305, 306, 307, 308, 309, 310, 311, 312, 313, 314, 315, 316, 317, 318, 319, 320, 321, 322, 323, 324, 325, 326, 327, 328, 329, 330, 331, 332, 35, 93, 94, 95, 96, 97, 333, 334, 335, 336, 337, 338, 339, 340, 341, 342, 343, 344, 345, 346, 41, 347, 348, 349, 350, 351, 352, 353, 354, 355, 37, 38, 39, 40, 42, 356, 357, 358, 359, 360, 361, 362, 363, 364, 365, 366, 367, 368, 369, 370, 371, 372, 373, 374, 375, 376, 377, 378, 379, 380, 381, 382, 383, 152, 153, 154, 110, 384, 385, 386, 387, 388, 389, 390, 391, 392, 393, 394, 395, 396, 397, 398, 399, 400, 401, 402, 403, 404, 405, 406, 407, 408, 409, 410, 411, 412, 413, 414, 415, 416, 417, 418, 419, 420, 421, 422, 423, 424, 425, 426, 427, 428, 429, 430, 431, 432, 433, 434, 435, 436, 437, 438, 439, 440, 441, 442, 443, 444, 445, 446, 447, 448, 449, 450, 451, 452, 453, 454, 455, 456, 457, 458, 459, 460, 461, 462, 463, 464, 465, 466, 467, 468, 469, 470, 471, 472, 473, 474, 81, 475, 476, 477, 478, 479, 480, 481, 482, 483, 484, 485, 486, 487, 488, 489, 490, 491, 492, 493, 494, 495, 496, 497, 498, 499, 500, 501, 502, 503, 29, 30, 32, 509, 510, 511, 512, 513, 514, 515, 516, 525, 526, 527, 528, 529, 530, 531, 532, 533, 534, 535, 536, 518, 519, 520, 521, 522, 523, 524, 517] (by decide +kernel) (by decide +kernel)
set_option maxRecDepth 20000 in
theorem gX5_run_X3_execute : GoodIn wsX5_run (wsV RX5 124 RX3 yX3_execute wsX3_execute) := goodIn_app (goodIn_of _ (by decide +kernel)) ggX5_run_X3_execute
theorem dX5_run_0 : decode cX5_run 0 = .ok (.iload_n 1, 1) := by decide +kernel
theorem dX5_run_1 : decode cX5_run 1 = .ok (.ifCond .lt 10, 3) := by decide +kernel
theorem dX5_run_4 : decode cX5_run 4 = .ok (.iload_n 1, 1) := by decide +kernel
theorem dX5_run_5 : decode cX5_run 5 = .ok (.sipush 500, 3) := by decide +kernel
theorem dX5_run_8 : decode cX5_run 8 = .ok (.if_icmp .le 13, 3) := by decide +kernel
theorem dX5_run_11 : decode cX5_run 11 = .ok (.new 90, 3) := by decide +kernel
theorem dX5_run_14 : decode cX5_run 14 = .ok (.dup, 1) := by decide +kernel
theorem dX5_run_15 : decode cX5_run 15 = .ok (.ldc 95, 2) := by decide +kernel
theorem dX5_run_17 : decode cX5_run 17 = .ok (.invokespecial 94, 3) := by decide +kernel
theorem dX5_run_20 : decode cX5_run 20 = .ok (.athrow, 1) := by decide +kernel
theorem dX5_run_21 : decode cX5_run 21 = .ok (.iconst 0, 1) := by decide +kernel
theorem dX5_run_22 : decode cX5_run 22 = .ok (.istore_n 2, 1) := by decide +kernel
theorem dX5_run_23 : decode cX5_run 23 = .ok (.iload_n 2, 1) := by decide +kernel
theorem dX5_run_24 : decode cX5_run 24 = .ok (.iload_n 1, 1) := by decide +kernel
theorem dX5_run_25 : decode cX5_run 25 = .ok (.if_icmp .ge 86, 3) := by decide +kernel
theorem dX5_run_28 : decode cX5_run 28 = .ok (.aload_n 0, 1) := by decide +kernel
theorem dX5_run_29 : decode cX5_run 29 = .ok (.invokevirtual 97, 3) := by decide +kernel
theorem dX5_run_32 : decode cX5_run 32 = .ok (.istore_n 3, 1) := by decide +kernel
theorem dX5_run_33 : decode cX5_run 33 = .ok (.iload_n 3, 1) := by decide +kernel
theorem dX5_run_34 : decode cX5_run 34 = .ok (.iconst (-1), 1) := by decide +kernel
theorem dX5_run_35 : decode cX5_run 35 = .ok (.if_icmp .eq 18, 3) := by decide +kernel
theorem dX5_run_38 : decode cX5_run 38 = .ok (.aload_n 0, 1) := by decide +kernel
theorem dX5_run_39 : decode cX5_run 39 = .ok (.invokevirtual 101, 3) := by decide +kernel
theorem dX5_run_42 : decode cX5_run 42 = .ok (.aload_n 0, 1) := by decide +kernel
theorem dX5_run_43 : decode cX5_run 43 = .ok (.getfield 10, 3) := by decide +kernel
theorem dX5_run_46 : decode cX5_run 46 = .ok (.iload_n 3, 1) := by decide +kernel
theorem dX5_run_47 : decode cX5_run 47 = .ok (.invokevirtual 104, 3) := by decide +kernel
theorem dX5_run_50 : decode cX5_run 50 = .ok (.goto 55, 3) := by decide +kernel
theorem dX5_run_53 : decode cX5_run 53 = .ok (.aload_n 0, 1) := by decide +kernel
theorem dX5_run_54 : decode cX5_run 54 = .ok (.getfield 10, 3) := by decide +kernel
theorem dX5_run_57 : decode cX5_run 57 = .ok (.getfield 107, 3) := by decide +kernel
theorem dX5_run_60 : decode cX5_run 60 = .ok (.ifCond .eq 5, 3) := by decide +kernel
theorem dX5_run_63 : decode cX5_run 63 = .ok (.iconst 1, 1) := by decide +kernel
theorem dX5_run_64 : decode cX5_run 64 = .ok (.ireturn, 1) := by decide +kernel
theorem dX5_run_65 : decode cX5_run 65 = .ok (.aload_n 0, 1) := by decide +kernel
theorem dX5_run_66 : decode cX5_run 66 = .ok (.getfield 10, 3) := by decide +kernel
theorem dX5_run_69 : decode cX5_run 69 = .ok (.getfield 111, 3) := by decide +kernel
theorem dX5_run_72 : decode cX5_run 72 = .ok (.aload_n 0, 1) := by decide +kernel
theorem dX5_run_73 : decode cX5_run 73 = .ok (.getfield 10, 3) := by decide +kernel
theorem dX5_run_76 : decode cX5_run 76 = .ok (.getfield 69, 3) := by decide +kernel
theorem dX5_run_79 : decode cX5_run 79 = .ok (.aload_n 0, 1) := by decide +kernel
theorem dX5_run_80 : decode cX5_run 80 = .ok (.getfield 10, 3) := by decide +kernel
theorem dX5_run_83 : decode cX5_run 83 = .ok (.getfield 37, 3) := by decide +kernel
theorem dX5_run_86 : decode cX5_run 86 = .ok (.invokevirtual 115, 3) := by decide +kernel
theorem dX5_run_89 : decode cX5_run 89 = .ok (.ifCond .ne 5, 3) := by decide +kernel
theorem dX5_run_92 : decode cX5_run 92 = .ok (.iconst 2, 1) := by decide +kernel
theorem dX5_run_93 : decode cX5_run 93 = .ok (.ireturn, 1) := by decide +kernel
theorem dX5_run_94 : decode cX5_run 94 = .ok (.aload_n 0, 1) := by decide +kernel
theorem dX5_run_95 : decode cX5_run 95 = .ok (.invokevirtual 121, 3) := by decide +kernel
theorem dX5_run_98 : decode cX5_run 98 = .ok (.aload_n 0, 1) := by decide +kernel
theorem dX5_run_99 : decode cX5_run 99 = .ok (.getfield 10, 3) := by decide +kernel
theorem dX5_run_102 : decode cX5_run 102 = .ok (.invokevirtual 124, 3) := by decide +kernel
theorem dX5_run_105 : decode cX5_run 105 = .ok (.iinc 2 1, 3) := by decide +kernel
theorem dX5_run_108 : decode cX5_run 108 = .ok (.goto (-85), 3) := by decide +kernel
theorem dX5_run_111 : decode cX5_run 111 = .ok (.iconst 0, 1) := by decide +kernel
theorem dX5_run_112 : decode cX5_run 112 = .ok (.ireturn, 1) := by decide +kernel
theorem dX5_count_0 : decode cX5_count 0 = .ok (.iload_n 1, 1) := by decide +kernel
theorem dX5_count_1 : decode cX5_count 1 = .ok (.tableswitch 66 0 3 #[31, 36, 47, 58], 31) := by decide +kernel
theorem dX5_count_32 : decode cX5_count 32 = .ok (.aload_n 0, 1) := by decide +kernel
theorem dX5_count_33 : decode cX5_count 33 = .ok (.getfield 127, 3) := by decide +kernel
theorem dX5_count_36 : decode cX5_count 36 = .ok (.ireturn, 1) := by decide +kernel
theorem dX5_count_37 : decode cX5_count 37 = .ok (.aload_n 0, 1) := by decide +kernel
theorem dX5_count_38 : decode cX5_count 38 = .ok (.getfield 10, 3) := by decide +kernel
theorem dX5_count_41 : decode cX5_count 41 = .ok (.getfield 69, 3) := by decide +kernel
theorem dX5_count_44 : decode cX5_count 44 = .ok (.getfield 130, 3) := by decide +kernel
theorem dX5_count_47 : decode cX5_count 47 = .ok (.ireturn, 1) := by decide +kernel
theorem dX5_count_48 : decode cX5_count 48 = .ok (.aload_n 0, 1) := by decide +kernel
theorem dX5_count_49 : decode cX5_count 49 = .ok (.getfield 10, 3) := by decide +kernel
theorem dX5_count_52 : decode cX5_count 52 = .ok (.getfield 69, 3) := by decide +kernel
theorem dX5_count_55 : decode cX5_count 55 = .ok (.getfield 133, 3) := by decide +kernel
theorem dX5_count_58 : decode cX5_count 58 = .ok (.ireturn, 1) := by decide +kernel
theorem dX5_count_59 : decode cX5_count 59 = .ok (.aload_n 0, 1) := by decide +kernel
theorem dX5_count_60 : decode cX5_count 60 = .ok (.getfield 10, 3) := by decide +kernel
theorem dX5_count_63 : decode cX5_count 63 = .ok (.getfield 136, 3) := by decide +kernel
theorem dX5_count_66 : decode cX5_count 66 = .ok (.ireturn, 1) := by decide +kernel
theorem dX5_count_67 : decode cX5_count 67 = .ok (.new 90, 3) := by decide +kernel
theorem dX5_count_70 : decode cX5_count 70 = .ok (.dup, 1) := by decide +kernel
theorem dX5_count_71 : decode cX5_count 71 = .ok (.ldc 139, 2) := by decide +kernel
theorem dX5_count_73 : decode cX5_count 73 = .ok (.invokespecial 94, 3) := by decide +kernel
theorem dX5_count_76 : decode cX5_count 76 = .ok (.athrow, 1) := by decide +kernel
set_option maxRecDepth 20000 in
theorem ggX5_takeDueInterrupt_X0_has : GoodIn wsX5_takeDueInterrupt wsX0_has := goodIn_r _ [10, 11, 25] (by decide +kernel) (by decide +kernel)
set_option maxRecDepth 20000 in
theorem gX5_takeDueInterrupt_X0_has : GoodIn wsX5_takeDueInterrupt (wsV RX5 147 RX0 yX0_has wsX0_has) := goodIn_app (goodIn_of _ (by decide +kernel)) ggX5_takeDueInterrupt_X0_has
theorem dX5_takeDueInterrupt_0 : decode cX5_takeDueInterrupt 0 = .ok (.aload_n 0, 1) := by decide +kernel
theorem dX5_takeDueInterrupt_1 : decode cX5_takeDueInterrupt 1 = .ok (.getfield 141, 3) := by decide +kernel
theorem dX5_takeDueInterrupt_4 : decode cX5_takeDueInterrupt 4 = .ok (.ifCond .eq 5, 3) := by decide +kernel
theorem dX5_takeDueInterrupt_7 : decode cX5_takeDueInterrupt 7 = .ok (.iconst 1, 1) := by decide +kernel
theorem dX5_takeDueInterrupt_8 : decode cX5_takeDueInterrupt 8 = .ok (.ireturn, 1) := by decide +kernel
theorem dX5_takeDueInterrupt_9 : decode cX5_takeDueInterrupt 9 = .ok (.aload_n 0, 1) := by decide +kernel
theorem dX5_takeDueInterrupt_10 : decode cX5_takeDueInterrupt 10 = .ok (.getfield 144, 3) := by decide +kernel
theorem dX5_takeDueInterrupt_13 : decode cX5_takeDueInterrupt 13 = .ok (.ifCond .ne 19, 3) := by decide +kernel
theorem dX5_takeDueInterrupt_16 : decode cX5_takeDueInterrupt 16 = .ok (.aload_n 0, 1) := by decide +kernel
theorem dX5_takeDueInterrupt_17 : decode cX5_takeDueInterrupt 17 = .ok (.getfield 10, 3) := by decide +kernel
theorem dX5_takeDueInterrupt_20 : decode cX5_takeDueInterrupt 20 = .ok (.getfield 27, 3) := by decide +kernel
theorem dX5_takeDueInterrupt_23 : decode cX5_takeDueInterrupt 23 = .ok (.sipush 512, 3) := by decide +kernel
theorem dX5_takeDueInterrupt_26 : decode cX5_takeDueInterrupt 26 = .ok (.invokevirtual 147, 3) := by decide +kernel
theorem dX5_takeDueInterrupt_29 : decode cX5_takeDueInterrupt 29 = .ok (.ifCond .ne 5, 3) := by decide +kernel
theorem dX5_takeDueInterrupt_32 : decode cX5_takeDueInterrupt 32 = .ok (.iconst (-1), 1) := by decide +kernel
theorem dX5_takeDueInterrupt_33 : decode cX5_takeDueInterrupt 33 = .ok (.ireturn, 1) := by decide +kernel
theorem dX5_takeDueInterrupt_34 : decode cX5_takeDueInterrupt 34 = .ok (.aload_n 0, 1) := by decide +kernel
theorem dX5_takeDueInterrupt_35 : decode cX5_takeDueInterrupt 35 = .ok (.getfield 16, 3) := by decide +kernel
theorem dX5_takeDueInterrupt_38 : decode cX5_takeDueInterrupt 38 = .ok (.istore_n 1, 1) := by decide +kernel
theorem dX5_takeDueInterrupt_39 : decode cX5_takeDueInterrupt 39 = .ok (.aload_n 0, 1) := by decide +kernel
theorem dX5_takeDueInterrupt_40 : decode cX5_takeDueInterrupt 40 = .ok (.iconst (-1), 1) := by decide +kernel
theorem dX5_takeDueInterrupt_41 : decode cX5_takeDueInterrupt 41 = .ok (.putfield 16, 3) := by decide +kernel
theorem dX5_takeDueInterrupt_44 : decode cX5_takeDueInterrupt 44 = .ok (.iload_n 1, 1) := by decide +kernel
theorem dX5_takeDueInterrupt_45 : decode cX5_takeDueInterrupt 45 = .ok (.ireturn, 1) := by decide +kernel
theorem dX5_noteInterruptStep_0 : decode cX5_noteInterruptStep 0 = .ok (.aload_n 0, 1) := by decide +kernel
theorem dX5_noteInterruptStep_1 : decode cX5_noteInterruptStep 1 = .ok (.getfield 10, 3) := by decide +kernel
theorem dX5_noteInterruptStep_4 : decode cX5_noteInterruptStep 4 = .ok (.iconst 0, 1) := by decide +kernel
theorem dX5_noteInterruptStep_5 : decode cX5_noteInterruptStep 5 = .ok (.putfield 107, 3) := by decide +kernel
theorem dX5_noteInterruptStep_8 : decode cX5_noteInterruptStep 8 = .ok (.aload_n 0, 1) := by decide +kernel
theorem dX5_noteInterruptStep_9 : decode cX5_noteInterruptStep 9 = .ok (.iconst 0, 1) := by decide +kernel
theorem dX5_noteInterruptStep_10 : decode cX5_noteInterruptStep 10 = .ok (.putfield 141, 3) := by decide +kernel
theorem dX5_noteInterruptStep_13 : decode cX5_noteInterruptStep 13 = .ok (.aload_n 0, 1) := by decide +kernel
theorem dX5_noteInterruptStep_14 : decode cX5_noteInterruptStep 14 = .ok (.iconst 0, 1) := by decide +kernel
theorem dX5_noteInterruptStep_15 : decode cX5_noteInterruptStep 15 = .ok (.putfield 144, 3) := by decide +kernel
theorem dX5_noteInterruptStep_18 : decode cX5_noteInterruptStep 18 = .ok (.aload_n 0, 1) := by decide +kernel
theorem dX5_noteInterruptStep_19 : decode cX5_noteInterruptStep 19 = .ok (.dup, 1) := by decide +kernel
theorem dX5_noteInterruptStep_20 : decode cX5_noteInterruptStep 20 = .ok (.getfield 127, 3) := by decide +kernel
theorem dX5_noteInterruptStep_23 : decode cX5_noteInterruptStep 23 = .ok (.iconst 1, 1) := by decide +kernel
theorem dX5_noteInterruptStep_24 : decode cX5_noteInterruptStep 24 = .ok (.iadd, 1) := by decide +kernel
theorem dX5_noteInterruptStep_25 : decode cX5_noteInterruptStep 25 = .ok (.putfield 127, 3) := by decide +kernel
theorem dX5_noteInterruptStep_28 : decode cX5_noteInterruptStep 28 = .ok (.return_, 1) := by decide +kernel
set_option maxRecDepth 20000 in
theorem ggX5_noteCodeStep_X1_givesSegment : GoodIn wsX5_noteCodeStep wsX1_givesSegment := goodIn_r _ [11, 12, 32, 33, 34, 35, 36, 37, 38, 39, 40, 41, 42, 43] (by decide +kernel) (by decide +kernel)
set_option maxRecDepth 20000 in
theorem gX5_noteCodeStep_X1_givesSegment : GoodIn wsX5_noteCodeStep (wsV RX5 151 RX1 yX1_givesSegment wsX1_givesSegment) := goodIn_app (goodIn_of _ (by decide +kernel)) ggX5_noteCodeStep_X1_givesSegment
set_option maxRecDepth 20000 in
theorem ggX5_noteCodeStep_X0_has : GoodIn wsX5_noteCodeStep wsX0_has := goodIn_r _ [17, 18, 44] (by decide +kernel) (by decide +kernel)
set_option maxRecDepth 20000 in
theorem gX5_noteCodeStep_X0_has : GoodIn wsX5_noteCodeStep (wsV RX5 147 RX0 yX0_has wsX0_has) := goodIn_app (goodIn_of _ (by decide +kernel)) ggX5_noteCodeStep_X0_has
theorem dX5_noteCodeStep_0 : decode cX5_noteCodeStep 0 = .ok (.aload_n 0, 1) := by decide +kernel
theorem dX5_noteCodeStep_1 : decode cX5_noteCodeStep 1 = .ok (.aload_n 0, 1) := by decide +kernel
theorem dX5_noteCodeStep_2 : decode cX5_noteCodeStep 2 = .ok (.getfield 10, 3) := by decide +kernel
theorem dX5_noteCodeStep_5 : decode cX5_noteCodeStep 5 = .ok (.getfield 111, 3) := by decide +kernel
theorem dX5_noteCodeStep_8 : decode cX5_noteCodeStep 8 = .ok (.invokevirtual 151, 3) := by decide +kernel
theorem dX5_noteCodeStep_11 : decode cX5_noteCodeStep 11 = .ok (.putfield 144, 3) := by decide +kernel
theorem dX5_noteCodeStep_14 : decode cX5_noteCodeStep 14 = .ok (.aload_n 0, 1) := by decide +kernel
theorem dX5_noteCodeStep_15 : decode cX5_noteCodeStep 15 = .ok (.aload_n 0, 1) := by decide +kernel
theorem dX5_noteCodeStep_16 : decode cX5_noteCodeStep 16 = .ok (.getfield 10, 3) := by decide +kernel
theorem dX5_noteCodeStep_19 : decode cX5_noteCodeStep 19 = .ok (.getfield 27, 3) := by decide +kernel
theorem dX5_noteCodeStep_22 : decode cX5_noteCodeStep 22 = .ok (.sipush 256, 3) := by decide +kernel
theorem dX5_noteCodeStep_25 : decode cX5_noteCodeStep 25 = .ok (.invokevirtual 147, 3) := by decide +kernel
theorem dX5_noteCodeStep_28 : decode cX5_noteCodeStep 28 = .ok (.ifCond .eq 14, 3) := by decide +kernel
theorem dX5_noteCodeStep_31 : decode cX5_noteCodeStep 31 = .ok (.aload_n 0, 1) := by decide +kernel
theorem dX5_noteCodeStep_32 : decode cX5_noteCodeStep 32 = .ok (.getfield 144, 3) := by decide +kernel
theorem dX5_noteCodeStep_35 : decode cX5_noteCodeStep 35 = .ok (.ifCond .ne 7, 3) := by decide +kernel
theorem dX5_noteCodeStep_38 : decode cX5_noteCodeStep 38 = .ok (.iconst 1, 1) := by decide +kernel
theorem dX5_noteCodeStep_39 : decode cX5_noteCodeStep 39 = .ok (.goto 4, 3) := by decide +kernel
theorem dX5_noteCodeStep_42 : decode cX5_noteCodeStep 42 = .ok (.iconst 0, 1) := by decide +kernel
theorem dX5_noteCodeStep_43 : decode cX5_noteCodeStep 43 = .ok (.putfield 141, 3) := by decide +kernel
theorem dX5_noteCodeStep_46 : decode cX5_noteCodeStep 46 = .ok (.aload_n 0, 1) := by decide +kernel
theorem dX5_noteCodeStep_47 : decode cX5_noteCodeStep 47 = .ok (.dup, 1) := by decide +kernel
theorem dX5_noteCodeStep_48 : decode cX5_noteCodeStep 48 = .ok (.getfield 127, 3) := by decide +kernel
theorem dX5_noteCodeStep_51 : decode cX5_noteCodeStep 51 = .ok (.iconst 1, 1) := by decide +kernel
theorem dX5_noteCodeStep_52 : decode cX5_noteCodeStep 52 = .ok (.iadd, 1) := by decide +kernel
theorem dX5_noteCodeStep_53 : decode cX5_noteCodeStep 53 = .ok (.putfield 127, 3) := by decide +kernel
theorem dX5_noteCodeStep_56 : decode cX5_noteCodeStep 56 = .ok (.return_, 1) := by decide +kernel
theorem dX6_init_0 : decode cX6_init 0 = .ok (.aload_n 0, 1) := by decide +kernel
theorem dX6_init_1 : decode cX6_init 1 = .ok (.invokespecial 1, 3) := by decide +kernel
theorem dX6_init_4 : decode cX6_init 4 = .ok (.aload_n 0, 1) := by decide +kernel
theorem dX6_init_5 : decode cX6_init 5 = .ok (.bipush 8, 2) := by decide +kernel
theorem dX6_init_7 : decode cX6_init 7 = .ok (.newarray .int, 2) := by decide +kernel
theorem dX6_init_9 : decode cX6_init 9 = .ok (.putfield 7, 3) := by decide +kernel
theorem dX6_init_12 : decode cX6_init 12 = .ok (.aload_n 0, 1) := by decide +kernel
theorem dX6_init_13 : decode cX6_init 13 = .ok (.iconst 4, 1) := by decide +kernel
theorem dX6_init_14 : decode cX6_init 14 = .ok (.newarray .int, 2) := by decide +kernel
theorem dX6_init_16 : decode cX6_init 16 = .ok (.putfield 13, 3) := by decide +kernel
theorem dX6_init_19 : decode cX6_init 19 = .ok (.aload_n 0, 1) := by decide +kernel
theorem dX6_init_20 : decode cX6_init 20 = .ok (.sipush 4096, 3) := by decide +kernel
theorem dX6_init_23 : decode cX6_init 23 = .ok (.newarray .int, 2) := by decide +kernel
theorem dX6_init_25 : decode cX6_init 25 = .ok (.putfield 16, 3) := by decide +kernel
theorem dX6_init_28 : decode cX6_init 28 = .ok (.aload_n 0, 1) := by decide +kernel
theorem dX6_init_29 : decode cX6_init 29 = .ok (.ldc 19, 2) := by decide +kernel
theorem dX6_init_31 : decode cX6_init 31 = .ok (.newarray .int, 2) := by decide +kernel
theorem dX6_init_33 : decode cX6_init 33 = .ok (.putfield 20, 3) := by decide +kernel
theorem dX6_init_36 : decode cX6_init 36 = .ok (.aload_n 0, 1) := by decide +kernel
theorem dX6_init_37 : decode cX6_init 37 = .ok (.sipush 256, 3) := by decide +kernel
theorem dX6_init_40 : decode cX6_init 40 = .ok (.newarray .int, 2) := by decide +kernel
theorem dX6_init_42 : decode cX6_init 42 = .ok (.putfield 23, 3) := by decide +kernel
theorem dX6_init_45 : decode cX6_init 45 = .ok (.aload_n 0, 1) := by decide +kernel
theorem dX6_init_46 : decode cX6_init 46 = .ok (.iconst (-1), 1) := by decide +kernel
theorem dX6_init_47 : decode cX6_init 47 = .ok (.putfield 26, 3) := by decide +kernel
theorem dX6_init_50 : decode cX6_init 50 = .ok (.return_, 1) := by decide +kernel
theorem dX6_thrown_0 : decode cX6_thrown 0 = .ok (.aload_n 0, 1) := by decide +kernel
theorem dX6_thrown_1 : decode cX6_thrown 1 = .ok (.getfield 30, 3) := by decide +kernel
theorem dX6_thrown_4 : decode cX6_thrown 4 = .ok (.ireturn, 1) := by decide +kernel
theorem dX6_load_0 : decode cX6_load 0 = .ok (.aload_n 0, 1) := by decide +kernel
theorem dX6_load_1 : decode cX6_load 1 = .ok (.getfield 16, 3) := by decide +kernel
theorem dX6_load_4 : decode cX6_load 4 = .ok (.iload_n 1, 1) := by decide +kernel
theorem dX6_load_5 : decode cX6_load 5 = .ok (.bipush 8, 2) := by decide +kernel
theorem dX6_load_7 : decode cX6_load 7 = .ok (.ishr, 1) := by decide +kernel
theorem dX6_load_8 : decode cX6_load 8 = .ok (.iaload, 1) := by decide +kernel
theorem dX6_load_9 : decode cX6_load 9 = .ok (.istore_n 2, 1) := by decide +kernel
theorem dX6_load_10 : decode cX6_load 10 = .ok (.iload_n 2, 1) := by decide +kernel
theorem dX6_load_11 : decode cX6_load 11 = .ok (.ifCond .ne 7, 3) := by decide +kernel
theorem dX6_load_14 : decode cX6_load 14 = .ok (.iconst 0, 1) := by decide +kernel
theorem dX6_load_15 : decode cX6_load 15 = .ok (.goto 21, 3) := by decide +kernel
theorem dX6_load_18 : decode cX6_load 18 = .ok (.aload_n 0, 1) := by decide +kernel
theorem dX6_load_19 : decode cX6_load 19 = .ok (.getfield 20, 3) := by decide +kernel
theorem dX6_load_22 : decode cX6_load 22 = .ok (.sipush 256, 3) := by decide +kernel
theorem dX6_load_25 : decode cX6_load 25 = .ok (.iload_n 2, 1) := by decide +kernel
theorem dX6_load_26 : decode cX6_load 26 = .ok (.iconst 1, 1) := by decide +kernel
theorem dX6_load_27 : decode cX6_load 27 = .ok (.isub, 1) := by decide +kernel
theorem dX6_load_28 : decode cX6_load 28 = .ok (.imul, 1) := by decide +kernel
theorem dX6_load_29 : decode cX6_load 29 = .ok (.iload_n 1, 1) := by decide +kernel
theorem dX6_load_30 : decode cX6_load 30 = .ok (.sipush 255, 3) := by decide +kernel
theorem dX6_load_33 : decode cX6_load 33 = .ok (.iand, 1) := by decide +kernel
theorem dX6_load_34 : decode cX6_load 34 = .ok (.iadd, 1) := by decide +kernel
theorem dX6_load_35 : decode cX6_load 35 = .ok (.iaload, 1) := by decide +kernel
theorem dX6_load_36 : decode cX6_load 36 = .ok (.ireturn, 1) := by decide +kernel
theorem dX6_store_0 : decode cX6_store 0 = .ok (.aload_n 0, 1) := by decide +kernel
theorem dX6_store_1 : decode cX6_store 1 = .ok (.getfield 16, 3) := by decide +kernel
theorem dX6_store_4 : decode cX6_store 4 = .ok (.iload_n 1, 1) := by decide +kernel
theorem dX6_store_5 : decode cX6_store 5 = .ok (.bipush 8, 2) := by decide +kernel
theorem dX6_store_7 : decode cX6_store 7 = .ok (.ishr, 1) := by decide +kernel
theorem dX6_store_8 : decode cX6_store 8 = .ok (.iaload, 1) := by decide +kernel
theorem dX6_store_9 : decode cX6_store 9 = .ok (.ifCond .ne 24, 3) := by decide +kernel
theorem dX6_store_12 : decode cX6_store 12 = .ok (.aload_n 0, 1) := by decide +kernel
theorem dX6_store_13 : decode cX6_store 13 = .ok (.getfield 33, 3) := by decide +kernel
theorem dX6_store_16 : decode cX6_store 16 = .ok (.sipush 256, 3) := by decide +kernel
theorem dX6_store_19 : decode cX6_store 19 = .ok (.if_icmp .ne 14, 3) := by decide +kernel
theorem dX6_store_22 : decode cX6_store 22 = .ok (.aload_n 0, 1) := by decide +kernel
theorem dX6_store_23 : decode cX6_store 23 = .ok (.dup, 1) := by decide +kernel
theorem dX6_store_24 : decode cX6_store 24 = .ok (.getfield 36, 3) := by decide +kernel
theorem dX6_store_27 : decode cX6_store 27 = .ok (.iconst 1, 1) := by decide +kernel
theorem dX6_store_28 : decode cX6_store 28 = .ok (.iadd, 1) := by decide +kernel
theorem dX6_store_29 : decode cX6_store 29 = .ok (.putfield 36, 3) := by decide +kernel
theorem dX6_store_32 : decode cX6_store 32 = .ok (.return_, 1) := by decide +kernel
theorem dX6_store_33 : decode cX6_store 33 = .ok (.aload_n 0, 1) := by decide +kernel
theorem dX6_store_34 : decode cX6_store 34 = .ok (.getfield 16, 3) := by decide +kernel
theorem dX6_store_37 : decode cX6_store 37 = .ok (.iload_n 1, 1) := by decide +kernel
theorem dX6_store_38 : decode cX6_store 38 = .ok (.bipush 8, 2) := by decide +kernel
theorem dX6_store_40 : decode cX6_store 40 = .ok (.ishr, 1) := by decide +kernel
theorem dX6_store_41 : decode cX6_store 41 = .ok (.iaload, 1) := by decide +kernel
theorem dX6_store_42 : decode cX6_store 42 = .ok (.ifCond .ne 26, 3) := by decide +kernel
theorem dX6_store_45 : decode cX6_store 45 = .ok (.aload_n 0, 1) := by decide +kernel
theorem dX6_store_46 : decode cX6_store 46 = .ok (.dup, 1) := by decide +kernel
theorem dX6_store_47 : decode cX6_store 47 = .ok (.getfield 33, 3) := by decide +kernel
theorem dX6_store_50 : decode cX6_store 50 = .ok (.iconst 1, 1) := by decide +kernel
theorem dX6_store_51 : decode cX6_store 51 = .ok (.iadd, 1) := by decide +kernel
theorem dX6_store_52 : decode cX6_store 52 = .ok (.putfield 33, 3) := by decide +kernel
theorem dX6_store_55 : decode cX6_store 55 = .ok (.aload_n 0, 1) := by decide +kernel
theorem dX6_store_56 : decode cX6_store 56 = .ok (.getfield 16, 3) := by decide +kernel
theorem dX6_store_59 : decode cX6_store 59 = .ok (.iload_n 1, 1) := by decide +kernel
theorem dX6_store_60 : decode cX6_store 60 = .ok (.bipush 8, 2) := by decide +kernel
theorem dX6_store_62 : decode cX6_store 62 = .ok (.ishr, 1) := by decide +kernel
theorem dX6_store_63 : decode cX6_store 63 = .ok (.aload_n 0, 1) := by decide +kernel
theorem dX6_store_64 : decode cX6_store 64 = .ok (.getfield 33, 3) := by decide +kernel
theorem dX6_store_67 : decode cX6_store 67 = .ok (.iastore, 1) := by decide +kernel
theorem dX6_store_68 : decode cX6_store 68 = .ok (.aload_n 0, 1) := by decide +kernel
theorem dX6_store_69 : decode cX6_store 69 = .ok (.getfield 20, 3) := by decide +kernel
theorem dX6_store_72 : decode cX6_store 72 = .ok (.sipush 256, 3) := by decide +kernel
theorem dX6_store_75 : decode cX6_store 75 = .ok (.aload_n 0, 1) := by decide +kernel
theorem dX6_store_76 : decode cX6_store 76 = .ok (.getfield 16, 3) := by decide +kernel
theorem dX6_store_79 : decode cX6_store 79 = .ok (.iload_n 1, 1) := by decide +kernel
theorem dX6_store_80 : decode cX6_store 80 = .ok (.bipush 8, 2) := by decide +kernel
theorem dX6_store_82 : decode cX6_store 82 = .ok (.ishr, 1) := by decide +kernel
theorem dX6_store_83 : decode cX6_store 83 = .ok (.iaload, 1) := by decide +kernel
theorem dX6_store_84 : decode cX6_store 84 = .ok (.iconst 1, 1) := by decide +kernel
theorem dX6_store_85 : decode cX6_store 85 = .ok (.isub, 1) := by decide +kernel
theorem dX6_store_86 : decode cX6_store 86 = .ok (.imul, 1) := by decide +kernel
theorem dX6_store_87 : decode cX6_store 87 = .ok (.iload_n 1, 1) := by decide +kernel
theorem dX6_store_88 : decode cX6_store 88 = .ok (.sipush 255, 3) := by decide +kernel
theorem dX6_store_91 : decode cX6_store 91 = .ok (.iand, 1) := by decide +kernel
theorem dX6_store_92 : decode cX6_store 92 = .ok (.iadd, 1) := by decide +kernel
theorem dX6_store_93 : decode cX6_store 93 = .ok (.iload_n 2, 1) := by decide +kernel
theorem dX6_store_94 : decode cX6_store 94 = .ok (.sipush 255, 3) := by decide +kernel
theorem dX6_store_97 : decode cX6_store 97 = .ok (.iand, 1) := by decide +kernel
theorem dX6_store_98 : decode cX6_store 98 = .ok (.iastore, 1) := by decide +kernel
theorem dX6_store_99 : decode cX6_store 99 = .ok (.return_, 1) := by decide +kernel
theorem dX6_placeOf_0 : decode cX6_placeOf 0 = .ok (.bipush 16, 2) := by decide +kernel
theorem dX6_placeOf_2 : decode cX6_placeOf 2 = .ok (.iload_n 0, 1) := by decide +kernel
theorem dX6_placeOf_3 : decode cX6_placeOf 3 = .ok (.imul, 1) := by decide +kernel
theorem dX6_placeOf_4 : decode cX6_placeOf 4 = .ok (.iload_n 1, 1) := by decide +kernel
theorem dX6_placeOf_5 : decode cX6_placeOf 5 = .ok (.ldc 39, 2) := by decide +kernel
theorem dX6_placeOf_7 : decode cX6_placeOf 7 = .ok (.iand, 1) := by decide +kernel
theorem dX6_placeOf_8 : decode cX6_placeOf 8 = .ok (.iadd, 1) := by decide +kernel
theorem dX6_placeOf_9 : decode cX6_placeOf 9 = .ok (.ldc 40, 2) := by decide +kernel
theorem dX6_placeOf_11 : decode cX6_placeOf 11 = .ok (.iand, 1) := by decide +kernel
theorem dX6_placeOf_12 : decode cX6_placeOf 12 = .ok (.ireturn, 1) := by decide +kernel
set_option maxRecDepth 20000 in
theorem ggX6_get_X6_placeOf : GoodIn wsX6_get wsX6_placeOf := goodIn_r _ [4, 5, 6] (by decide +kernel) (by decide +kernel)
set_option maxRecDepth 20000 in
theorem gX6_get_X6_placeOf : GoodIn wsX6_get (va_wsS RX6 41 yX6_placeOf wsX6_placeOf) := goodIn_app (goodIn_of _ (by decide +kernel)) ggX6_get_X6_placeOf
set_option maxRecDepth 20000 in
theorem ggX6_get_X6_load : GoodIn wsX6_get wsX6_load := goodIn_r _ [10, 11, 12, 13, 14, 15, 16, 17, 18, 19, 20, 21, 22, 23, 24, 25, 26, 27, 28, 29, 30, 31, 32, 33, 34, 35, 36, 37, 38, 39, 40, 41] (by decide +kernel) (by decide +kernel)
set_option maxRecDepth 20000 in
theorem gX6_get_X6_load : GoodIn wsX6_get (wsV RX6 45 RX6 yX6_load wsX6_load) := goodIn_app (goodIn_of _ (by decide +kernel)) ggX6_get_X6_load
theorem dX6_get_0 : decode cX6_get 0 = .ok (.aload_n 0, 1) := by decide +kernel
theorem dX6_get_1 : decode cX6_get 1 = .ok (.iload_n 1, 1) := by decide +kernel
theorem dX6_get_2 : decode cX6_get 2 = .ok (.iload_n 2, 1) := by decide +kernel
theorem dX6_get_3 : decode cX6_get 3 = .ok (.invokestatic 41, 3) := by decide +kernel
theorem dX6_get_6 : decode cX6_get 6 = .ok (.invokevirtual 45, 3) := by decide +kernel
theorem dX6_get_9 : decode cX6_get 9 = .ok (.istore 4, 2) := by decide +kernel
theorem dX6_get_11 : decode cX6_get 11 = .ok (.iload_n 3, 1) := by decide +kernel
theorem dX6_get_12 : decode cX6_get 12 = .ok (.ifCond .eq 23, 3) := by decide +kernel
theorem dX6_get_15 : decode cX6_get 15 = .ok (.iload 4, 2) := by decide +kernel
theorem dX6_get_17 : decode cX6_get 17 = .ok (.aload_n 0, 1) := by decide +kernel
theorem dX6_get_18 : decode cX6_get 18 = .ok (.iload_n 1, 1) := by decide +kernel
theorem dX6_get_19 : decode cX6_get 19 = .ok (.iload_n 2, 1) := by decide +kernel
theorem dX6_get_20 : decode cX6_get 20 = .ok (.iconst 1, 1) := by decide +kernel
theorem dX6_get_21 : decode cX6_get 21 = .ok (.iadd, 1) := by decide +kernel
theorem dX6_get_22 : decode cX6_get 22 = .ok (.invokestatic 41, 3) := by decide +kernel
theorem dX6_get_25 : decode cX6_get 25 = .ok (.invokevirtual 45, 3) := by decide +kernel
theorem dX6_get_28 : decode cX6_get 28 = .ok (.bipush 8, 2) := by decide +kernel
theorem dX6_get_30 : decode cX6_get 30 = .ok (.ishl, 1) := by decide +kernel
theorem dX6_get_31 : decode cX6_get 31 = .ok (.ior, 1) := by decide +kernel
theorem dX6_get_32 : decode cX6_get 32 = .ok (.goto 5, 3) := by decide +kernel
theorem dX6_get_35 : decode cX6_get 35 = .ok (.iload 4, 2) := by decide +kernel
theorem dX6_get_37 : decode cX6_get 37 = .ok (.ireturn, 1) := by decide +kernel
set_option maxRecDepth 20000 in
theorem ggX6_put_X6_placeOf : GoodIn wsX6_put wsX6_placeOf := goodIn_r _ [4, 5, 6] (by decide +kernel) (by decide +kernel)
set_option maxRecDepth 20000 in
theorem gX6_put_X6_placeOf : GoodIn wsX6_put (va_wsS RX6 41 yX6_placeOf wsX6_placeOf) := goodIn_app (goodIn_of _ (by decide +kernel)) ggX6_put_X6_placeOf
set_option maxRecDepth 20000 in
theorem ggX6_put_X6_store : GoodIn wsX6_put wsX6_store := goodIn_r _ [10, 11, 12, 13, 14, 15, 16, 17, 18, 19, 20, 21, 22, 23, 24, 25, 26, 27, 28, 29, 30, 31, 32, 33, 34, 35, 36, 37, 38, 39, 40, 41, 42, 43] (by decide +kernel) (by decide +kernel)
set_option maxRecDepth 20000 in
theorem gX6_put_X6_store : GoodIn wsX6_put (wsV RX6 49 RX6 yX6_store wsX6_store) := goodIn_app (goodIn_of _ (by decide +kernel)) ggX6_put_X6_store
theorem dX6_put_0 : decode cX6_put 0 = .ok (.aload_n 0, 1) := by decide +kernel
theorem dX6_put_1 : decode cX6_put 1 = .ok (.iload_n 1, 1) := by decide +kernel
theorem dX6_put_2 : decode cX6_put 2 = .ok (.iload_n 2, 1) := by decide +kernel
theorem dX6_put_3 : decode cX6_put 3 = .ok (.invokestatic 41, 3) := by decide +kernel
theorem dX6_put_6 : decode cX6_put 6 = .ok (.iload 4, 2) := by decide +kernel
theorem dX6_put_8 : decode cX6_put 8 = .ok (.invokevirtual 49, 3) := by decide +kernel
theorem dX6_put_11 : decode cX6_put 11 = .ok (.iload_n 3, 1) := by decide +kernel
theorem dX6_put_12 : decode cX6_put 12 = .ok (.ifCond .eq 19, 3) := by decide +kernel
theorem dX6_put_15 : decode cX6_put 15 = .ok (.aload_n 0, 1) := by decide +kernel
theorem dX6_put_16 : decode cX6_put 16 = .ok (.iload_n 1, 1) := by decide +kernel
theorem dX6_put_17 : decode cX6_put 17 = .ok (.iload_n 2, 1) := by decide +kernel
theorem dX6_put_18 : decode cX6_put 18 = .ok (.iconst 1, 1) := by decide +kernel
theorem dX6_put_19 : decode cX6_put 19 = .ok (.iadd, 1) := by decide +kernel
theorem dX6_put_20 : decode cX6_put 20 = .ok (.invokestatic 41, 3) := by decide +kernel
theorem dX6_put_23 : decode cX6_put 23 = .ok (.iload 4, 2) := by decide +kernel
theorem dX6_put_25 : decode cX6_put 25 = .ok (.bipush 8, 2) := by decide +kernel
theorem dX6_put_27 : decode cX6_put 27 = .ok (.ishr, 1) := by decide +kernel
theorem dX6_put_28 : decode cX6_put 28 = .ok (.invokevirtual 49, 3) := by decide +kernel
theorem dX6_put_31 : decode cX6_put 31 = .ok (.return_, 1) := by decide +kernel
theorem dX6_register_0 : decode cX6_register 0 = .ok (.iload_n 2, 1) := by decide +kernel
theorem dX6_register_1 : decode cX6_register 1 = .ok (.ifCond .eq 10, 3) := by decide +kernel
theorem dX6_register_4 : decode cX6_register 4 = .ok (.aload_n 0, 1) := by decide +kernel
theorem dX6_register_5 : decode cX6_register 5 = .ok (.getfield 7, 3) := by decide +kernel
theorem dX6_register_8 : decode cX6_register 8 = .ok (.iload_n 1, 1) := by decide +kernel
theorem dX6_register_9 : decode cX6_register 9 = .ok (.iaload, 1) := by decide +kernel
theorem dX6_register_10 : decode cX6_register 10 = .ok (.ireturn, 1) := by decide +kernel
theorem dX6_register_11 : decode cX6_register 11 = .ok (.iload_n 1, 1) := by decide +kernel
theorem dX6_register_12 : decode cX6_register 12 = .ok (.iconst 4, 1) := by decide +kernel
theorem dX6_register_13 : decode cX6_register 13 = .ok (.if_icmp .ge 16, 3) := by decide +kernel
theorem dX6_register_16 : decode cX6_register 16 = .ok (.aload_n 0, 1) := by decide +kernel
theorem dX6_register_17 : decode cX6_register 17 = .ok (.getfield 7, 3) := by decide +kernel
theorem dX6_register_20 : decode cX6_register 20 = .ok (.iload_n 1, 1) := by decide +kernel
theorem dX6_register_21 : decode cX6_register 21 = .ok (.iaload, 1) := by decide +kernel
theorem dX6_register_22 : decode cX6_register 22 = .ok (.sipush 255, 3) := by decide +kernel
theorem dX6_register_25 : decode cX6_register 25 = .ok (.iand, 1) := by decide +kernel
theorem dX6_register_26 : decode cX6_register 26 = .ok (.goto 14, 3) := by decide +kernel
theorem dX6_register_29 : decode cX6_register 29 = .ok (.aload_n 0, 1) := by decide +kernel
theorem dX6_register_30 : decode cX6_register 30 = .ok (.getfield 7, 3) := by decide +kernel
theorem dX6_register_33 : decode cX6_register 33 = .ok (.iload_n 1, 1) := by decide +kernel
theorem dX6_register_34 : decode cX6_register 34 = .ok (.iconst 4, 1) := by decide +kernel
theorem dX6_register_35 : decode cX6_register 35 = .ok (.isub, 1) := by decide +kernel
theorem dX6_register_36 : decode cX6_register 36 = .ok (.iaload, 1) := by decide +kernel
theorem dX6_register_37 : decode cX6_register 37 = .ok (.bipush 8, 2) := by decide +kernel
theorem dX6_register_39 : decode cX6_register 39 = .ok (.ishr, 1) := by decide +kernel
theorem dX6_register_40 : decode cX6_register 40 = .ok (.ireturn, 1) := by decide +kernel
theorem dX6_setRegister_0 : decode cX6_setRegister 0 = .ok (.iload_n 2, 1) := by decide +kernel
theorem dX6_setRegister_1 : decode cX6_setRegister 1 = .ok (.ifCond .eq 16, 3) := by decide +kernel
theorem dX6_setRegister_4 : decode cX6_setRegister 4 = .ok (.aload_n 0, 1) := by decide +kernel
theorem dX6_setRegister_5 : decode cX6_setRegister 5 = .ok (.getfield 7, 3) := by decide +kernel
theorem dX6_setRegister_8 : decode cX6_setRegister 8 = .ok (.iload_n 1, 1) := by decide +kernel
theorem dX6_setRegister_9 : decode cX6_setRegister 9 = .ok (.iload_n 3, 1) := by decide +kernel
theorem dX6_setRegister_10 : decode cX6_setRegister 10 = .ok (.ldc 39, 2) := by decide +kernel
theorem dX6_setRegister_12 : decode cX6_setRegister 12 = .ok (.iand, 1) := by decide +kernel
theorem dX6_setRegister_13 : decode cX6_setRegister 13 = .ok (.iastore, 1) := by decide +kernel
theorem dX6_setRegister_14 : decode cX6_setRegister 14 = .ok (.goto 61, 3) := by decide +kernel
theorem dX6_setRegister_17 : decode cX6_setRegister 17 = .ok (.iload_n 1, 1) := by decide +kernel
theorem dX6_setRegister_18 : decode cX6_setRegister 18 = .ok (.iconst 4, 1) := by decide +kernel
theorem dX6_setRegister_19 : decode cX6_setRegister 19 = .ok (.if_icmp .ge 27, 3) := by decide +kernel
theorem dX6_setRegister_22 : decode cX6_setRegister 22 = .ok (.aload_n 0, 1) := by decide +kernel
theorem dX6_setRegister_23 : decode cX6_setRegister 23 = .ok (.getfield 7, 3) := by decide +kernel
theorem dX6_setRegister_26 : decode cX6_setRegister 26 = .ok (.iload_n 1, 1) := by decide +kernel
theorem dX6_setRegister_27 : decode cX6_setRegister 27 = .ok (.aload_n 0, 1) := by decide +kernel
theorem dX6_setRegister_28 : decode cX6_setRegister 28 = .ok (.getfield 7, 3) := by decide +kernel
theorem dX6_setRegister_31 : decode cX6_setRegister 31 = .ok (.iload_n 1, 1) := by decide +kernel
theorem dX6_setRegister_32 : decode cX6_setRegister 32 = .ok (.iaload, 1) := by decide +kernel
theorem dX6_setRegister_33 : decode cX6_setRegister 33 = .ok (.ldc 53, 2) := by decide +kernel
theorem dX6_setRegister_35 : decode cX6_setRegister 35 = .ok (.iand, 1) := by decide +kernel
theorem dX6_setRegister_36 : decode cX6_setRegister 36 = .ok (.iload_n 3, 1) := by decide +kernel
theorem dX6_setRegister_37 : decode cX6_setRegister 37 = .ok (.sipush 255, 3) := by decide +kernel
theorem dX6_setRegister_40 : decode cX6_setRegister 40 = .ok (.iand, 1) := by decide +kernel
theorem dX6_setRegister_41 : decode cX6_setRegister 41 = .ok (.ior, 1) := by decide +kernel
theorem dX6_setRegister_42 : decode cX6_setRegister 42 = .ok (.iastore, 1) := by decide +kernel
theorem dX6_setRegister_43 : decode cX6_setRegister 43 = .ok (.goto 32, 3) := by decide +kernel
theorem dX6_setRegister_46 : decode cX6_setRegister 46 = .ok (.aload_n 0, 1) := by decide +kernel
theorem dX6_setRegister_47 : decode cX6_setRegister 47 = .ok (.getfield 7, 3) := by decide +kernel
theorem dX6_setRegister_50 : decode cX6_setRegister 50 = .ok (.iload_n 1, 1) := by decide +kernel
theorem dX6_setRegister_51 : decode cX6_setRegister 51 = .ok (.iconst 4, 1) := by decide +kernel
theorem dX6_setRegister_52 : decode cX6_setRegister 52 = .ok (.isub, 1) := by decide +kernel
theorem dX6_setRegister_53 : decode cX6_setRegister 53 = .ok (.aload_n 0, 1) := by decide +kernel
theorem dX6_setRegister_54 : decode cX6_setRegister 54 = .ok (.getfield 7, 3) := by decide +kernel
theorem dX6_setRegister_57 : decode cX6_setRegister 57 = .ok (.iload_n 1, 1) := by decide +kernel
theorem dX6_setRegister_58 : decode cX6_setRegister 58 = .ok (.iconst 4, 1) := by decide +kernel
theorem dX6_setRegister_59 : decode cX6_setRegister 59 = .ok (.isub, 1) := by decide +kernel
theorem dX6_setRegister_60 : decode cX6_setRegister 60 = .ok (.iaload, 1) := by decide +kernel
theorem dX6_setRegister_61 : decode cX6_setRegister 61 = .ok (.sipush 255, 3) := by decide +kernel
theorem dX6_setRegister_64 : decode cX6_setRegister 64 = .ok (.iand, 1) := by decide +kernel
theorem dX6_setRegister_65 : decode cX6_setRegister 65 = .ok (.iload_n 3, 1) := by decide +kernel
theorem dX6_setRegister_66 : decode cX6_setRegister 66 = .ok (.sipush 255, 3) := by decide +kernel
theorem dX6_setRegister_69 : decode cX6_setRegister 69 = .ok (.iand, 1) := by decide +kernel
theorem dX6_setRegister_70 : decode cX6_setRegister 70 = .ok (.bipush 8, 2) := by decide +kernel
theorem dX6_setRegister_72 : decode cX6_setRegister 72 = .ok (.ishl, 1) := by decide +kernel
theorem dX6_setRegister_73 : decode cX6_setRegister 73 = .ok (.ior, 1) := by decide +kernel
theorem dX6_setRegister_74 : decode cX6_setRegister 74 = .ok (.iastore, 1) := by decide +kernel
theorem dX6_setRegister_75 : decode cX6_setRegister 75 = .ok (.return_, 1) := by decide +kernel
theorem dX6_has_0 : decode cX6_has 0 = .ok (.aload_n 0, 1) := by decide +kernel
theorem dX6_has_1 : decode cX6_has 1 = .ok (.getfield 54, 3) := by decide +kernel
theorem dX6_has_4 : decode cX6_has 4 = .ok (.iload_n 1, 1) := by decide +kernel
theorem dX6_has_5 : decode cX6_has 5 = .ok (.iand, 1) := by decide +kernel
theorem dX6_has_6 : decode cX6_has 6 = .ok (.ifCond .eq 7, 3) := by decide +kernel
theorem dX6_has_9 : decode cX6_has 9 = .ok (.iconst 1, 1) := by decide +kernel
theorem dX6_has_10 : decode cX6_has 10 = .ok (.goto 4, 3) := by decide +kernel
theorem dX6_has_13 : decode cX6_has 13 = .ok (.iconst 0, 1) := by decide +kernel
theorem dX6_has_14 : decode cX6_has 14 = .ok (.ireturn, 1) := by decide +kernel
theorem dX6_mark_0 : decode cX6_mark 0 = .ok (.aload_n 0, 1) := by decide +kernel
theorem dX6_mark_1 : decode cX6_mark 1 = .ok (.iload_n 2, 1) := by decide +kernel
theorem dX6_mark_2 : decode cX6_mark 2 = .ok (.ifCond .eq 12, 3) := by decide +kernel
theorem dX6_mark_5 : decode cX6_mark 5 = .ok (.aload_n 0, 1) := by decide +kernel
theorem dX6_mark_6 : decode cX6_mark 6 = .ok (.getfield 54, 3) := by decide +kernel
theorem dX6_mark_9 : decode cX6_mark 9 = .ok (.iload_n 1, 1) := by decide +kernel
theorem dX6_mark_10 : decode cX6_mark 10 = .ok (.ior, 1) := by decide +kernel
theorem dX6_mark_11 : decode cX6_mark 11 = .ok (.goto 11, 3) := by decide +kernel
theorem dX6_mark_14 : decode cX6_mark 14 = .ok (.aload_n 0, 1) := by decide +kernel
theorem dX6_mark_15 : decode cX6_mark 15 = .ok (.getfield 54, 3) := by decide +kernel
theorem dX6_mark_18 : decode cX6_mark 18 = .ok (.iload_n 1, 1) := by decide +kernel
theorem dX6_mark_19 : decode cX6_mark 19 = .ok (.iconst (-1), 1) := by decide +kernel
theorem dX6_mark_20 : decode cX6_mark 20 = .ok (.ixor, 1) := by decide +kernel
theorem dX6_mark_21 : decode cX6_mark 21 = .ok (.iand, 1) := by decide +kernel
theorem dX6_mark_22 : decode cX6_mark 22 = .ok (.putfield 54, 3) := by decide +kernel
theorem dX6_mark_25 : decode cX6_mark 25 = .ok (.return_, 1) := by decide +kernel
set_option maxRecDepth 20000 in
theorem ggX6_push_X6_put : GoodIn wsX6_push wsX6_put := goodIn_r _ [8, 9, 10, 7, 11, 2, 12, 13, 14, 15, 16, 17, 18, 19, 20, 21, 22, 23, 24, 25, 26, 27, 28, 29, 30, 31, 32, 33, 34, 35, 36, 37, 38, 39, 40, 41, 42, 43, 44, 45, 46, 47, 48, 49] (by decide +kernel) (by decide +kernel)
set_option maxRecDepth 20000 in
theorem gX6_push_X6_put : GoodIn wsX6_push (wsV RX6 57 RX6 yX6_put wsX6_put) := goodIn_app (goodIn_of _ (by decide +kernel)) ggX6_push_X6_put
theorem dX6_push_0 : decode cX6_push 0 = .ok (.aload_n 0, 1) := by decide +kernel
theorem dX6_push_1 : decode cX6_push 1 = .ok (.getfield 7, 3) := by decide +kernel
theorem dX6_push_4 : decode cX6_push 4 = .ok (.iconst 4, 1) := by decide +kernel
theorem dX6_push_5 : decode cX6_push 5 = .ok (.aload_n 0, 1) := by decide +kernel
theorem dX6_push_6 : decode cX6_push 6 = .ok (.getfield 7, 3) := by decide +kernel
theorem dX6_push_9 : decode cX6_push 9 = .ok (.iconst 4, 1) := by decide +kernel
theorem dX6_push_10 : decode cX6_push 10 = .ok (.iaload, 1) := by decide +kernel
theorem dX6_push_11 : decode cX6_push 11 = .ok (.iconst 2, 1) := by decide +kernel
theorem dX6_push_12 : decode cX6_push 12 = .ok (.isub, 1) := by decide +kernel
theorem dX6_push_13 : decode cX6_push 13 = .ok (.ldc 39, 2) := by decide +kernel
theorem dX6_push_15 : decode cX6_push 15 = .ok (.iand, 1) := by decide +kernel
theorem dX6_push_16 : decode cX6_push 16 = .ok (.iastore, 1) := by decide +kernel
theorem dX6_push_17 : decode cX6_push 17 = .ok (.aload_n 0, 1) := by decide +kernel
theorem dX6_push_18 : decode cX6_push 18 = .ok (.aload_n 0, 1) := by decide +kernel
theorem dX6_push_19 : decode cX6_push 19 = .ok (.getfield 13, 3) := by decide +kernel
theorem dX6_push_22 : decode cX6_push 22 = .ok (.iconst 2, 1) := by decide +kernel
theorem dX6_push_23 : decode cX6_push 23 = .ok (.iaload, 1) := by decide +kernel
theorem dX6_push_24 : decode cX6_push 24 = .ok (.aload_n 0, 1) := by decide +kernel
theorem dX6_push_25 : decode cX6_push 25 = .ok (.getfield 7, 3) := by decide +kernel
theorem dX6_push_28 : decode cX6_push 28 = .ok (.iconst 4, 1) := by decide +kernel
theorem dX6_push_29 : decode cX6_push 29 = .ok (.iaload, 1) := by decide +kernel
theorem dX6_push_30 : decode cX6_push 30 = .ok (.iconst 1, 1) := by decide +kernel
theorem dX6_push_31 : decode cX6_push 31 = .ok (.iload_n 1, 1) := by decide +kernel
theorem dX6_push_32 : decode cX6_push 32 = .ok (.invokevirtual 57, 3) := by decide +kernel
theorem dX6_push_35 : decode cX6_push 35 = .ok (.return_, 1) := by decide +kernel
set_option maxRecDepth 20000 in
theorem ggX6_pop_X6_get : GoodIn wsX6_pop wsX6_get := goodIn_r _ [8, 9, 10, 7, 11, 3, 12, 13, 14, 15, 16, 17, 18, 19, 20, 21, 22, 23, 24, 25, 26, 27, 28, 29, 30, 31, 32, 33, 34, 35, 36, 37, 38, 39, 40, 41, 42, 43, 44, 45, 46, 47] (by decide +kernel) (by decide +kernel)
set_option maxRecDepth 20000 in
theorem gX6_pop_X6_get : GoodIn wsX6_pop (wsV RX6 61 RX6 yX6_get wsX6_get) := goodIn_app (goodIn_of _ (by decide +kernel)) ggX6_pop_X6_get
theorem dX6_pop_0 : decode cX6_pop 0 = .ok (.aload_n 0, 1) := by decide +kernel
theorem dX6_pop_1 : decode cX6_pop 1 = .ok (.aload_n 0, 1) := by decide +kernel
theorem dX6_pop_2 : decode cX6_pop 2 = .ok (.getfield 13, 3) := by decide +kernel
theorem dX6_pop_5 : decode cX6_pop 5 = .ok (.iconst 2, 1) := by decide +kernel
theorem dX6_pop_6 : decode cX6_pop 6 = .ok (.iaload, 1) := by decide +kernel
theorem dX6_pop_7 : decode cX6_pop 7 = .ok (.aload_n 0, 1) := by decide +kernel
theorem dX6_pop_8 : decode cX6_pop 8 = .ok (.getfield 7, 3) := by decide +kernel
theorem dX6_pop_11 : decode cX6_pop 11 = .ok (.iconst 4, 1) := by decide +kernel
theorem dX6_pop_12 : decode cX6_pop 12 = .ok (.iaload, 1) := by decide +kernel
theorem dX6_pop_13 : decode cX6_pop 13 = .ok (.iconst 1, 1) := by decide +kernel
theorem dX6_pop_14 : decode cX6_pop 14 = .ok (.invokevirtual 61, 3) := by decide +kernel
theorem dX6_pop_17 : decode cX6_pop 17 = .ok (.istore_n 1, 1) := by decide +kernel
theorem dX6_pop_18 : decode cX6_pop 18 = .ok (.aload_n 0, 1) := by decide +kernel
theorem dX6_pop_19 : decode cX6_pop 19 = .ok (.getfield 7, 3) := by decide +kernel
theorem dX6_pop_22 : decode cX6_pop 22 = .ok (.iconst 4, 1) := by decide +kernel
theorem dX6_pop_23 : decode cX6_pop 23 = .ok (.aload_n 0, 1) := by decide +kernel
theorem dX6_pop_24 : decode cX6_pop 24 = .ok (.getfield 7, 3) := by decide +kernel
theorem dX6_pop_27 : decode cX6_pop 27 = .ok (.iconst 4, 1) := by decide +kernel
theorem dX6_pop_28 : decode cX6_pop 28 = .ok (.iaload, 1) := by decide +kernel
theorem dX6_pop_29 : decode cX6_pop 29 = .ok (.iconst 2, 1) := by decide +kernel
theorem dX6_pop_30 : decode cX6_pop 30 = .ok (.iadd, 1) := by decide +kernel
theorem dX6_pop_31 : decode cX6_pop 31 = .ok (.ldc 39, 2) := by decide +kernel
theorem dX6_pop_33 : decode cX6_pop 33 = .ok (.iand, 1) := by decide +kernel
theorem dX6_pop_34 : decode cX6_pop 34 = .ok (.iastore, 1) := by decide +kernel
theorem dX6_pop_35 : decode cX6_pop 35 = .ok (.iload_n 1, 1) := by decide +kernel
theorem dX6_pop_36 : decode cX6_pop 36 = .ok (.ireturn, 1) := by decide +kernel
theorem dX6_top_0 : decode cX6_top 0 = .ok (.iload_n 0, 1) := by decide +kernel
theorem dX6_top_1 : decode cX6_top 1 = .ok (.ifCond .eq 8, 3) := by decide +kernel
theorem dX6_top_4 : decode cX6_top 4 = .ok (.ldc 65, 2) := by decide +kernel
theorem dX6_top_6 : decode cX6_top 6 = .ok (.goto 6, 3) := by decide +kernel
theorem dX6_top_9 : decode cX6_top 9 = .ok (.sipush 128, 3) := by decide +kernel
theorem dX6_top_12 : decode cX6_top 12 = .ok (.ireturn, 1) := by decide +kernel
theorem dX6_all_0 : decode cX6_all 0 = .ok (.iload_n 0, 1) := by decide +kernel
theorem dX6_all_1 : decode cX6_all 1 = .ok (.ifCond .eq 8, 3) := by decide +kernel
theorem dX6_all_4 : decode cX6_all 4 = .ok (.ldc 39, 2) := by decide +kernel
theorem dX6_all_6 : decode cX6_all 6 = .ok (.goto 6, 3) := by decide +kernel
theorem dX6_all_9 : decode cX6_all 9 = .ok (.sipush 255, 3) := by decide +kernel
theorem dX6_all_12 : decode cX6_all 12 = .ok (.ireturn, 1) := by decide +kernel
set_option maxRecDepth 20000 in
theorem ggX6_signed_X6_top : GoodIn wsX6_signed wsX6_top := goodIn_r _ [4, 5] (by decide +kernel) (by decide +kernel)
set_option maxRecDepth 20000 in
theorem gX6_signed_X6_top : GoodIn wsX6_signed (va_wsS RX6 66 yX6_top wsX6_top) := goodIn_app (goodIn_of _ (by decide +kernel)) ggX6_signed_X6_top
set_option maxRecDepth 20000 in
theorem ggX6_signed_X6_all : GoodIn wsX6_signed wsX6_all := goodIn_r _ [8, 9] (by decide +kernel) (by decide +kernel)
set_option maxRecDepth 20000 in
theorem gX6_signed_X6_all : GoodIn wsX6_signed (va_wsS RX6 70 yX6_all wsX6_all) := goodIn_app (goodIn_of _ (by decide +kernel)) ggX6_signed_X6_all
theorem dX6_signed_0 : decode cX6_signed 0 = .ok (.iload_n 0, 1) := by decide +kernel
theorem dX6_signed_1 : decode cX6_signed 1 = .ok (.iload_n 1, 1) := by decide +kernel
theorem dX6_signed_2 : decode cX6_signed 2 = .ok (.invokestatic 66, 3) := by decide +kernel
theorem dX6_signed_5 : decode cX6_signed 5 = .ok (.iand, 1) := by decide +kernel
theorem dX6_signed_6 : decode cX6_signed 6 = .ok (.ifCond .eq 14, 3) := by decide +kernel
theorem dX6_signed_9 : decode cX6_signed 9 = .ok (.iload_n 0, 1) := by decide +kernel
theorem dX6_signed_10 : decode cX6_signed 10 = .ok (.iload_n 1, 1) := by decide +kernel
theorem dX6_signed_11 : decode cX6_signed 11 = .ok (.invokestatic 70, 3) := by decide +kernel
theorem dX6_signed_14 : decode cX6_signed 14 = .ok (.isub, 1) := by decide +kernel
theorem dX6_signed_15 : decode cX6_signed 15 = .ok (.iconst 1, 1) := by decide +kernel
theorem dX6_signed_16 : decode cX6_signed 16 = .ok (.isub, 1) := by decide +kernel
theorem dX6_signed_17 : decode cX6_signed 17 = .ok (.goto 4, 3) := by decide +kernel
theorem dX6_signed_20 : decode cX6_signed 20 = .ok (.iload_n 0, 1) := by decide +kernel
theorem dX6_signed_21 : decode cX6_signed 21 = .ok (.ireturn, 1) := by decide +kernel
set_option maxRecDepth 20000 in
theorem ggX6_byAnswer_X6_mark : GoodIn wsX6_byAnswer wsX6_mark := goodIn_r _ [5, 6, 11, 12, 13, 14, 15, 16, 17, 18, 19, 20, 21, 22, 23, 24, 25, 26, 27, 28, 29, 30, 31, 32, 33, 34, 35, 36, 37, 38, 39] (by decide +kernel) (by decide +kernel)
set_option maxRecDepth 20000 in
theorem gX6_byAnswer_X6_mark : GoodIn wsX6_byAnswer (wsV RX6 73 RX6 yX6_mark wsX6_mark) := goodIn_app (goodIn_of _ (by decide +kernel)) ggX6_byAnswer_X6_mark
set_option maxRecDepth 20000 in
theorem ggX6_byAnswer_X6_top : GoodIn wsX6_byAnswer wsX6_top := goodIn_r _ [9, 10] (by decide +kernel) (by decide +kernel)
set_option maxRecDepth 20000 in
theorem gX6_byAnswer_X6_top : GoodIn wsX6_byAnswer (va_wsS RX6 66 yX6_top wsX6_top) := goodIn_app (goodIn_of _ (by decide +kernel)) ggX6_byAnswer_X6_top
theorem dX6_byAnswer_0 : decode cX6_byAnswer 0 = .ok (.aload_n 0, 1) := by decide +kernel
theorem dX6_byAnswer_1 : decode cX6_byAnswer 1 = .ok (.bipush 64, 2) := by decide +kernel
theorem dX6_byAnswer_3 : decode cX6_byAnswer 3 = .ok (.iload_n 1, 1) := by decide +kernel
theorem dX6_byAnswer_4 : decode cX6_byAnswer 4 = .ok (.ifCond .ne 7, 3) := by decide +kernel
theorem dX6_byAnswer_7 : decode cX6_byAnswer 7 = .ok (.iconst 1, 1) := by decide +kernel
theorem dX6_byAnswer_8 : decode cX6_byAnswer 8 = .ok (.goto 4, 3) := by decide +kernel
theorem dX6_byAnswer_11 : decode cX6_byAnswer 11 = .ok (.iconst 0, 1) := by decide +kernel
theorem dX6_byAnswer_12 : decode cX6_byAnswer 12 = .ok (.invokevirtual 73, 3) := by decide +kernel
theorem dX6_byAnswer_15 : decode cX6_byAnswer 15 = .ok (.aload_n 0, 1) := by decide +kernel
theorem dX6_byAnswer_16 : decode cX6_byAnswer 16 = .ok (.sipush 128, 3) := by decide +kernel
theorem dX6_byAnswer_19 : decode cX6_byAnswer 19 = .ok (.iload_n 1, 1) := by decide +kernel
theorem dX6_byAnswer_20 : decode cX6_byAnswer 20 = .ok (.iload_n 2, 1) := by decide +kernel
theorem dX6_byAnswer_21 : decode cX6_byAnswer 21 = .ok (.invokestatic 66, 3) := by decide +kernel
theorem dX6_byAnswer_24 : decode cX6_byAnswer 24 = .ok (.iand, 1) := by decide +kernel
theorem dX6_byAnswer_25 : decode cX6_byAnswer 25 = .ok (.ifCond .eq 7, 3) := by decide +kernel
theorem dX6_byAnswer_28 : decode cX6_byAnswer 28 = .ok (.iconst 1, 1) := by decide +kernel
theorem dX6_byAnswer_29 : decode cX6_byAnswer 29 = .ok (.goto 4, 3) := by decide +kernel
theorem dX6_byAnswer_32 : decode cX6_byAnswer 32 = .ok (.iconst 0, 1) := by decide +kernel
theorem dX6_byAnswer_33 : decode cX6_byAnswer 33 = .ok (.invokevirtual 73, 3) := by decide +kernel
theorem dX6_byAnswer_36 : decode cX6_byAnswer 36 = .ok (.iconst 0, 1) := by decide +kernel
theorem dX6_byAnswer_37 : decode cX6_byAnswer 37 = .ok (.istore_n 3, 1) := by decide +kernel
theorem dX6_byAnswer_38 : decode cX6_byAnswer 38 = .ok (.iconst 0, 1) := by decide +kernel
theorem dX6_byAnswer_39 : decode cX6_byAnswer 39 = .ok (.istore 4, 2) := by decide +kernel
theorem dX6_byAnswer_41 : decode cX6_byAnswer 41 = .ok (.iload 4, 2) := by decide +kernel
theorem dX6_byAnswer_43 : decode cX6_byAnswer 43 = .ok (.bipush 8, 2) := by decide +kernel
theorem dX6_byAnswer_45 : decode cX6_byAnswer 45 = .ok (.if_icmp .ge 18, 3) := by decide +kernel
theorem dX6_byAnswer_48 : decode cX6_byAnswer 48 = .ok (.iload_n 3, 1) := by decide +kernel
theorem dX6_byAnswer_49 : decode cX6_byAnswer 49 = .ok (.iload_n 1, 1) := by decide +kernel
theorem dX6_byAnswer_50 : decode cX6_byAnswer 50 = .ok (.iload 4, 2) := by decide +kernel
theorem dX6_byAnswer_52 : decode cX6_byAnswer 52 = .ok (.ishr, 1) := by decide +kernel
theorem dX6_byAnswer_53 : decode cX6_byAnswer 53 = .ok (.iconst 1, 1) := by decide +kernel
theorem dX6_byAnswer_54 : decode cX6_byAnswer 54 = .ok (.iand, 1) := by decide +kernel
theorem dX6_byAnswer_55 : decode cX6_byAnswer 55 = .ok (.iadd, 1) := by decide +kernel
theorem dX6_byAnswer_56 : decode cX6_byAnswer 56 = .ok (.istore_n 3, 1) := by decide +kernel
theorem dX6_byAnswer_57 : decode cX6_byAnswer 57 = .ok (.iinc 4 1, 3) := by decide +kernel
theorem dX6_byAnswer_60 : decode cX6_byAnswer 60 = .ok (.goto (-19), 3) := by decide +kernel
theorem dX6_byAnswer_63 : decode cX6_byAnswer 63 = .ok (.aload_n 0, 1) := by decide +kernel
theorem dX6_byAnswer_64 : decode cX6_byAnswer 64 = .ok (.iconst 4, 1) := by decide +kernel
theorem dX6_byAnswer_65 : decode cX6_byAnswer 65 = .ok (.iload_n 3, 1) := by decide +kernel
theorem dX6_byAnswer_66 : decode cX6_byAnswer 66 = .ok (.iconst 2, 1) := by decide +kernel
theorem dX6_byAnswer_67 : decode cX6_byAnswer 67 = .ok (.irem, 1) := by decide +kernel
theorem dX6_byAnswer_68 : decode cX6_byAnswer 68 = .ok (.ifCond .ne 7, 3) := by decide +kernel
theorem dX6_byAnswer_71 : decode cX6_byAnswer 71 = .ok (.iconst 1, 1) := by decide +kernel
theorem dX6_byAnswer_72 : decode cX6_byAnswer 72 = .ok (.goto 4, 3) := by decide +kernel
theorem dX6_byAnswer_75 : decode cX6_byAnswer 75 = .ok (.iconst 0, 1) := by decide +kernel
theorem dX6_byAnswer_76 : decode cX6_byAnswer 76 = .ok (.invokevirtual 73, 3) := by decide +kernel
theorem dX6_byAnswer_79 : decode cX6_byAnswer 79 = .ok (.return_, 1) := by decide +kernel
set_option maxRecDepth 20000 in
theorem ggX6_sum_X6_signed : GoodIn wsX6_sum wsX6_signed := goodIn_r _ [4, 5, 6, 3, 7, 8, 9, 10, 11, 12] (by decide +kernel) (by decide +kernel)
set_option maxRecDepth 20000 in
theorem gX6_sum_X6_signed : GoodIn wsX6_sum (va_wsS RX6 77 yX6_signed wsX6_signed) := goodIn_app (goodIn_of _ (by decide +kernel)) ggX6_sum_X6_signed
set_option maxRecDepth 20000 in
theorem ggX6_sum_X6_all : GoodIn wsX6_sum wsX6_all := goodIn_r _ [11, 12] (by decide +kernel) (by decide +kernel)
set_option maxRecDepth 20000 in
theorem gX6_sum_X6_all : GoodIn wsX6_sum (va_wsS RX6 70 yX6_all wsX6_all) := goodIn_app (goodIn_of _ (by decide +kernel)) ggX6_sum_X6_all
set_option maxRecDepth 20000 in
theorem ggX6_sum_X6_mark : GoodIn wsX6_sum wsX6_mark := goodIn_r _ [16, 17, 22, 23, 24, 25, 26, 27, 28, 29, 30, 31, 32, 33, 34, 35, 36, 37, 38, 39, 40, 41, 42, 43, 44, 45, 46, 47, 48, 49, 50] (by decide +kernel) (by decide +kernel)
set_option maxRecDepth 20000 in
theorem gX6_sum_X6_mark : GoodIn wsX6_sum (wsV RX6 73 RX6 yX6_mark wsX6_mark) := goodIn_app (goodIn_of _ (by decide +kernel)) ggX6_sum_X6_mark
set_option maxRecDepth 20000 in
theorem ggX6_sum_X6_top : GoodIn wsX6_sum wsX6_top := goodIn_r _ [7, 8] (by decide +kernel) (by decide +kernel)
set_option maxRecDepth 20000 in
theorem gX6_sum_X6_top : GoodIn wsX6_sum (va_wsS RX6 66 yX6_top wsX6_top) := goodIn_app (goodIn_of _ (by decide +kernel)) ggX6_sum_X6_top
set_option maxRecDepth 20000 in
theorem ggX6_sum_X6_byAnswer : GoodIn wsX6_sum wsX6_byAnswer := goodIn_r _ [21, 13, 14, 15, 3, 16, 17, 5, 6, 7, 8, 22, 23, 24, 25, 26, 27, 28, 29, 30, 31, 32, 33, 34, 35, 36, 37, 38, 39, 40, 41, 42, 43, 44, 45, 46, 47, 48, 49, 50] (by decide +kernel) (by decide +kernel)
set_option maxRecDepth 20000 in
theorem gX6_sum_X6_byAnswer : GoodIn wsX6_sum (wsV RX6 81 RX6 yX6_byAnswer wsX6_byAnswer) := goodIn_app (goodIn_of _ (by decide +kernel)) ggX6_sum_X6_byAnswer
theorem dX6_sum_0 : decode cX6_sum 0 = .ok (.iload_n 1, 1) := by decide +kernel
theorem dX6_sum_1 : decode cX6_sum 1 = .ok (.iload_n 2, 1) := by decide +kernel
theorem dX6_sum_2 : decode cX6_sum 2 = .ok (.iadd, 1) := by decide +kernel
theorem dX6_sum_3 : decode cX6_sum 3 = .ok (.iload_n 3, 1) := by decide +kernel
theorem dX6_sum_4 : decode cX6_sum 4 = .ok (.iadd, 1) := by decide +kernel
theorem dX6_sum_5 : decode cX6_sum 5 = .ok (.istore 5, 2) := by decide +kernel
theorem dX6_sum_7 : decode cX6_sum 7 = .ok (.iload_n 1, 1) := by decide +kernel
theorem dX6_sum_8 : decode cX6_sum 8 = .ok (.iload 4, 2) := by decide +kernel
theorem dX6_sum_10 : decode cX6_sum 10 = .ok (.invokestatic 77, 3) := by decide +kernel
theorem dX6_sum_13 : decode cX6_sum 13 = .ok (.iload_n 2, 1) := by decide +kernel
theorem dX6_sum_14 : decode cX6_sum 14 = .ok (.iload 4, 2) := by decide +kernel
theorem dX6_sum_16 : decode cX6_sum 16 = .ok (.invokestatic 77, 3) := by decide +kernel
theorem dX6_sum_19 : decode cX6_sum 19 = .ok (.iadd, 1) := by decide +kernel
theorem dX6_sum_20 : decode cX6_sum 20 = .ok (.iload_n 3, 1) := by decide +kernel
theorem dX6_sum_21 : decode cX6_sum 21 = .ok (.iadd, 1) := by decide +kernel
theorem dX6_sum_22 : decode cX6_sum 22 = .ok (.istore 6, 2) := by decide +kernel
theorem dX6_sum_24 : decode cX6_sum 24 = .ok (.aload_n 0, 1) := by decide +kernel
theorem dX6_sum_25 : decode cX6_sum 25 = .ok (.iconst 1, 1) := by decide +kernel
theorem dX6_sum_26 : decode cX6_sum 26 = .ok (.iload 5, 2) := by decide +kernel
theorem dX6_sum_28 : decode cX6_sum 28 = .ok (.iload 4, 2) := by decide +kernel
theorem dX6_sum_30 : decode cX6_sum 30 = .ok (.invokestatic 70, 3) := by decide +kernel
theorem dX6_sum_33 : decode cX6_sum 33 = .ok (.if_icmp .le 7, 3) := by decide +kernel
theorem dX6_sum_36 : decode cX6_sum 36 = .ok (.iconst 1, 1) := by decide +kernel
theorem dX6_sum_37 : decode cX6_sum 37 = .ok (.goto 4, 3) := by decide +kernel
theorem dX6_sum_40 : decode cX6_sum 40 = .ok (.iconst 0, 1) := by decide +kernel
theorem dX6_sum_41 : decode cX6_sum 41 = .ok (.invokevirtual 73, 3) := by decide +kernel
theorem dX6_sum_44 : decode cX6_sum 44 = .ok (.aload_n 0, 1) := by decide +kernel
theorem dX6_sum_45 : decode cX6_sum 45 = .ok (.bipush 16, 2) := by decide +kernel
theorem dX6_sum_47 : decode cX6_sum 47 = .ok (.iload_n 1, 1) := by decide +kernel
theorem dX6_sum_48 : decode cX6_sum 48 = .ok (.bipush 15, 2) := by decide +kernel
theorem dX6_sum_50 : decode cX6_sum 50 = .ok (.iand, 1) := by decide +kernel
theorem dX6_sum_51 : decode cX6_sum 51 = .ok (.iload_n 2, 1) := by decide +kernel
theorem dX6_sum_52 : decode cX6_sum 52 = .ok (.bipush 15, 2) := by decide +kernel
theorem dX6_sum_54 : decode cX6_sum 54 = .ok (.iand, 1) := by decide +kernel
theorem dX6_sum_55 : decode cX6_sum 55 = .ok (.iadd, 1) := by decide +kernel
theorem dX6_sum_56 : decode cX6_sum 56 = .ok (.iload_n 3, 1) := by decide +kernel
theorem dX6_sum_57 : decode cX6_sum 57 = .ok (.iadd, 1) := by decide +kernel
theorem dX6_sum_58 : decode cX6_sum 58 = .ok (.bipush 15, 2) := by decide +kernel
theorem dX6_sum_60 : decode cX6_sum 60 = .ok (.if_icmp .le 7, 3) := by decide +kernel
theorem dX6_sum_63 : decode cX6_sum 63 = .ok (.iconst 1, 1) := by decide +kernel
theorem dX6_sum_64 : decode cX6_sum 64 = .ok (.goto 4, 3) := by decide +kernel
theorem dX6_sum_67 : decode cX6_sum 67 = .ok (.iconst 0, 1) := by decide +kernel
theorem dX6_sum_68 : decode cX6_sum 68 = .ok (.invokevirtual 73, 3) := by decide +kernel
theorem dX6_sum_71 : decode cX6_sum 71 = .ok (.aload_n 0, 1) := by decide +kernel
theorem dX6_sum_72 : decode cX6_sum 72 = .ok (.sipush 2048, 3) := by decide +kernel
theorem dX6_sum_75 : decode cX6_sum 75 = .ok (.iload 6, 2) := by decide +kernel
theorem dX6_sum_77 : decode cX6_sum 77 = .ok (.iload 4, 2) := by decide +kernel
theorem dX6_sum_79 : decode cX6_sum 79 = .ok (.invokestatic 66, 3) := by decide +kernel
theorem dX6_sum_82 : decode cX6_sum 82 = .ok (.ineg, 1) := by decide +kernel
theorem dX6_sum_83 : decode cX6_sum 83 = .ok (.if_icmp .lt 13, 3) := by decide +kernel
theorem dX6_sum_86 : decode cX6_sum 86 = .ok (.iload 6, 2) := by decide +kernel
theorem dX6_sum_88 : decode cX6_sum 88 = .ok (.iload 4, 2) := by decide +kernel
theorem dX6_sum_90 : decode cX6_sum 90 = .ok (.invokestatic 66, 3) := by decide +kernel
theorem dX6_sum_93 : decode cX6_sum 93 = .ok (.if_icmp .lt 7, 3) := by decide +kernel
theorem dX6_sum_96 : decode cX6_sum 96 = .ok (.iconst 1, 1) := by decide +kernel
theorem dX6_sum_97 : decode cX6_sum 97 = .ok (.goto 4, 3) := by decide +kernel
theorem dX6_sum_100 : decode cX6_sum 100 = .ok (.iconst 0, 1) := by decide +kernel
theorem dX6_sum_101 : decode cX6_sum 101 = .ok (.invokevirtual 73, 3) := by decide +kernel
theorem dX6_sum_104 : decode cX6_sum 104 = .ok (.aload_n 0, 1) := by decide +kernel
theorem dX6_sum_105 : decode cX6_sum 105 = .ok (.iload 5, 2) := by decide +kernel
theorem dX6_sum_107 : decode cX6_sum 107 = .ok (.iload 4, 2) := by decide +kernel
theorem dX6_sum_109 : decode cX6_sum 109 = .ok (.invokestatic 70, 3) := by decide +kernel
theorem dX6_sum_112 : decode cX6_sum 112 = .ok (.iand, 1) := by decide +kernel
theorem dX6_sum_113 : decode cX6_sum 113 = .ok (.iload 4, 2) := by decide +kernel
theorem dX6_sum_115 : decode cX6_sum 115 = .ok (.invokevirtual 81, 3) := by decide +kernel
theorem dX6_sum_118 : decode cX6_sum 118 = .ok (.iload 5, 2) := by decide +kernel
theorem dX6_sum_120 : decode cX6_sum 120 = .ok (.iload 4, 2) := by decide +kernel
theorem dX6_sum_122 : decode cX6_sum 122 = .ok (.invokestatic 70, 3) := by decide +kernel
theorem dX6_sum_125 : decode cX6_sum 125 = .ok (.iand, 1) := by decide +kernel
theorem dX6_sum_126 : decode cX6_sum 126 = .ok (.ireturn, 1) := by decide +kernel
set_option maxRecDepth 20000 in
theorem ggX6_difference_X6_signed : GoodIn wsX6_difference wsX6_signed := goodIn_r _ [4, 5, 6, 3, 7, 8, 9, 10, 11, 12] (by decide +kernel) (by decide +kernel)
set_option maxRecDepth 20000 in
theorem gX6_difference_X6_signed : GoodIn wsX6_difference (va_wsS RX6 77 yX6_signed wsX6_signed) := goodIn_app (goodIn_of _ (by decide +kernel)) ggX6_difference_X6_signed
set_option maxRecDepth 20000 in
theorem ggX6_difference_X6_mark : GoodIn wsX6_difference wsX6_mark := goodIn_r _ [16, 17, 22, 23, 24, 25, 26, 27, 28, 29, 30, 31, 32, 33, 34, 35, 36, 37, 38, 39, 40, 41, 42, 43, 44, 45, 46, 47, 48, 49, 50] (by decide +kernel) (by decide +kernel)
set_option maxRecDepth 20000 in
theorem gX6_difference_X6_mark : GoodIn wsX6_difference (wsV RX6 73 RX6 yX6_mark wsX6_mark) := goodIn_app (goodIn_of _ (by decide +kernel)) ggX6_difference_X6_mark
set_option maxRecDepth 20000 in
theorem ggX6_difference_X6_top : GoodIn wsX6_difference wsX6_top := goodIn_r _ [7, 8] (by decide +kernel) (by decide +kernel)
set_option maxRecDepth 20000 in
theorem gX6_difference_X6_top : GoodIn wsX6_difference (va_wsS RX6 66 yX6_top wsX6_top) := goodIn_app (goodIn_of _ (by decide +kernel)) ggX6_difference_X6_top
set_option maxRecDepth 20000 in
theorem ggX6_difference_X6_all : GoodIn wsX6_difference wsX6_all := goodIn_r _ [11, 12] (by decide +kernel) (by decide +kernel)
set_option maxRecDepth 20000 in
theorem gX6_difference_X6_all : GoodIn wsX6_difference (va_wsS RX6 70 yX6_all wsX6_all) := goodIn_app (goodIn_of _ (by decide +kernel)) ggX6_difference_X6_all
set_option maxRecDepth 20000 in
theorem ggX6_difference_X6_byAnswer : GoodIn wsX6_difference wsX6_byAnswer := goodIn_r _ [21, 13, 14, 15, 3, 16, 17, 5, 6, 7, 8, 22, 23, 24, 25, 26, 27, 28, 29, 30, 31, 32, 33, 34, 35, 36, 37, 38, 39, 40, 41, 42, 43, 44, 45, 46, 47, 48, 49, 50] (by decide +kernel) (by decide +kernel)
set_option maxRecDepth 20000 in
theorem gX6_difference_X6_byAnswer : GoodIn wsX6_difference (wsV RX6 81 RX6 yX6_byAnswer wsX6_byAnswer) := goodIn_app (goodIn_of _ (by decide +kernel)) ggX6_difference_X6_byAnswer
theorem dX6_difference_0 : decode cX6_difference 0 = .ok (.iload_n 1, 1) := by decide +kernel
theorem dX6_difference_1 : decode cX6_difference 1 = .ok (.iload_n 2, 1) := by decide +kernel
theorem dX6_difference_2 : decode cX6_difference 2 = .ok (.isub, 1) := by decide +kernel
theorem dX6_difference_3 : decode cX6_difference 3 = .ok (.iload_n 3, 1) := by decide +kernel
theorem dX6_difference_4 : decode cX6_difference 4 = .ok (.isub, 1) := by decide +kernel
theorem dX6_difference_5 : decode cX6_difference 5 = .ok (.istore 5, 2) := by decide +kernel
theorem dX6_difference_7 : decode cX6_difference 7 = .ok (.iload_n 1, 1) := by decide +kernel
theorem dX6_difference_8 : decode cX6_difference 8 = .ok (.iload 4, 2) := by decide +kernel
theorem dX6_difference_10 : decode cX6_difference 10 = .ok (.invokestatic 77, 3) := by decide +kernel
theorem dX6_difference_13 : decode cX6_difference 13 = .ok (.iload_n 2, 1) := by decide +kernel
theorem dX6_difference_14 : decode cX6_difference 14 = .ok (.iload 4, 2) := by decide +kernel
theorem dX6_difference_16 : decode cX6_difference 16 = .ok (.invokestatic 77, 3) := by decide +kernel
theorem dX6_difference_19 : decode cX6_difference 19 = .ok (.isub, 1) := by decide +kernel
theorem dX6_difference_20 : decode cX6_difference 20 = .ok (.iload_n 3, 1) := by decide +kernel
theorem dX6_difference_21 : decode cX6_difference 21 = .ok (.isub, 1) := by decide +kernel
theorem dX6_difference_22 : decode cX6_difference 22 = .ok (.istore 6, 2) := by decide +kernel
theorem dX6_difference_24 : decode cX6_difference 24 = .ok (.aload_n 0, 1) := by decide +kernel
theorem dX6_difference_25 : decode cX6_difference 25 = .ok (.iconst 1, 1) := by decide +kernel
theorem dX6_difference_26 : decode cX6_difference 26 = .ok (.iload 5, 2) := by decide +kernel
theorem dX6_difference_28 : decode cX6_difference 28 = .ok (.ifCond .ge 7, 3) := by decide +kernel
theorem dX6_difference_31 : decode cX6_difference 31 = .ok (.iconst 1, 1) := by decide +kernel
theorem dX6_difference_32 : decode cX6_difference 32 = .ok (.goto 4, 3) := by decide +kernel
theorem dX6_difference_35 : decode cX6_difference 35 = .ok (.iconst 0, 1) := by decide +kernel
theorem dX6_difference_36 : decode cX6_difference 36 = .ok (.invokevirtual 73, 3) := by decide +kernel
theorem dX6_difference_39 : decode cX6_difference 39 = .ok (.aload_n 0, 1) := by decide +kernel
theorem dX6_difference_40 : decode cX6_difference 40 = .ok (.bipush 16, 2) := by decide +kernel
theorem dX6_difference_42 : decode cX6_difference 42 = .ok (.iload_n 1, 1) := by decide +kernel
theorem dX6_difference_43 : decode cX6_difference 43 = .ok (.bipush 15, 2) := by decide +kernel
theorem dX6_difference_45 : decode cX6_difference 45 = .ok (.iand, 1) := by decide +kernel
theorem dX6_difference_46 : decode cX6_difference 46 = .ok (.iload_n 2, 1) := by decide +kernel
theorem dX6_difference_47 : decode cX6_difference 47 = .ok (.bipush 15, 2) := by decide +kernel
theorem dX6_difference_49 : decode cX6_difference 49 = .ok (.iand, 1) := by decide +kernel
theorem dX6_difference_50 : decode cX6_difference 50 = .ok (.isub, 1) := by decide +kernel
theorem dX6_difference_51 : decode cX6_difference 51 = .ok (.iload_n 3, 1) := by decide +kernel
theorem dX6_difference_52 : decode cX6_difference 52 = .ok (.isub, 1) := by decide +kernel
theorem dX6_difference_53 : decode cX6_difference 53 = .ok (.ifCond .ge 7, 3) := by decide +kernel
theorem dX6_difference_56 : decode cX6_difference 56 = .ok (.iconst 1, 1) := by decide +kernel
theorem dX6_difference_57 : decode cX6_difference 57 = .ok (.goto 4, 3) := by decide +kernel
theorem dX6_difference_60 : decode cX6_difference 60 = .ok (.iconst 0, 1) := by decide +kernel
theorem dX6_difference_61 : decode cX6_difference 61 = .ok (.invokevirtual 73, 3) := by decide +kernel
theorem dX6_difference_64 : decode cX6_difference 64 = .ok (.aload_n 0, 1) := by decide +kernel
theorem dX6_difference_65 : decode cX6_difference 65 = .ok (.sipush 2048, 3) := by decide +kernel
theorem dX6_difference_68 : decode cX6_difference 68 = .ok (.iload 6, 2) := by decide +kernel
theorem dX6_difference_70 : decode cX6_difference 70 = .ok (.iload 4, 2) := by decide +kernel
theorem dX6_difference_72 : decode cX6_difference 72 = .ok (.invokestatic 66, 3) := by decide +kernel
theorem dX6_difference_75 : decode cX6_difference 75 = .ok (.ineg, 1) := by decide +kernel
theorem dX6_difference_76 : decode cX6_difference 76 = .ok (.if_icmp .lt 13, 3) := by decide +kernel
theorem dX6_difference_79 : decode cX6_difference 79 = .ok (.iload 6, 2) := by decide +kernel
theorem dX6_difference_81 : decode cX6_difference 81 = .ok (.iload 4, 2) := by decide +kernel
theorem dX6_difference_83 : decode cX6_difference 83 = .ok (.invokestatic 66, 3) := by decide +kernel
theorem dX6_difference_86 : decode cX6_difference 86 = .ok (.if_icmp .lt 7, 3) := by decide +kernel
theorem dX6_difference_89 : decode cX6_difference 89 = .ok (.iconst 1, 1) := by decide +kernel
theorem dX6_difference_90 : decode cX6_difference 90 = .ok (.goto 4, 3) := by decide +kernel
theorem dX6_difference_93 : decode cX6_difference 93 = .ok (.iconst 0, 1) := by decide +kernel
theorem dX6_difference_94 : decode cX6_difference 94 = .ok (.invokevirtual 73, 3) := by decide +kernel
theorem dX6_difference_97 : decode cX6_difference 97 = .ok (.aload_n 0, 1) := by decide +kernel
theorem dX6_difference_98 : decode cX6_difference 98 = .ok (.iload 5, 2) := by decide +kernel
theorem dX6_difference_100 : decode cX6_difference 100 = .ok (.iload 4, 2) := by decide +kernel
theorem dX6_difference_102 : decode cX6_difference 102 = .ok (.invokestatic 70, 3) := by decide +kernel
theorem dX6_difference_105 : decode cX6_difference 105 = .ok (.iand, 1) := by decide +kernel
theorem dX6_difference_106 : decode cX6_difference 106 = .ok (.iload 4, 2) := by decide +kernel
theorem dX6_difference_108 : decode cX6_difference 108 = .ok (.invokevirtual 81, 3) := by decide +kernel
theorem dX6_difference_111 : decode cX6_difference 111 = .ok (.iload 5, 2) := by decide +kernel
theorem dX6_difference_113 : decode cX6_difference 113 = .ok (.iload 4, 2) := by decide +kernel
theorem dX6_difference_115 : decode cX6_difference 115 = .ok (.invokestatic 70, 3) := by decide +kernel
theorem dX6_difference_118 : decode cX6_difference 118 = .ok (.iand, 1) := by decide +kernel
theorem dX6_difference_119 : decode cX6_difference 119 = .ok (.ireturn, 1) := by decide +kernel
set_option maxRecDepth 20000 in
theorem ggX6_bits_X6_byAnswer : GoodIn wsX6_bits wsX6_byAnswer := goodIn_r _ [6, 7, 8, 9, 5, 10, 1, 11, 12, 13, 14, 15, 16, 17, 18, 19, 20, 21, 22, 23, 24, 25, 26, 27, 28, 29, 30, 31, 32, 33, 34, 35, 36, 37, 38, 39, 40, 41, 42, 43] (by decide +kernel) (by decide +kernel)
set_option maxRecDepth 20000 in
theorem gX6_bits_X6_byAnswer : GoodIn wsX6_bits (wsV RX6 81 RX6 yX6_byAnswer wsX6_byAnswer) := goodIn_app (goodIn_of _ (by decide +kernel)) ggX6_bits_X6_byAnswer
theorem dX6_bits_0 : decode cX6_bits 0 = .ok (.aload_n 0, 1) := by decide +kernel
theorem dX6_bits_1 : decode cX6_bits 1 = .ok (.aload_n 0, 1) := by decide +kernel
theorem dX6_bits_2 : decode cX6_bits 2 = .ok (.getfield 54, 3) := by decide +kernel
theorem dX6_bits_5 : decode cX6_bits 5 = .ok (.sipush (-2066), 3) := by decide +kernel
theorem dX6_bits_8 : decode cX6_bits 8 = .ok (.iand, 1) := by decide +kernel
theorem dX6_bits_9 : decode cX6_bits 9 = .ok (.putfield 54, 3) := by decide +kernel
theorem dX6_bits_12 : decode cX6_bits 12 = .ok (.aload_n 0, 1) := by decide +kernel
theorem dX6_bits_13 : decode cX6_bits 13 = .ok (.iload_n 1, 1) := by decide +kernel
theorem dX6_bits_14 : decode cX6_bits 14 = .ok (.iload_n 2, 1) := by decide +kernel
theorem dX6_bits_15 : decode cX6_bits 15 = .ok (.invokevirtual 81, 3) := by decide +kernel
theorem dX6_bits_18 : decode cX6_bits 18 = .ok (.iload_n 1, 1) := by decide +kernel
theorem dX6_bits_19 : decode cX6_bits 19 = .ok (.ireturn, 1) := by decide +kernel
set_option maxRecDepth 20000 in
theorem ggX6_operation_X6_sum : GoodIn wsX6_operation wsX6_sum := goodIn_r _ [6, 7, 8, 5, 9, 10, 11, 12, 13, 14, 15, 16, 17, 18, 19, 20, 21, 1, 22, 23, 24, 25, 34, 35, 36, 37, 38, 39, 40, 41, 42, 43, 44, 45, 46, 47, 48, 49, 50, 51, 52, 53, 54, 55, 56, 57, 58, 59, 60, 61, 62] (by decide +kernel) (by decide +kernel)
set_option maxRecDepth 20000 in
theorem gX6_operation_X6_sum : GoodIn wsX6_operation (wsV RX6 84 RX6 yX6_sum wsX6_sum) := goodIn_app (goodIn_of _ (by decide +kernel)) ggX6_operation_X6_sum
set_option maxRecDepth 20000 in
theorem ggX6_operation_X6_bits : GoodIn wsX6_operation wsX6_bits := goodIn_r _ [29, 1, 22, 23, 24, 5, 25, 18, 19, 20, 21, 10, 11, 12, 13, 34, 35, 36, 37, 38, 39, 40, 41, 42, 43, 44, 45, 46, 47, 48, 49, 50, 51, 52, 53, 54, 55, 56, 57, 58, 59, 60, 61, 62] (by decide +kernel) (by decide +kernel)
set_option maxRecDepth 20000 in
theorem gX6_operation_X6_bits : GoodIn wsX6_operation (wsV RX6 88 RX6 yX6_bits wsX6_bits) := goodIn_app (goodIn_of _ (by decide +kernel)) ggX6_operation_X6_bits
set_option maxRecDepth 20000 in
theorem ggX6_operation_X6_difference : GoodIn wsX6_operation wsX6_difference := goodIn_r _ [33, 7, 8, 5, 9, 10, 11, 12, 13, 14, 15, 16, 17, 18, 19, 20, 21, 1, 22, 23, 24, 25, 34, 35, 36, 37, 38, 39, 40, 41, 42, 43, 44, 45, 46, 47, 48, 49, 50, 51, 52, 53, 54, 55, 56, 57, 58, 59, 60, 61, 62] (by decide +kernel) (by decide +kernel)
set_option maxRecDepth 20000 in
theorem gX6_operation_X6_difference : GoodIn wsX6_operation (wsV RX6 91 RX6 yX6_difference wsX6_difference) := goodIn_app (goodIn_of _ (by decide +kernel)) ggX6_operation_X6_difference
set_option maxRecDepth 20000 in
theorem ggX6_operation_X6_mark : GoodIn wsX6_operation wsX6_mark := goodIn_r _ [21, 1, 34, 35, 36, 37, 38, 39, 40, 41, 42, 43, 44, 45, 46, 47, 48, 49, 50, 51, 52, 53, 54, 55, 56, 57, 58, 59, 60, 61, 62] (by decide +kernel) (by decide +kernel)
set_option maxRecDepth 20000 in
theorem gX6_operation_X6_mark : GoodIn wsX6_operation (wsV RX6 73 RX6 yX6_mark wsX6_mark) := goodIn_app (goodIn_of _ (by decide +kernel)) ggX6_operation_X6_mark
set_option maxRecDepth 20000 in
theorem ggX6_operation_X6_all : GoodIn wsX6_operation wsX6_all := goodIn_r _ [16, 17] (by decide +kernel) (by decide +kernel)
set_option maxRecDepth 20000 in
theorem gX6_operation_X6_all : GoodIn wsX6_operation (va_wsS RX6 70 yX6_all wsX6_all) := goodIn_app (goodIn_of _ (by decide +kernel)) ggX6_operation_X6_all
theorem dX6_operation_0 : decode cX6_operation 0 = .ok (.aload_n 0, 1) := by decide +kernel
theorem dX6_operation_1 : decode cX6_operation 1 = .ok (.getfield 54, 3) := by decide +kernel
theorem dX6_operation_4 : decode cX6_operation 4 = .ok (.iconst 1, 1) := by decide +kernel
theorem dX6_operation_5 : decode cX6_operation 5 = .ok (.iand, 1) := by decide +kernel
theorem dX6_operation_6 : decode cX6_operation 6 = .ok (.istore 5, 2) := by decide +kernel
theorem dX6_operation_8 : decode cX6_operation 8 = .ok (.iload_n 1, 1) := by decide +kernel
theorem dX6_operation_9 : decode cX6_operation 9 = .ok (.tableswitch 229 0 11 #[63, 73, 83, 94, 105, 115, 125, 135, 148, 161, 190, 219], 63) := by decide +kernel
theorem dX6_operation_72 : decode cX6_operation 72 = .ok (.aload_n 0, 1) := by decide +kernel
theorem dX6_operation_73 : decode cX6_operation 73 = .ok (.iload_n 2, 1) := by decide +kernel
theorem dX6_operation_74 : decode cX6_operation 74 = .ok (.iload_n 3, 1) := by decide +kernel
theorem dX6_operation_75 : decode cX6_operation 75 = .ok (.iconst 0, 1) := by decide +kernel
theorem dX6_operation_76 : decode cX6_operation 76 = .ok (.iload 4, 2) := by decide +kernel
theorem dX6_operation_78 : decode cX6_operation 78 = .ok (.invokevirtual 84, 3) := by decide +kernel
theorem dX6_operation_81 : decode cX6_operation 81 = .ok (.ireturn, 1) := by decide +kernel
theorem dX6_operation_82 : decode cX6_operation 82 = .ok (.aload_n 0, 1) := by decide +kernel
theorem dX6_operation_83 : decode cX6_operation 83 = .ok (.iload_n 2, 1) := by decide +kernel
theorem dX6_operation_84 : decode cX6_operation 84 = .ok (.iload_n 3, 1) := by decide +kernel
theorem dX6_operation_85 : decode cX6_operation 85 = .ok (.ior, 1) := by decide +kernel
theorem dX6_operation_86 : decode cX6_operation 86 = .ok (.iload 4, 2) := by decide +kernel
theorem dX6_operation_88 : decode cX6_operation 88 = .ok (.invokevirtual 88, 3) := by decide +kernel
theorem dX6_operation_91 : decode cX6_operation 91 = .ok (.ireturn, 1) := by decide +kernel
theorem dX6_operation_92 : decode cX6_operation 92 = .ok (.aload_n 0, 1) := by decide +kernel
theorem dX6_operation_93 : decode cX6_operation 93 = .ok (.iload_n 2, 1) := by decide +kernel
theorem dX6_operation_94 : decode cX6_operation 94 = .ok (.iload_n 3, 1) := by decide +kernel
theorem dX6_operation_95 : decode cX6_operation 95 = .ok (.iload 5, 2) := by decide +kernel
theorem dX6_operation_97 : decode cX6_operation 97 = .ok (.iload 4, 2) := by decide +kernel
theorem dX6_operation_99 : decode cX6_operation 99 = .ok (.invokevirtual 84, 3) := by decide +kernel
theorem dX6_operation_102 : decode cX6_operation 102 = .ok (.ireturn, 1) := by decide +kernel
theorem dX6_operation_103 : decode cX6_operation 103 = .ok (.aload_n 0, 1) := by decide +kernel
theorem dX6_operation_104 : decode cX6_operation 104 = .ok (.iload_n 2, 1) := by decide +kernel
theorem dX6_operation_105 : decode cX6_operation 105 = .ok (.iload_n 3, 1) := by decide +kernel
theorem dX6_operation_106 : decode cX6_operation 106 = .ok (.iload 5, 2) := by decide +kernel
theorem dX6_operation_108 : decode cX6_operation 108 = .ok (.iload 4, 2) := by decide +kernel
theorem dX6_operation_110 : decode cX6_operation 110 = .ok (.invokevirtual 91, 3) := by decide +kernel
theorem dX6_operation_113 : decode cX6_operation 113 = .ok (.ireturn, 1) := by decide +kernel
theorem dX6_operation_114 : decode cX6_operation 114 = .ok (.aload_n 0, 1) := by decide +kernel
theorem dX6_operation_115 : decode cX6_operation 115 = .ok (.iload_n 2, 1) := by decide +kernel
theorem dX6_operation_116 : decode cX6_operation 116 = .ok (.iload_n 3, 1) := by decide +kernel
theorem dX6_operation_117 : decode cX6_operation 117 = .ok (.iand, 1) := by decide +kernel
theorem dX6_operation_118 : decode cX6_operation 118 = .ok (.iload 4, 2) := by decide +kernel
theorem dX6_operation_120 : decode cX6_operation 120 = .ok (.invokevirtual 88, 3) := by decide +kernel
