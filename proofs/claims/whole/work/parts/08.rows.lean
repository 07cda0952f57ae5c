theorem dX6_strings_12 : decode cX6_strings 12 = .ok (.iconst 0, 1) := by decide +kernel
theorem dX6_strings_13 : decode cX6_strings 13 = .ok (.istore_n 1, 1) := by decide +kernel
theorem dX6_strings_14 : decode cX6_strings 14 = .ok (.iconst 1, 1) := by decide +kernel
theorem dX6_strings_15 : decode cX6_strings 15 = .ok (.istore_n 2, 1) := by decide +kernel
theorem dX6_strings_16 : decode cX6_strings 16 = .ok (.iload_n 2, 1) := by decide +kernel
theorem dX6_strings_17 : decode cX6_strings 17 = .ok (.ifCond .eq 89, 3) := by decide +kernel
theorem dX6_strings_20 : decode cX6_strings 20 = .ok (.aload_n 0, 1) := by decide +kernel
theorem dX6_strings_21 : decode cX6_strings 21 = .ok (.getfield 7, 3) := by decide +kernel
theorem dX6_strings_24 : decode cX6_strings 24 = .ok (.iconst 1, 1) := by decide +kernel
theorem dX6_strings_25 : decode cX6_strings 25 = .ok (.iaload, 1) := by decide +kernel
theorem dX6_strings_26 : decode cX6_strings 26 = .ok (.ifCond .eq 80, 3) := by decide +kernel
theorem dX6_strings_29 : decode cX6_strings 29 = .ok (.iload_n 1, 1) := by decide +kernel
theorem dX6_strings_30 : decode cX6_strings 30 = .ok (.bipush 64, 2) := by decide +kernel
theorem dX6_strings_32 : decode cX6_strings 32 = .ok (.if_icmp .ge 74, 3) := by decide +kernel
theorem dX6_strings_35 : decode cX6_strings 35 = .ok (.aload_n 0, 1) := by decide +kernel
theorem dX6_strings_36 : decode cX6_strings 36 = .ok (.getfield 7, 3) := by decide +kernel
theorem dX6_strings_39 : decode cX6_strings 39 = .ok (.iconst 1, 1) := by decide +kernel
theorem dX6_strings_40 : decode cX6_strings 40 = .ok (.aload_n 0, 1) := by decide +kernel
theorem dX6_strings_41 : decode cX6_strings 41 = .ok (.getfield 7, 3) := by decide +kernel
theorem dX6_strings_44 : decode cX6_strings 44 = .ok (.iconst 1, 1) := by decide +kernel
theorem dX6_strings_45 : decode cX6_strings 45 = .ok (.iaload, 1) := by decide +kernel
theorem dX6_strings_46 : decode cX6_strings 46 = .ok (.iconst 1, 1) := by decide +kernel
theorem dX6_strings_47 : decode cX6_strings 47 = .ok (.isub, 1) := by decide +kernel
theorem dX6_strings_48 : decode cX6_strings 48 = .ok (.iastore, 1) := by decide +kernel
theorem dX6_strings_49 : decode cX6_strings 49 = .ok (.aload_n 0, 1) := by decide +kernel
theorem dX6_strings_50 : decode cX6_strings 50 = .ok (.invokevirtual 190, 3) := by decide +kernel
theorem dX6_strings_53 : decode cX6_strings 53 = .ok (.iinc 1 1, 3) := by decide +kernel
theorem dX6_strings_56 : decode cX6_strings 56 = .ok (.aload_n 0, 1) := by decide +kernel
theorem dX6_strings_57 : decode cX6_strings 57 = .ok (.dup, 1) := by decide +kernel
theorem dX6_strings_58 : decode cX6_strings 58 = .ok (.getfield 193, 3) := by decide +kernel
theorem dX6_strings_61 : decode cX6_strings 61 = .ok (.iconst 1, 1) := by decide +kernel
theorem dX6_strings_62 : decode cX6_strings 62 = .ok (.iadd, 1) := by decide +kernel
theorem dX6_strings_63 : decode cX6_strings 63 = .ok (.putfield 193, 3) := by decide +kernel
theorem dX6_strings_66 : decode cX6_strings 66 = .ok (.aload_n 0, 1) := by decide +kernel
theorem dX6_strings_67 : decode cX6_strings 67 = .ok (.invokevirtual 196, 3) := by decide +kernel
theorem dX6_strings_70 : decode cX6_strings 70 = .ok (.ifCond .eq 27, 3) := by decide +kernel
theorem dX6_strings_73 : decode cX6_strings 73 = .ok (.aload_n 0, 1) := by decide +kernel
theorem dX6_strings_74 : decode cX6_strings 74 = .ok (.bipush 64, 2) := by decide +kernel
theorem dX6_strings_76 : decode cX6_strings 76 = .ok (.invokevirtual 97, 3) := by decide +kernel
theorem dX6_strings_79 : decode cX6_strings 79 = .ok (.aload_n 0, 1) := by decide +kernel
theorem dX6_strings_80 : decode cX6_strings 80 = .ok (.getfield 176, 3) := by decide +kernel
theorem dX6_strings_83 : decode cX6_strings 83 = .ok (.sipush 243, 3) := by decide +kernel
theorem dX6_strings_86 : decode cX6_strings 86 = .ok (.if_icmp .ne 7, 3) := by decide +kernel
theorem dX6_strings_89 : decode cX6_strings 89 = .ok (.iconst 1, 1) := by decide +kernel
theorem dX6_strings_90 : decode cX6_strings 90 = .ok (.goto 4, 3) := by decide +kernel
theorem dX6_strings_93 : decode cX6_strings 93 = .ok (.iconst 0, 1) := by decide +kernel
theorem dX6_strings_94 : decode cX6_strings 94 = .ok (.if_icmp .ne 7, 3) := by decide +kernel
theorem dX6_strings_97 : decode cX6_strings 97 = .ok (.iconst 1, 1) := by decide +kernel
theorem dX6_strings_98 : decode cX6_strings 98 = .ok (.goto 4, 3) := by decide +kernel
theorem dX6_strings_101 : decode cX6_strings 101 = .ok (.iconst 0, 1) := by decide +kernel
theorem dX6_strings_102 : decode cX6_strings 102 = .ok (.istore_n 2, 1) := by decide +kernel
theorem dX6_strings_103 : decode cX6_strings 103 = .ok (.goto (-87), 3) := by decide +kernel
theorem dX6_strings_106 : decode cX6_strings 106 = .ok (.iload_n 2, 1) := by decide +kernel
theorem dX6_strings_107 : decode cX6_strings 107 = .ok (.ifCond .eq 20, 3) := by decide +kernel
theorem dX6_strings_110 : decode cX6_strings 110 = .ok (.aload_n 0, 1) := by decide +kernel
theorem dX6_strings_111 : decode cX6_strings 111 = .ok (.getfield 7, 3) := by decide +kernel
theorem dX6_strings_114 : decode cX6_strings 114 = .ok (.iconst 1, 1) := by decide +kernel
theorem dX6_strings_115 : decode cX6_strings 115 = .ok (.iaload, 1) := by decide +kernel
theorem dX6_strings_116 : decode cX6_strings 116 = .ok (.ifCond .eq 11, 3) := by decide +kernel
theorem dX6_strings_119 : decode cX6_strings 119 = .ok (.aload_n 0, 1) := by decide +kernel
theorem dX6_strings_120 : decode cX6_strings 120 = .ok (.aload_n 0, 1) := by decide +kernel
theorem dX6_strings_121 : decode cX6_strings 121 = .ok (.getfield 173, 3) := by decide +kernel
theorem dX6_strings_124 : decode cX6_strings 124 = .ok (.putfield 170, 3) := by decide +kernel
theorem dX6_strings_127 : decode cX6_strings 127 = .ok (.return_, 1) := by decide +kernel
set_option maxRecDepth 20000 in
theorem ggX6_first_X6_isWide : GoodIn wsX6_first wsX6_isWide := goodIn_r _ [10, 1, 113, 114, 115, 116, 117, 118, 119, 120, 121, 122, 123, 124, 125, 126, 127, 128, 129, 130, 131, 132, 133, 134, 135, 136, 137, 138, 139, 140, 141] (by decide +kernel) (by decide +kernel)
set_option maxRecDepth 20000 in
theorem gX6_first_X6_isWide : GoodIn wsX6_first (wsV RX6 158 RX6 yX6_isWide wsX6_isWide) := goodIn_app (goodIn_of _ (by decide +kernel)) ggX6_first_X6_isWide
set_option maxRecDepth 20000 in
theorem ggX6_first_X6_operand : GoodIn wsX6_first wsX6_operand := goodIn_r _ [14, 15, 16, 17, 18, 19, 20, 21, 9, 22, 23, 24, 25, 26, 27, 28, 29, 30, 31, 32, 33, 34, 35, 36, 37, 38, 113, 114, 115, 116, 117, 118, 119, 120, 121, 122, 123, 124, 125, 126, 127, 128, 129, 130, 131, 132, 133, 134, 135, 136, 137, 138, 139, 140, 141] (by decide +kernel) (by decide +kernel)
set_option maxRecDepth 20000 in
theorem gX6_first_X6_operand : GoodIn wsX6_first (wsV RX6 199 RX6 yX6_operand wsX6_operand) := goodIn_app (goodIn_of _ (by decide +kernel)) ggX6_first_X6_operand
set_option maxRecDepth 20000 in
theorem ggX6_first_X6_register : GoodIn wsX6_first wsX6_register := goodIn_r _ [22, 23, 113, 114, 115, 116, 117, 118, 119, 120, 121, 122, 123, 124, 125, 126, 127, 128, 129, 130, 131, 132, 133, 134, 135, 136, 137, 138, 139, 140, 141] (by decide +kernel) (by decide +kernel)
set_option maxRecDepth 20000 in
theorem gX6_first_X6_register : GoodIn wsX6_first (wsV RX6 105 RX6 yX6_register wsX6_register) := goodIn_app (goodIn_of _ (by decide +kernel)) ggX6_first_X6_register
set_option maxRecDepth 20000 in
theorem ggX6_first_X6_operation : GoodIn wsX6_first wsX6_operation := goodIn_r _ [42, 43, 44, 45, 46, 9, 47, 48, 49, 50, 51, 52, 53, 54, 55, 56, 57, 31, 58, 59, 60, 61, 62, 63, 64, 65, 66, 67, 68, 69, 70, 71, 72, 73, 113, 114, 115, 116, 117, 118, 119, 120, 121, 122, 123, 124, 125, 126, 127, 128, 129, 130, 131, 132, 133, 134, 135, 136, 137, 138, 139, 140, 141] (by decide +kernel) (by decide +kernel)
set_option maxRecDepth 20000 in
theorem gX6_first_X6_operation : GoodIn wsX6_first (wsV RX6 187 RX6 yX6_operation wsX6_operation) := goodIn_app (goodIn_of _ (by decide +kernel)) ggX6_first_X6_operation
set_option maxRecDepth 20000 in
theorem ggX6_first_X6_give : GoodIn wsX6_first wsX6_give := goodIn_r _ [77, 15, 16, 17, 18, 78, 79, 80, 9, 81, 23, 31, 82, 83, 84, 85, 86, 28, 29, 30, 32, 87, 88, 89, 90, 37, 91, 92, 38, 113, 114, 115, 116, 117, 118, 119, 120, 121, 122, 123, 124, 125, 126, 127, 128, 129, 130, 131, 132, 133, 134, 135, 136, 137, 138, 139, 140, 141] (by decide +kernel) (by decide +kernel)
set_option maxRecDepth 20000 in
theorem gX6_first_X6_give : GoodIn wsX6_first (wsV RX6 202 RX6 yX6_give wsX6_give) := goodIn_app (goodIn_of _ (by decide +kernel)) ggX6_first_X6_give
set_option maxRecDepth 20000 in
theorem ggX6_first_X6_setRegister : GoodIn wsX6_first wsX6_setRegister := goodIn_r _ [81, 23, 31, 82, 113, 114, 115, 116, 117, 118, 119, 120, 121, 122, 123, 124, 125, 126, 127, 128, 129, 130, 131, 132, 133, 134, 135, 136, 137, 138, 139, 140, 141] (by decide +kernel) (by decide +kernel)
set_option maxRecDepth 20000 in
theorem gX6_first_X6_setRegister : GoodIn wsX6_first (wsV RX6 101 RX6 yX6_setRegister wsX6_setRegister) := goodIn_app (goodIn_of _ (by decide +kernel)) ggX6_first_X6_setRegister
set_option maxRecDepth 20000 in
theorem ggX6_first_X6_push : GoodIn wsX6_first wsX6_push := goodIn_r _ [96, 23, 31, 4, 83, 84, 85, 9, 86, 28, 29, 30, 32, 87, 88, 89, 90, 37, 91, 92, 38, 113, 114, 115, 116, 117, 118, 119, 120, 121, 122, 123, 124, 125, 126, 127, 128, 129, 130, 131, 132, 133, 134, 135, 136, 137, 138, 139, 140, 141] (by decide +kernel) (by decide +kernel)
set_option maxRecDepth 20000 in
theorem gX6_first_X6_push : GoodIn wsX6_first (wsV RX6 183 RX6 yX6_push wsX6_push) := goodIn_app (goodIn_of _ (by decide +kernel)) ggX6_first_X6_push
set_option maxRecDepth 20000 in
theorem ggX6_first_X6_pop : GoodIn wsX6_first wsX6_pop := goodIn_r _ [100, 4, 23, 31, 24, 25, 26, 9, 27, 28, 29, 30, 32, 33, 34, 35, 36, 37, 38, 113, 114, 115, 116, 117, 118, 119, 120, 121, 122, 123, 124, 125, 126, 127, 128, 129, 130, 131, 132, 133, 134, 135, 136, 137, 138, 139, 140, 141] (by decide +kernel) (by decide +kernel)
set_option maxRecDepth 20000 in
theorem gX6_first_X6_pop : GoodIn wsX6_first (wsV RX6 206 RX6 yX6_pop wsX6_pop) := goodIn_app (goodIn_of _ (by decide +kernel)) ggX6_first_X6_pop
set_option maxRecDepth 20000 in
theorem ggX6_first_X6_adjustDecimal : GoodIn wsX6_first wsX6_adjustDecimal := goodIn_r _ [104, 23, 105, 106, 107, 9, 108, 43, 58, 59, 60, 61, 78, 79, 80, 81, 31, 82, 62, 63, 64, 65, 51, 52, 53, 54, 113, 114, 115, 116, 117, 118, 119, 120, 121, 122, 123, 124, 125, 126, 127, 128, 129, 130, 131, 132, 133, 134, 135, 136, 137, 138, 139, 140, 141] (by decide +kernel) (by decide +kernel)
set_option maxRecDepth 20000 in
theorem gX6_first_X6_adjustDecimal : GoodIn wsX6_first (wsV RX6 213 RX6 yX6_adjustDecimal wsX6_adjustDecimal) := goodIn_app (goodIn_of _ (by decide +kernel)) ggX6_first_X6_adjustDecimal
set_option maxRecDepth 20000 in
theorem ggX6_first_X6_adjustDigit : GoodIn wsX6_first wsX6_adjustDigit := goodIn_r _ [112, 23, 105, 106, 107, 9, 108, 43, 58, 59, 60, 61, 113, 114, 115, 116, 117, 118, 119, 120, 121, 122, 123, 124, 125, 126, 127, 128, 129, 130, 131, 132, 133, 134, 135, 136, 137, 138, 139, 140, 141] (by decide +kernel) (by decide +kernel)
set_option maxRecDepth 20000 in
theorem gX6_first_X6_adjustDigit : GoodIn wsX6_first (wsV RX6 217 RX6 yX6_adjustDigit wsX6_adjustDigit) := goodIn_app (goodIn_of _ (by decide +kernel)) ggX6_first_X6_adjustDigit
theorem dX6_first_0 : decode cX6_first 0 = .ok (.aload_n 0, 1) := by decide +kernel
theorem dX6_first_1 : decode cX6_first 1 = .ok (.getfield 148, 3) := by decide +kernel
theorem dX6_first_4 : decode cX6_first 4 = .ok (.bipush 7, 2) := by decide +kernel
theorem dX6_first_6 : decode cX6_first 6 = .ok (.iand, 1) := by decide +kernel
theorem dX6_first_7 : decode cX6_first 7 = .ok (.istore_n 1, 1) := by decide +kernel
theorem dX6_first_8 : decode cX6_first 8 = .ok (.aload_n 0, 1) := by decide +kernel
theorem dX6_first_9 : decode cX6_first 9 = .ok (.getfield 148, 3) := by decide +kernel
theorem dX6_first_12 : decode cX6_first 12 = .ok (.iconst 3, 1) := by decide +kernel
theorem dX6_first_13 : decode cX6_first 13 = .ok (.ishr, 1) := by decide +kernel
theorem dX6_first_14 : decode cX6_first 14 = .ok (.istore_n 2, 1) := by decide +kernel
theorem dX6_first_15 : decode cX6_first 15 = .ok (.aload_n 0, 1) := by decide +kernel
theorem dX6_first_16 : decode cX6_first 16 = .ok (.invokevirtual 158, 3) := by decide +kernel
theorem dX6_first_19 : decode cX6_first 19 = .ok (.istore_n 3, 1) := by decide +kernel
theorem dX6_first_20 : decode cX6_first 20 = .ok (.iload_n 1, 1) := by decide +kernel
theorem dX6_first_21 : decode cX6_first 21 = .ok (.iconst 2, 1) := by decide +kernel
theorem dX6_first_22 : decode cX6_first 22 = .ok (.if_icmp .ge 41, 3) := by decide +kernel
theorem dX6_first_25 : decode cX6_first 25 = .ok (.aload_n 0, 1) := by decide +kernel
theorem dX6_first_26 : decode cX6_first 26 = .ok (.iload_n 2, 1) := by decide +kernel
theorem dX6_first_27 : decode cX6_first 27 = .ok (.aload_n 0, 1) := by decide +kernel
theorem dX6_first_28 : decode cX6_first 28 = .ok (.iload_n 3, 1) := by decide +kernel
theorem dX6_first_29 : decode cX6_first 29 = .ok (.invokevirtual 199, 3) := by decide +kernel
theorem dX6_first_32 : decode cX6_first 32 = .ok (.aload_n 0, 1) := by decide +kernel
theorem dX6_first_33 : decode cX6_first 33 = .ok (.aload_n 0, 1) := by decide +kernel
theorem dX6_first_34 : decode cX6_first 34 = .ok (.getfield 130, 3) := by decide +kernel
theorem dX6_first_37 : decode cX6_first 37 = .ok (.iload_n 3, 1) := by decide +kernel
theorem dX6_first_38 : decode cX6_first 38 = .ok (.invokevirtual 105, 3) := by decide +kernel
theorem dX6_first_41 : decode cX6_first 41 = .ok (.iload_n 3, 1) := by decide +kernel
theorem dX6_first_42 : decode cX6_first 42 = .ok (.invokevirtual 187, 3) := by decide +kernel
theorem dX6_first_45 : decode cX6_first 45 = .ok (.istore 4, 2) := by decide +kernel
theorem dX6_first_47 : decode cX6_first 47 = .ok (.iload_n 2, 1) := by decide +kernel
theorem dX6_first_48 : decode cX6_first 48 = .ok (.bipush 7, 2) := by decide +kernel
theorem dX6_first_50 : decode cX6_first 50 = .ok (.if_icmp .eq 10, 3) := by decide +kernel
theorem dX6_first_53 : decode cX6_first 53 = .ok (.aload_n 0, 1) := by decide +kernel
theorem dX6_first_54 : decode cX6_first 54 = .ok (.iload_n 3, 1) := by decide +kernel
theorem dX6_first_55 : decode cX6_first 55 = .ok (.iload 4, 2) := by decide +kernel
theorem dX6_first_57 : decode cX6_first 57 = .ok (.invokevirtual 202, 3) := by decide +kernel
theorem dX6_first_60 : decode cX6_first 60 = .ok (.goto 178, 3) := by decide +kernel
theorem dX6_first_63 : decode cX6_first 63 = .ok (.iload_n 1, 1) := by decide +kernel
theorem dX6_first_64 : decode cX6_first 64 = .ok (.iconst 4, 1) := by decide +kernel
theorem dX6_first_65 : decode cX6_first 65 = .ok (.if_icmp .ge 39, 3) := by decide +kernel
theorem dX6_first_68 : decode cX6_first 68 = .ok (.aload_n 0, 1) := by decide +kernel
theorem dX6_first_69 : decode cX6_first 69 = .ok (.iload_n 2, 1) := by decide +kernel
theorem dX6_first_70 : decode cX6_first 70 = .ok (.aload_n 0, 1) := by decide +kernel
theorem dX6_first_71 : decode cX6_first 71 = .ok (.aload_n 0, 1) := by decide +kernel
theorem dX6_first_72 : decode cX6_first 72 = .ok (.getfield 130, 3) := by decide +kernel
theorem dX6_first_75 : decode cX6_first 75 = .ok (.iload_n 3, 1) := by decide +kernel
theorem dX6_first_76 : decode cX6_first 76 = .ok (.invokevirtual 105, 3) := by decide +kernel
theorem dX6_first_79 : decode cX6_first 79 = .ok (.aload_n 0, 1) := by decide +kernel
theorem dX6_first_80 : decode cX6_first 80 = .ok (.iload_n 3, 1) := by decide +kernel
theorem dX6_first_81 : decode cX6_first 81 = .ok (.invokevirtual 199, 3) := by decide +kernel
theorem dX6_first_84 : decode cX6_first 84 = .ok (.iload_n 3, 1) := by decide +kernel
theorem dX6_first_85 : decode cX6_first 85 = .ok (.invokevirtual 187, 3) := by decide +kernel
theorem dX6_first_88 : decode cX6_first 88 = .ok (.istore 4, 2) := by decide +kernel
theorem dX6_first_90 : decode cX6_first 90 = .ok (.aload_n 0, 1) := by decide +kernel
theorem dX6_first_91 : decode cX6_first 91 = .ok (.aload_n 0, 1) := by decide +kernel
theorem dX6_first_92 : decode cX6_first 92 = .ok (.getfield 130, 3) := by decide +kernel
theorem dX6_first_95 : decode cX6_first 95 = .ok (.iload_n 3, 1) := by decide +kernel
theorem dX6_first_96 : decode cX6_first 96 = .ok (.iload 4, 2) := by decide +kernel
theorem dX6_first_98 : decode cX6_first 98 = .ok (.invokevirtual 101, 3) := by decide +kernel
theorem dX6_first_101 : decode cX6_first 101 = .ok (.goto 137, 3) := by decide +kernel
theorem dX6_first_104 : decode cX6_first 104 = .ok (.iload_n 1, 1) := by decide +kernel
theorem dX6_first_105 : decode cX6_first 105 = .ok (.bipush 6, 2) := by decide +kernel
theorem dX6_first_107 : decode cX6_first 107 = .ok (.if_icmp .ge 28, 3) := by decide +kernel
theorem dX6_first_110 : decode cX6_first 110 = .ok (.aload_n 0, 1) := by decide +kernel
theorem dX6_first_111 : decode cX6_first 111 = .ok (.iconst 0, 1) := by decide +kernel
theorem dX6_first_112 : decode cX6_first 112 = .ok (.iload_n 3, 1) := by decide +kernel
theorem dX6_first_113 : decode cX6_first 113 = .ok (.aload_n 0, 1) := by decide +kernel
theorem dX6_first_114 : decode cX6_first 114 = .ok (.iload_n 2, 1) := by decide +kernel
theorem dX6_first_115 : decode cX6_first 115 = .ok (.aload_n 0, 1) := by decide +kernel
theorem dX6_first_116 : decode cX6_first 116 = .ok (.iconst 0, 1) := by decide +kernel
theorem dX6_first_117 : decode cX6_first 117 = .ok (.iload_n 3, 1) := by decide +kernel
theorem dX6_first_118 : decode cX6_first 118 = .ok (.invokevirtual 105, 3) := by decide +kernel
theorem dX6_first_121 : decode cX6_first 121 = .ok (.aload_n 0, 1) := by decide +kernel
theorem dX6_first_122 : decode cX6_first 122 = .ok (.getfield 164, 3) := by decide +kernel
theorem dX6_first_125 : decode cX6_first 125 = .ok (.iload_n 3, 1) := by decide +kernel
theorem dX6_first_126 : decode cX6_first 126 = .ok (.invokevirtual 187, 3) := by decide +kernel
theorem dX6_first_129 : decode cX6_first 129 = .ok (.invokevirtual 101, 3) := by decide +kernel
theorem dX6_first_132 : decode cX6_first 132 = .ok (.goto 106, 3) := by decide +kernel
theorem dX6_first_135 : decode cX6_first 135 = .ok (.aload_n 0, 1) := by decide +kernel
theorem dX6_first_136 : decode cX6_first 136 = .ok (.getfield 148, 3) := by decide +kernel
theorem dX6_first_139 : decode cX6_first 139 = .ok (.bipush 32, 2) := by decide +kernel
theorem dX6_first_141 : decode cX6_first 141 = .ok (.if_icmp .ge 22, 3) := by decide +kernel
theorem dX6_first_144 : decode cX6_first 144 = .ok (.iload_n 1, 1) := by decide +kernel
theorem dX6_first_145 : decode cX6_first 145 = .ok (.bipush 6, 2) := by decide +kernel
theorem dX6_first_147 : decode cX6_first 147 = .ok (.if_icmp .ne 16, 3) := by decide +kernel
theorem dX6_first_150 : decode cX6_first 150 = .ok (.aload_n 0, 1) := by decide +kernel
theorem dX6_first_151 : decode cX6_first 151 = .ok (.aload_n 0, 1) := by decide +kernel
theorem dX6_first_152 : decode cX6_first 152 = .ok (.getfield 13, 3) := by decide +kernel
theorem dX6_first_155 : decode cX6_first 155 = .ok (.iload_n 2, 1) := by decide +kernel
theorem dX6_first_156 : decode cX6_first 156 = .ok (.iaload, 1) := by decide +kernel
theorem dX6_first_157 : decode cX6_first 157 = .ok (.invokevirtual 183, 3) := by decide +kernel
theorem dX6_first_160 : decode cX6_first 160 = .ok (.goto 78, 3) := by decide +kernel
theorem dX6_first_163 : decode cX6_first 163 = .ok (.aload_n 0, 1) := by decide +kernel
theorem dX6_first_164 : decode cX6_first 164 = .ok (.getfield 148, 3) := by decide +kernel
theorem dX6_first_167 : decode cX6_first 167 = .ok (.bipush 32, 2) := by decide +kernel
theorem dX6_first_169 : decode cX6_first 169 = .ok (.if_icmp .ge 21, 3) := by decide +kernel
theorem dX6_first_172 : decode cX6_first 172 = .ok (.aload_n 0, 1) := by decide +kernel
theorem dX6_first_173 : decode cX6_first 173 = .ok (.getfield 13, 3) := by decide +kernel
theorem dX6_first_176 : decode cX6_first 176 = .ok (.iload_n 2, 1) := by decide +kernel
theorem dX6_first_177 : decode cX6_first 177 = .ok (.aload_n 0, 1) := by decide +kernel
theorem dX6_first_178 : decode cX6_first 178 = .ok (.invokevirtual 206, 3) := by decide +kernel
theorem dX6_first_181 : decode cX6_first 181 = .ok (.iastore, 1) := by decide +kernel
theorem dX6_first_182 : decode cX6_first 182 = .ok (.aload_n 0, 1) := by decide +kernel
theorem dX6_first_183 : decode cX6_first 183 = .ok (.iconst 1, 1) := by decide +kernel
theorem dX6_first_184 : decode cX6_first 184 = .ok (.putfield 209, 3) := by decide +kernel
theorem dX6_first_187 : decode cX6_first 187 = .ok (.goto 51, 3) := by decide +kernel
theorem dX6_first_190 : decode cX6_first 190 = .ok (.aload_n 0, 1) := by decide +kernel
theorem dX6_first_191 : decode cX6_first 191 = .ok (.getfield 148, 3) := by decide +kernel
theorem dX6_first_194 : decode cX6_first 194 = .ok (.bipush 48, 2) := by decide +kernel
theorem dX6_first_196 : decode cX6_first 196 = .ok (.if_icmp .ge 24, 3) := by decide +kernel
theorem dX6_first_199 : decode cX6_first 199 = .ok (.aload_n 0, 1) := by decide +kernel
theorem dX6_first_200 : decode cX6_first 200 = .ok (.aload_n 0, 1) := by decide +kernel
theorem dX6_first_201 : decode cX6_first 201 = .ok (.getfield 148, 3) := by decide +kernel
theorem dX6_first_204 : decode cX6_first 204 = .ok (.bipush 47, 2) := by decide +kernel
theorem dX6_first_206 : decode cX6_first 206 = .ok (.if_icmp .ne 7, 3) := by decide +kernel
theorem dX6_first_209 : decode cX6_first 209 = .ok (.iconst 1, 1) := by decide +kernel
theorem dX6_first_210 : decode cX6_first 210 = .ok (.goto 4, 3) := by decide +kernel
theorem dX6_first_213 : decode cX6_first 213 = .ok (.iconst 0, 1) := by decide +kernel
theorem dX6_first_214 : decode cX6_first 214 = .ok (.invokevirtual 213, 3) := by decide +kernel
theorem dX6_first_217 : decode cX6_first 217 = .ok (.goto 21, 3) := by decide +kernel
theorem dX6_first_220 : decode cX6_first 220 = .ok (.aload_n 0, 1) := by decide +kernel
theorem dX6_first_221 : decode cX6_first 221 = .ok (.aload_n 0, 1) := by decide +kernel
theorem dX6_first_222 : decode cX6_first 222 = .ok (.getfield 148, 3) := by decide +kernel
theorem dX6_first_225 : decode cX6_first 225 = .ok (.bipush 63, 2) := by decide +kernel
theorem dX6_first_227 : decode cX6_first 227 = .ok (.if_icmp .ne 7, 3) := by decide +kernel
theorem dX6_first_230 : decode cX6_first 230 = .ok (.iconst 1, 1) := by decide +kernel
theorem dX6_first_231 : decode cX6_first 231 = .ok (.goto 4, 3) := by decide +kernel
theorem dX6_first_234 : decode cX6_first 234 = .ok (.iconst 0, 1) := by decide +kernel
theorem dX6_first_235 : decode cX6_first 235 = .ok (.invokevirtual 217, 3) := by decide +kernel
theorem dX6_first_238 : decode cX6_first 238 = .ok (.return_, 1) := by decide +kernel
set_option maxRecDepth 20000 in
theorem ggX6_second_X6_operation : GoodIn wsX6_second wsX6_operation := goodIn_r _ [9, 10, 11, 12, 13, 8, 14, 15, 16, 17, 18, 19, 20, 21, 22, 23, 24, 3, 25, 26, 27, 28, 29, 30, 31, 32, 33, 34, 35, 36, 37, 38, 39, 40, 69, 70, 71, 72, 73, 74, 75, 76, 77, 78, 79, 80, 81, 82, 83, 84, 85, 86, 87, 88, 89, 90, 91, 92, 93, 94, 95, 96, 97] (by decide +kernel) (by decide +kernel)
set_option maxRecDepth 20000 in
theorem gX6_second_X6_operation : GoodIn wsX6_second (wsV RX6 187 RX6 yX6_operation wsX6_operation) := goodIn_app (goodIn_of _ (by decide +kernel)) ggX6_second_X6_operation
set_option maxRecDepth 20000 in
theorem ggX6_second_X6_put : GoodIn wsX6_second wsX6_put := goodIn_r _ [44, 45, 46, 8, 47, 3, 48, 49, 50, 51, 52, 53, 54, 55, 56, 69, 70, 71, 72, 73, 74, 75, 76, 77, 78, 79, 80, 81, 82, 83, 84, 85, 86, 87, 88, 89, 90, 91, 92, 93, 94, 95, 96, 97] (by decide +kernel) (by decide +kernel)
set_option maxRecDepth 20000 in
theorem gX6_second_X6_put : GoodIn wsX6_second (wsV RX6 57 RX6 yX6_put wsX6_put) := goodIn_app (goodIn_of _ (by decide +kernel)) ggX6_second_X6_put
set_option maxRecDepth 20000 in
theorem ggX6_second_X6_pop : GoodIn wsX6_second wsX6_pop := goodIn_r _ [60, 4, 2, 3, 61, 62, 63, 8, 64, 45, 46, 47, 48, 65, 66, 67, 68, 53, 56, 69, 70, 71, 72, 73, 74, 75, 76, 77, 78, 79, 80, 81, 82, 83, 84, 85, 86, 87, 88, 89, 90, 91, 92, 93, 94, 95, 96, 97] (by decide +kernel) (by decide +kernel)
set_option maxRecDepth 20000 in
theorem gX6_second_X6_pop : GoodIn wsX6_second (wsV RX6 206 RX6 yX6_pop wsX6_pop) := goodIn_app (goodIn_of _ (by decide +kernel)) ggX6_second_X6_pop
theorem dX6_second_0 : decode cX6_second 0 = .ok (.aload_n 0, 1) := by decide +kernel
theorem dX6_second_1 : decode cX6_second 1 = .ok (.getfield 148, 3) := by decide +kernel
theorem dX6_second_4 : decode cX6_second 4 = .ok (.bipush 7, 2) := by decide +kernel
theorem dX6_second_6 : decode cX6_second 6 = .ok (.iand, 1) := by decide +kernel
theorem dX6_second_7 : decode cX6_second 7 = .ok (.istore_n 1, 1) := by decide +kernel
theorem dX6_second_8 : decode cX6_second 8 = .ok (.aload_n 0, 1) := by decide +kernel
theorem dX6_second_9 : decode cX6_second 9 = .ok (.getfield 148, 3) := by decide +kernel
theorem dX6_second_12 : decode cX6_second 12 = .ok (.bipush 80, 2) := by decide +kernel
theorem dX6_second_14 : decode cX6_second 14 = .ok (.if_icmp .ge 40, 3) := by decide +kernel
theorem dX6_second_17 : decode cX6_second 17 = .ok (.aload_n 0, 1) := by decide +kernel
theorem dX6_second_18 : decode cX6_second 18 = .ok (.getfield 7, 3) := by decide +kernel
theorem dX6_second_21 : decode cX6_second 21 = .ok (.iload_n 1, 1) := by decide +kernel
theorem dX6_second_22 : decode cX6_second 22 = .ok (.aload_n 0, 1) := by decide +kernel
theorem dX6_second_23 : decode cX6_second 23 = .ok (.aload_n 0, 1) := by decide +kernel
theorem dX6_second_24 : decode cX6_second 24 = .ok (.getfield 148, 3) := by decide +kernel
theorem dX6_second_27 : decode cX6_second 27 = .ok (.bipush 72, 2) := by decide +kernel
theorem dX6_second_29 : decode cX6_second 29 = .ok (.if_icmp .ge 8, 3) := by decide +kernel
theorem dX6_second_32 : decode cX6_second 32 = .ok (.bipush 9, 2) := by decide +kernel
theorem dX6_second_34 : decode cX6_second 34 = .ok (.goto 5, 3) := by decide +kernel
theorem dX6_second_37 : decode cX6_second 37 = .ok (.bipush 10, 2) := by decide +kernel
theorem dX6_second_39 : decode cX6_second 39 = .ok (.aload_n 0, 1) := by decide +kernel
theorem dX6_second_40 : decode cX6_second 40 = .ok (.getfield 7, 3) := by decide +kernel
theorem dX6_second_43 : decode cX6_second 43 = .ok (.iload_n 1, 1) := by decide +kernel
theorem dX6_second_44 : decode cX6_second 44 = .ok (.iaload, 1) := by decide +kernel
theorem dX6_second_45 : decode cX6_second 45 = .ok (.iconst 0, 1) := by decide +kernel
theorem dX6_second_46 : decode cX6_second 46 = .ok (.iconst 1, 1) := by decide +kernel
theorem dX6_second_47 : decode cX6_second 47 = .ok (.invokevirtual 187, 3) := by decide +kernel
theorem dX6_second_50 : decode cX6_second 50 = .ok (.iastore, 1) := by decide +kernel
theorem dX6_second_51 : decode cX6_second 51 = .ok (.goto 65, 3) := by decide +kernel
theorem dX6_second_54 : decode cX6_second 54 = .ok (.aload_n 0, 1) := by decide +kernel
theorem dX6_second_55 : decode cX6_second 55 = .ok (.getfield 148, 3) := by decide +kernel
theorem dX6_second_58 : decode cX6_second 58 = .ok (.bipush 88, 2) := by decide +kernel
theorem dX6_second_60 : decode cX6_second 60 = .ok (.if_icmp .ge 46, 3) := by decide +kernel
theorem dX6_second_63 : decode cX6_second 63 = .ok (.aload_n 0, 1) := by decide +kernel
theorem dX6_second_64 : decode cX6_second 64 = .ok (.getfield 7, 3) := by decide +kernel
theorem dX6_second_67 : decode cX6_second 67 = .ok (.iconst 4, 1) := by decide +kernel
theorem dX6_second_68 : decode cX6_second 68 = .ok (.aload_n 0, 1) := by decide +kernel
theorem dX6_second_69 : decode cX6_second 69 = .ok (.getfield 7, 3) := by decide +kernel
theorem dX6_second_72 : decode cX6_second 72 = .ok (.iconst 4, 1) := by decide +kernel
theorem dX6_second_73 : decode cX6_second 73 = .ok (.iaload, 1) := by decide +kernel
theorem dX6_second_74 : decode cX6_second 74 = .ok (.iconst 2, 1) := by decide +kernel
theorem dX6_second_75 : decode cX6_second 75 = .ok (.isub, 1) := by decide +kernel
theorem dX6_second_76 : decode cX6_second 76 = .ok (.ldc 39, 2) := by decide +kernel
theorem dX6_second_78 : decode cX6_second 78 = .ok (.iand, 1) := by decide +kernel
theorem dX6_second_79 : decode cX6_second 79 = .ok (.iastore, 1) := by decide +kernel
theorem dX6_second_80 : decode cX6_second 80 = .ok (.aload_n 0, 1) := by decide +kernel
theorem dX6_second_81 : decode cX6_second 81 = .ok (.aload_n 0, 1) := by decide +kernel
theorem dX6_second_82 : decode cX6_second 82 = .ok (.getfield 13, 3) := by decide +kernel
theorem dX6_second_85 : decode cX6_second 85 = .ok (.iconst 2, 1) := by decide +kernel
theorem dX6_second_86 : decode cX6_second 86 = .ok (.iaload, 1) := by decide +kernel
theorem dX6_second_87 : decode cX6_second 87 = .ok (.aload_n 0, 1) := by decide +kernel
theorem dX6_second_88 : decode cX6_second 88 = .ok (.getfield 7, 3) := by decide +kernel
theorem dX6_second_91 : decode cX6_second 91 = .ok (.iconst 4, 1) := by decide +kernel
theorem dX6_second_92 : decode cX6_second 92 = .ok (.iaload, 1) := by decide +kernel
theorem dX6_second_93 : decode cX6_second 93 = .ok (.iconst 1, 1) := by decide +kernel
theorem dX6_second_94 : decode cX6_second 94 = .ok (.aload_n 0, 1) := by decide +kernel
theorem dX6_second_95 : decode cX6_second 95 = .ok (.getfield 7, 3) := by decide +kernel
theorem dX6_second_98 : decode cX6_second 98 = .ok (.iload_n 1, 1) := by decide +kernel
theorem dX6_second_99 : decode cX6_second 99 = .ok (.iaload, 1) := by decide +kernel
theorem dX6_second_100 : decode cX6_second 100 = .ok (.invokevirtual 57, 3) := by decide +kernel
theorem dX6_second_103 : decode cX6_second 103 = .ok (.goto 13, 3) := by decide +kernel
theorem dX6_second_106 : decode cX6_second 106 = .ok (.aload_n 0, 1) := by decide +kernel
theorem dX6_second_107 : decode cX6_second 107 = .ok (.getfield 7, 3) := by decide +kernel
theorem dX6_second_110 : decode cX6_second 110 = .ok (.iload_n 1, 1) := by decide +kernel
theorem dX6_second_111 : decode cX6_second 111 = .ok (.aload_n 0, 1) := by decide +kernel
theorem dX6_second_112 : decode cX6_second 112 = .ok (.invokevirtual 206, 3) := by decide +kernel
theorem dX6_second_115 : decode cX6_second 115 = .ok (.iastore, 1) := by decide +kernel
theorem dX6_second_116 : decode cX6_second 116 = .ok (.return_, 1) := by decide +kernel
set_option maxRecDepth 20000 in
theorem ggX6_moves_X6_isWide : GoodIn wsX6_moves wsX6_isWide := goodIn_r _ [12, 1, 97, 98, 99, 100, 101, 102, 103, 104, 105, 106, 107, 108, 109, 110, 111, 112, 113, 114, 115, 116, 117, 118, 119, 120, 121, 122, 123, 124, 125] (by decide +kernel) (by decide +kernel)
set_option maxRecDepth 20000 in
theorem gX6_moves_X6_isWide : GoodIn wsX6_moves (wsV RX6 158 RX6 yX6_isWide wsX6_isWide) := goodIn_app (goodIn_of _ (by decide +kernel)) ggX6_moves_X6_isWide
set_option maxRecDepth 20000 in
theorem ggX6_moves_X6_operand : GoodIn wsX6_moves wsX6_operand := goodIn_r _ [16, 17, 18, 19, 6, 20, 21, 22, 11, 23, 5, 24, 25, 26, 27, 28, 29, 30, 31, 32, 33, 34, 35, 36, 37, 38, 97, 98, 99, 100, 101, 102, 103, 104, 105, 106, 107, 108, 109, 110, 111, 112, 113, 114, 115, 116, 117, 118, 119, 120, 121, 122, 123, 124, 125] (by decide +kernel) (by decide +kernel)
set_option maxRecDepth 20000 in
theorem gX6_moves_X6_operand : GoodIn wsX6_moves (wsV RX6 199 RX6 yX6_operand wsX6_operand) := goodIn_app (goodIn_of _ (by decide +kernel)) ggX6_moves_X6_operand
set_option maxRecDepth 20000 in
theorem ggX6_moves_X6_operation : GoodIn wsX6_moves wsX6_operation := goodIn_r _ [42, 43, 44, 45, 46, 11, 47, 48, 49, 50, 51, 52, 53, 54, 55, 56, 57, 31, 58, 59, 60, 61, 62, 63, 64, 65, 66, 67, 68, 69, 70, 71, 72, 73, 97, 98, 99, 100, 101, 102, 103, 104, 105, 106, 107, 108, 109, 110, 111, 112, 113, 114, 115, 116, 117, 118, 119, 120, 121, 122, 123, 124, 125] (by decide +kernel) (by decide +kernel)
set_option maxRecDepth 20000 in
theorem gX6_moves_X6_operation : GoodIn wsX6_moves (wsV RX6 187 RX6 yX6_operation wsX6_operation) := goodIn_app (goodIn_of _ (by decide +kernel)) ggX6_moves_X6_operation
set_option maxRecDepth 20000 in
theorem ggX6_moves_X6_give : GoodIn wsX6_moves wsX6_give := goodIn_r _ [77, 17, 18, 19, 6, 78, 79, 80, 11, 81, 5, 31, 82, 83, 84, 85, 86, 28, 29, 30, 32, 87, 88, 89, 90, 37, 91, 92, 38, 97, 98, 99, 100, 101, 102, 103, 104, 105, 106, 107, 108, 109, 110, 111, 112, 113, 114, 115, 116, 117, 118, 119, 120, 121, 122, 123, 124, 125] (by decide +kernel) (by decide +kernel)
set_option maxRecDepth 20000 in
theorem gX6_moves_X6_give : GoodIn wsX6_moves (wsV RX6 202 RX6 yX6_give wsX6_give) := goodIn_app (goodIn_of _ (by decide +kernel)) ggX6_moves_X6_give
set_option maxRecDepth 20000 in
theorem ggX6_moves_X6_register : GoodIn wsX6_moves wsX6_register := goodIn_r _ [23, 5, 97, 98, 99, 100, 101, 102, 103, 104, 105, 106, 107, 108, 109, 110, 111, 112, 113, 114, 115, 116, 117, 118, 119, 120, 121, 122, 123, 124, 125] (by decide +kernel) (by decide +kernel)
set_option maxRecDepth 20000 in
theorem gX6_moves_X6_register : GoodIn wsX6_moves (wsV RX6 105 RX6 yX6_register wsX6_register) := goodIn_app (goodIn_of _ (by decide +kernel)) ggX6_moves_X6_register
set_option maxRecDepth 20000 in
theorem ggX6_moves_X6_setRegister : GoodIn wsX6_moves wsX6_setRegister := goodIn_r _ [81, 5, 31, 82, 97, 98, 99, 100, 101, 102, 103, 104, 105, 106, 107, 108, 109, 110, 111, 112, 113, 114, 115, 116, 117, 118, 119, 120, 121, 122, 123, 124, 125] (by decide +kernel) (by decide +kernel)
set_option maxRecDepth 20000 in
theorem gX6_moves_X6_setRegister : GoodIn wsX6_moves (wsV RX6 101 RX6 yX6_setRegister wsX6_setRegister) := goodIn_app (goodIn_of _ (by decide +kernel)) ggX6_moves_X6_setRegister
set_option maxRecDepth 20000 in
theorem ggX6_moves_X6_pop : GoodIn wsX6_moves wsX6_pop := goodIn_r _ [96, 4, 5, 31, 24, 25, 26, 11, 27, 28, 29, 30, 32, 33, 34, 35, 36, 37, 38, 97, 98, 99, 100, 101, 102, 103, 104, 105, 106, 107, 108, 109, 110, 111, 112, 113, 114, 115, 116, 117, 118, 119, 120, 121, 122, 123, 124, 125] (by decide +kernel) (by decide +kernel)
set_option maxRecDepth 20000 in
theorem gX6_moves_X6_pop : GoodIn wsX6_moves (wsV RX6 206 RX6 yX6_pop wsX6_pop) := goodIn_app (goodIn_of _ (by decide +kernel)) ggX6_moves_X6_pop
theorem dX6_moves_0 : decode cX6_moves 0 = .ok (.aload_n 0, 1) := by decide +kernel
theorem dX6_moves_1 : decode cX6_moves 1 = .ok (.invokevirtual 158, 3) := by decide +kernel
theorem dX6_moves_4 : decode cX6_moves 4 = .ok (.istore_n 1, 1) := by decide +kernel
theorem dX6_moves_5 : decode cX6_moves 5 = .ok (.aload_n 0, 1) := by decide +kernel
theorem dX6_moves_6 : decode cX6_moves 6 = .ok (.getfield 148, 3) := by decide +kernel
theorem dX6_moves_9 : decode cX6_moves 9 = .ok (.tableswitch 263 128 142 #[75, 75, 75, 75, 112, 112, 137, 137, 170, 170, 187, 187, 204, 223, 239], 75) := by decide +kernel
theorem dX6_moves_84 : decode cX6_moves 84 = .ok (.aload_n 0, 1) := by decide +kernel
theorem dX6_moves_85 : decode cX6_moves 85 = .ok (.aload_n 0, 1) := by decide +kernel
theorem dX6_moves_86 : decode cX6_moves 86 = .ok (.getfield 130, 3) := by decide +kernel
theorem dX6_moves_89 : decode cX6_moves 89 = .ok (.aload_n 0, 1) := by decide +kernel
theorem dX6_moves_90 : decode cX6_moves 90 = .ok (.iload_n 1, 1) := by decide +kernel
theorem dX6_moves_91 : decode cX6_moves 91 = .ok (.invokevirtual 199, 3) := by decide +kernel
theorem dX6_moves_94 : decode cX6_moves 94 = .ok (.aload_n 0, 1) := by decide +kernel
theorem dX6_moves_95 : decode cX6_moves 95 = .ok (.getfield 164, 3) := by decide +kernel
theorem dX6_moves_98 : decode cX6_moves 98 = .ok (.iload_n 1, 1) := by decide +kernel
theorem dX6_moves_99 : decode cX6_moves 99 = .ok (.invokevirtual 187, 3) := by decide +kernel
theorem dX6_moves_102 : decode cX6_moves 102 = .ok (.istore_n 2, 1) := by decide +kernel
theorem dX6_moves_103 : decode cX6_moves 103 = .ok (.aload_n 0, 1) := by decide +kernel
theorem dX6_moves_104 : decode cX6_moves 104 = .ok (.getfield 130, 3) := by decide +kernel
theorem dX6_moves_107 : decode cX6_moves 107 = .ok (.bipush 7, 2) := by decide +kernel
theorem dX6_moves_109 : decode cX6_moves 109 = .ok (.if_icmp .eq 172, 3) := by decide +kernel
theorem dX6_moves_112 : decode cX6_moves 112 = .ok (.aload_n 0, 1) := by decide +kernel
theorem dX6_moves_113 : decode cX6_moves 113 = .ok (.iload_n 1, 1) := by decide +kernel
theorem dX6_moves_114 : decode cX6_moves 114 = .ok (.iload_n 2, 1) := by decide +kernel
theorem dX6_moves_115 : decode cX6_moves 115 = .ok (.invokevirtual 202, 3) := by decide +kernel
theorem dX6_moves_118 : decode cX6_moves 118 = .ok (.goto 163, 3) := by decide +kernel
theorem dX6_moves_121 : decode cX6_moves 121 = .ok (.aload_n 0, 1) := by decide +kernel
theorem dX6_moves_122 : decode cX6_moves 122 = .ok (.bipush 8, 2) := by decide +kernel
theorem dX6_moves_124 : decode cX6_moves 124 = .ok (.aload_n 0, 1) := by decide +kernel
theorem dX6_moves_125 : decode cX6_moves 125 = .ok (.iload_n 1, 1) := by decide +kernel
theorem dX6_moves_126 : decode cX6_moves 126 = .ok (.invokevirtual 199, 3) := by decide +kernel
theorem dX6_moves_129 : decode cX6_moves 129 = .ok (.aload_n 0, 1) := by decide +kernel
theorem dX6_moves_130 : decode cX6_moves 130 = .ok (.aload_n 0, 1) := by decide +kernel
theorem dX6_moves_131 : decode cX6_moves 131 = .ok (.getfield 130, 3) := by decide +kernel
theorem dX6_moves_134 : decode cX6_moves 134 = .ok (.iload_n 1, 1) := by decide +kernel
theorem dX6_moves_135 : decode cX6_moves 135 = .ok (.invokevirtual 105, 3) := by decide +kernel
theorem dX6_moves_138 : decode cX6_moves 138 = .ok (.iload_n 1, 1) := by decide +kernel
theorem dX6_moves_139 : decode cX6_moves 139 = .ok (.invokevirtual 187, 3) := by decide +kernel
theorem dX6_moves_142 : decode cX6_moves 142 = .ok (.istore_n 2, 1) := by decide +kernel
theorem dX6_moves_143 : decode cX6_moves 143 = .ok (.goto 138, 3) := by decide +kernel
theorem dX6_moves_146 : decode cX6_moves 146 = .ok (.aload_n 0, 1) := by decide +kernel
theorem dX6_moves_147 : decode cX6_moves 147 = .ok (.iload_n 1, 1) := by decide +kernel
theorem dX6_moves_148 : decode cX6_moves 148 = .ok (.invokevirtual 199, 3) := by decide +kernel
theorem dX6_moves_151 : decode cX6_moves 151 = .ok (.istore_n 2, 1) := by decide +kernel
theorem dX6_moves_152 : decode cX6_moves 152 = .ok (.aload_n 0, 1) := by decide +kernel
theorem dX6_moves_153 : decode cX6_moves 153 = .ok (.iload_n 1, 1) := by decide +kernel
theorem dX6_moves_154 : decode cX6_moves 154 = .ok (.aload_n 0, 1) := by decide +kernel
theorem dX6_moves_155 : decode cX6_moves 155 = .ok (.aload_n 0, 1) := by decide +kernel
theorem dX6_moves_156 : decode cX6_moves 156 = .ok (.getfield 130, 3) := by decide +kernel
theorem dX6_moves_159 : decode cX6_moves 159 = .ok (.iload_n 1, 1) := by decide +kernel
theorem dX6_moves_160 : decode cX6_moves 160 = .ok (.invokevirtual 105, 3) := by decide +kernel
theorem dX6_moves_163 : decode cX6_moves 163 = .ok (.invokevirtual 202, 3) := by decide +kernel
theorem dX6_moves_166 : decode cX6_moves 166 = .ok (.aload_n 0, 1) := by decide +kernel
theorem dX6_moves_167 : decode cX6_moves 167 = .ok (.aload_n 0, 1) := by decide +kernel
theorem dX6_moves_168 : decode cX6_moves 168 = .ok (.getfield 130, 3) := by decide +kernel
theorem dX6_moves_171 : decode cX6_moves 171 = .ok (.iload_n 1, 1) := by decide +kernel
theorem dX6_moves_172 : decode cX6_moves 172 = .ok (.iload_n 2, 1) := by decide +kernel
theorem dX6_moves_173 : decode cX6_moves 173 = .ok (.invokevirtual 101, 3) := by decide +kernel
theorem dX6_moves_176 : decode cX6_moves 176 = .ok (.goto 105, 3) := by decide +kernel
theorem dX6_moves_179 : decode cX6_moves 179 = .ok (.aload_n 0, 1) := by decide +kernel
theorem dX6_moves_180 : decode cX6_moves 180 = .ok (.iload_n 1, 1) := by decide +kernel
theorem dX6_moves_181 : decode cX6_moves 181 = .ok (.aload_n 0, 1) := by decide +kernel
theorem dX6_moves_182 : decode cX6_moves 182 = .ok (.aload_n 0, 1) := by decide +kernel
theorem dX6_moves_183 : decode cX6_moves 183 = .ok (.getfield 130, 3) := by decide +kernel
theorem dX6_moves_186 : decode cX6_moves 186 = .ok (.iload_n 1, 1) := by decide +kernel
theorem dX6_moves_187 : decode cX6_moves 187 = .ok (.invokevirtual 105, 3) := by decide +kernel
theorem dX6_moves_190 : decode cX6_moves 190 = .ok (.invokevirtual 202, 3) := by decide +kernel
theorem dX6_moves_193 : decode cX6_moves 193 = .ok (.goto 88, 3) := by decide +kernel
theorem dX6_moves_196 : decode cX6_moves 196 = .ok (.aload_n 0, 1) := by decide +kernel
theorem dX6_moves_197 : decode cX6_moves 197 = .ok (.aload_n 0, 1) := by decide +kernel
theorem dX6_moves_198 : decode cX6_moves 198 = .ok (.getfield 130, 3) := by decide +kernel
theorem dX6_moves_201 : decode cX6_moves 201 = .ok (.iload_n 1, 1) := by decide +kernel
theorem dX6_moves_202 : decode cX6_moves 202 = .ok (.aload_n 0, 1) := by decide +kernel
theorem dX6_moves_203 : decode cX6_moves 203 = .ok (.iload_n 1, 1) := by decide +kernel
theorem dX6_moves_204 : decode cX6_moves 204 = .ok (.invokevirtual 199, 3) := by decide +kernel
theorem dX6_moves_207 : decode cX6_moves 207 = .ok (.invokevirtual 101, 3) := by decide +kernel
theorem dX6_moves_210 : decode cX6_moves 210 = .ok (.goto 71, 3) := by decide +kernel
theorem dX6_moves_213 : decode cX6_moves 213 = .ok (.aload_n 0, 1) := by decide +kernel
theorem dX6_moves_214 : decode cX6_moves 214 = .ok (.iconst 1, 1) := by decide +kernel
theorem dX6_moves_215 : decode cX6_moves 215 = .ok (.aload_n 0, 1) := by decide +kernel
theorem dX6_moves_216 : decode cX6_moves 216 = .ok (.getfield 13, 3) := by decide +kernel
theorem dX6_moves_219 : decode cX6_moves 219 = .ok (.aload_n 0, 1) := by decide +kernel
theorem dX6_moves_220 : decode cX6_moves 220 = .ok (.getfield 130, 3) := by decide +kernel
theorem dX6_moves_223 : decode cX6_moves 223 = .ok (.iconst 3, 1) := by decide +kernel
theorem dX6_moves_224 : decode cX6_moves 224 = .ok (.iand, 1) := by decide +kernel
theorem dX6_moves_225 : decode cX6_moves 225 = .ok (.iaload, 1) := by decide +kernel
theorem dX6_moves_226 : decode cX6_moves 226 = .ok (.invokevirtual 202, 3) := by decide +kernel
theorem dX6_moves_229 : decode cX6_moves 229 = .ok (.goto 52, 3) := by decide +kernel
theorem dX6_moves_232 : decode cX6_moves 232 = .ok (.aload_n 0, 1) := by decide +kernel
theorem dX6_moves_233 : decode cX6_moves 233 = .ok (.getfield 7, 3) := by decide +kernel
theorem dX6_moves_236 : decode cX6_moves 236 = .ok (.aload_n 0, 1) := by decide +kernel
theorem dX6_moves_237 : decode cX6_moves 237 = .ok (.getfield 130, 3) := by decide +kernel
theorem dX6_moves_240 : decode cX6_moves 240 = .ok (.aload_n 0, 1) := by decide +kernel
theorem dX6_moves_241 : decode cX6_moves 241 = .ok (.getfield 139, 3) := by decide +kernel
theorem dX6_moves_244 : decode cX6_moves 244 = .ok (.iastore, 1) := by decide +kernel
theorem dX6_moves_245 : decode cX6_moves 245 = .ok (.goto 36, 3) := by decide +kernel
theorem dX6_moves_248 : decode cX6_moves 248 = .ok (.aload_n 0, 1) := by decide +kernel
theorem dX6_moves_249 : decode cX6_moves 249 = .ok (.getfield 13, 3) := by decide +kernel
theorem dX6_moves_252 : decode cX6_moves 252 = .ok (.aload_n 0, 1) := by decide +kernel
theorem dX6_moves_253 : decode cX6_moves 253 = .ok (.getfield 130, 3) := by decide +kernel
theorem dX6_moves_256 : decode cX6_moves 256 = .ok (.iconst 3, 1) := by decide +kernel
theorem dX6_moves_257 : decode cX6_moves 257 = .ok (.iand, 1) := by decide +kernel
theorem dX6_moves_258 : decode cX6_moves 258 = .ok (.aload_n 0, 1) := by decide +kernel
theorem dX6_moves_259 : decode cX6_moves 259 = .ok (.iconst 1, 1) := by decide +kernel
theorem dX6_moves_260 : decode cX6_moves 260 = .ok (.invokevirtual 199, 3) := by decide +kernel
theorem dX6_moves_263 : decode cX6_moves 263 = .ok (.iastore, 1) := by decide +kernel
theorem dX6_moves_264 : decode cX6_moves 264 = .ok (.aload_n 0, 1) := by decide +kernel
theorem dX6_moves_265 : decode cX6_moves 265 = .ok (.iconst 1, 1) := by decide +kernel
theorem dX6_moves_266 : decode cX6_moves 266 = .ok (.putfield 209, 3) := by decide +kernel
theorem dX6_moves_269 : decode cX6_moves 269 = .ok (.goto 12, 3) := by decide +kernel
theorem dX6_moves_272 : decode cX6_moves 272 = .ok (.aload_n 0, 1) := by decide +kernel
theorem dX6_moves_273 : decode cX6_moves 273 = .ok (.iconst 1, 1) := by decide +kernel
theorem dX6_moves_274 : decode cX6_moves 274 = .ok (.aload_n 0, 1) := by decide +kernel
theorem dX6_moves_275 : decode cX6_moves 275 = .ok (.invokevirtual 206, 3) := by decide +kernel
theorem dX6_moves_278 : decode cX6_moves 278 = .ok (.invokevirtual 202, 3) := by decide +kernel
theorem dX6_moves_281 : decode cX6_moves 281 = .ok (.return_, 1) := by decide +kernel
set_option maxRecDepth 20000 in
theorem ggX6_others_X6_extended : GoodIn wsX6_others wsX6_extended := goodIn_r _ [12] (by decide +kernel) (by decide +kernel)
set_option maxRecDepth 20000 in
theorem gX6_others_X6_extended : GoodIn wsX6_others (va_wsS RX6 136 yX6_extended wsX6_extended) := goodIn_app (goodIn_of _ (by decide +kernel)) ggX6_others_X6_extended
set_option maxRecDepth 20000 in
theorem ggX6_others_X6_callFar : GoodIn wsX6_others wsX6_callFar := goodIn_r _ [16, 17, 18, 19, 20, 21, 11, 22, 2, 3, 23, 24, 25, 26, 27, 28, 29, 30, 31, 32, 33, 34, 35, 36, 37, 38, 55, 56, 57, 58, 59, 60, 61, 62, 63, 64, 65, 66, 67, 68, 69, 70, 71, 72, 73, 74, 75, 76, 77, 78, 79, 80, 81, 82, 83] (by decide +kernel) (by decide +kernel)
set_option maxRecDepth 20000 in
theorem gX6_others_X6_callFar : GoodIn wsX6_others (wsV RX6 220 RX6 yX6_callFar wsX6_callFar) := goodIn_app (goodIn_of _ (by decide +kernel)) ggX6_others_X6_callFar
set_option maxRecDepth 20000 in
theorem ggX6_others_X6_push : GoodIn wsX6_others wsX6_push := goodIn_r _ [22, 2, 3, 17, 23, 24, 25, 11, 26, 27, 28, 29, 30, 31, 32, 33, 34, 35, 36, 37, 38, 55, 56, 57, 58, 59, 60, 61, 62, 63, 64, 65, 66, 67, 68, 69, 70, 71, 72, 73, 74, 75, 76, 77, 78, 79, 80, 81, 82, 83] (by decide +kernel) (by decide +kernel)
set_option maxRecDepth 20000 in
theorem gX6_others_X6_push : GoodIn wsX6_others (wsV RX6 183 RX6 yX6_push wsX6_push) := goodIn_app (goodIn_of _ (by decide +kernel)) ggX6_others_X6_push
set_option maxRecDepth 20000 in
theorem ggX6_others_X6_pop : GoodIn wsX6_others wsX6_pop := goodIn_r _ [42, 17, 2, 3, 43, 44, 45, 11, 46, 27, 28, 29, 30, 47, 48, 49, 50, 35, 38, 55, 56, 57, 58, 59, 60, 61, 62, 63, 64, 65, 66, 67, 68, 69, 70, 71, 72, 73, 74, 75, 76, 77, 78, 79, 80, 81, 82, 83] (by decide +kernel) (by decide +kernel)
set_option maxRecDepth 20000 in
theorem gX6_others_X6_pop : GoodIn wsX6_others (wsV RX6 206 RX6 yX6_pop wsX6_pop) := goodIn_app (goodIn_of _ (by decide +kernel)) ggX6_others_X6_pop
set_option maxRecDepth 20000 in
theorem ggX6_others_X6_setRegister : GoodIn wsX6_others wsX6_setRegister := goodIn_r _ [54, 2, 3, 8, 55, 56, 57, 58, 59, 60, 61, 62, 63, 64, 65, 66, 67, 68, 69, 70, 71, 72, 73, 74, 75, 76, 77, 78, 79, 80, 81, 82, 83] (by decide +kernel) (by decide +kernel)
set_option maxRecDepth 20000 in
theorem gX6_others_X6_setRegister : GoodIn wsX6_others (wsV RX6 101 RX6 yX6_setRegister wsX6_setRegister) := goodIn_app (goodIn_of _ (by decide +kernel)) ggX6_others_X6_setRegister
theorem dX6_others_0 : decode cX6_others 0 = .ok (.aload_n 0, 1) := by decide +kernel
theorem dX6_others_1 : decode cX6_others 1 = .ok (.getfield 148, 3) := by decide +kernel
theorem dX6_others_4 : decode cX6_others 4 = .ok (.tableswitch 190 152 159 #[48, 73, 100, 115, 118, 132, 147, 175], 48) := by decide +kernel
theorem dX6_others_52 : decode cX6_others 52 = .ok (.aload_n 0, 1) := by decide +kernel
theorem dX6_others_53 : decode cX6_others 53 = .ok (.getfield 7, 3) := by decide +kernel
theorem dX6_others_56 : decode cX6_others 56 = .ok (.iconst 0, 1) := by decide +kernel
theorem dX6_others_57 : decode cX6_others 57 = .ok (.aload_n 0, 1) := by decide +kernel
theorem dX6_others_58 : decode cX6_others 58 = .ok (.getfield 7, 3) := by decide +kernel
theorem dX6_others_61 : decode cX6_others 61 = .ok (.iconst 0, 1) := by decide +kernel
theorem dX6_others_62 : decode cX6_others 62 = .ok (.iaload, 1) := by decide +kernel
theorem dX6_others_63 : decode cX6_others 63 = .ok (.sipush 255, 3) := by decide +kernel
theorem dX6_others_66 : decode cX6_others 66 = .ok (.iand, 1) := by decide +kernel
theorem dX6_others_67 : decode cX6_others 67 = .ok (.invokestatic 136, 3) := by decide +kernel
theorem dX6_others_70 : decode cX6_others 70 = .ok (.ldc 39, 2) := by decide +kernel
theorem dX6_others_72 : decode cX6_others 72 = .ok (.iand, 1) := by decide +kernel
theorem dX6_others_73 : decode cX6_others 73 = .ok (.iastore, 1) := by decide +kernel
theorem dX6_others_74 : decode cX6_others 74 = .ok (.goto 158, 3) := by decide +kernel
theorem dX6_others_77 : decode cX6_others 77 = .ok (.aload_n 0, 1) := by decide +kernel
theorem dX6_others_78 : decode cX6_others 78 = .ok (.getfield 7, 3) := by decide +kernel
theorem dX6_others_81 : decode cX6_others 81 = .ok (.iconst 2, 1) := by decide +kernel
theorem dX6_others_82 : decode cX6_others 82 = .ok (.aload_n 0, 1) := by decide +kernel
theorem dX6_others_83 : decode cX6_others 83 = .ok (.getfield 7, 3) := by decide +kernel
theorem dX6_others_86 : decode cX6_others 86 = .ok (.iconst 0, 1) := by decide +kernel
theorem dX6_others_87 : decode cX6_others 87 = .ok (.iaload, 1) := by decide +kernel
theorem dX6_others_88 : decode cX6_others 88 = .ok (.sipush 32767, 3) := by decide +kernel
theorem dX6_others_91 : decode cX6_others 91 = .ok (.if_icmp .le 8, 3) := by decide +kernel
theorem dX6_others_94 : decode cX6_others 94 = .ok (.ldc 39, 2) := by decide +kernel
theorem dX6_others_96 : decode cX6_others 96 = .ok (.goto 4, 3) := by decide +kernel
theorem dX6_others_99 : decode cX6_others 99 = .ok (.iconst 0, 1) := by decide +kernel
theorem dX6_others_100 : decode cX6_others 100 = .ok (.iastore, 1) := by decide +kernel
theorem dX6_others_101 : decode cX6_others 101 = .ok (.goto 131, 3) := by decide +kernel
theorem dX6_others_104 : decode cX6_others 104 = .ok (.aload_n 0, 1) := by decide +kernel
theorem dX6_others_105 : decode cX6_others 105 = .ok (.aload_n 0, 1) := by decide +kernel
theorem dX6_others_106 : decode cX6_others 106 = .ok (.getfield 164, 3) := by decide +kernel
theorem dX6_others_109 : decode cX6_others 109 = .ok (.aload_n 0, 1) := by decide +kernel
theorem dX6_others_110 : decode cX6_others 110 = .ok (.getfield 167, 3) := by decide +kernel
theorem dX6_others_113 : decode cX6_others 113 = .ok (.invokevirtual 220, 3) := by decide +kernel
theorem dX6_others_116 : decode cX6_others 116 = .ok (.goto 116, 3) := by decide +kernel
theorem dX6_others_119 : decode cX6_others 119 = .ok (.goto 113, 3) := by decide +kernel
theorem dX6_others_122 : decode cX6_others 122 = .ok (.aload_n 0, 1) := by decide +kernel
theorem dX6_others_123 : decode cX6_others 123 = .ok (.aload_n 0, 1) := by decide +kernel
theorem dX6_others_124 : decode cX6_others 124 = .ok (.getfield 54, 3) := by decide +kernel
theorem dX6_others_127 : decode cX6_others 127 = .ok (.ldc 182, 2) := by decide +kernel
theorem dX6_others_129 : decode cX6_others 129 = .ok (.ior, 1) := by decide +kernel
theorem dX6_others_130 : decode cX6_others 130 = .ok (.invokevirtual 183, 3) := by decide +kernel
theorem dX6_others_133 : decode cX6_others 133 = .ok (.goto 99, 3) := by decide +kernel
theorem dX6_others_136 : decode cX6_others 136 = .ok (.aload_n 0, 1) := by decide +kernel
theorem dX6_others_137 : decode cX6_others 137 = .ok (.aload_n 0, 1) := by decide +kernel
theorem dX6_others_138 : decode cX6_others 138 = .ok (.invokevirtual 206, 3) := by decide +kernel
theorem dX6_others_141 : decode cX6_others 141 = .ok (.sipush 4053, 3) := by decide +kernel
theorem dX6_others_144 : decode cX6_others 144 = .ok (.iand, 1) := by decide +kernel
theorem dX6_others_145 : decode cX6_others 145 = .ok (.putfield 54, 3) := by decide +kernel
theorem dX6_others_148 : decode cX6_others 148 = .ok (.goto 84, 3) := by decide +kernel
theorem dX6_others_151 : decode cX6_others 151 = .ok (.aload_n 0, 1) := by decide +kernel
theorem dX6_others_152 : decode cX6_others 152 = .ok (.aload_n 0, 1) := by decide +kernel
theorem dX6_others_153 : decode cX6_others 153 = .ok (.getfield 54, 3) := by decide +kernel
theorem dX6_others_156 : decode cX6_others 156 = .ok (.ldc 53, 2) := by decide +kernel
theorem dX6_others_158 : decode cX6_others 158 = .ok (.iand, 1) := by decide +kernel
theorem dX6_others_159 : decode cX6_others 159 = .ok (.aload_n 0, 1) := by decide +kernel
theorem dX6_others_160 : decode cX6_others 160 = .ok (.getfield 7, 3) := by decide +kernel
theorem dX6_others_163 : decode cX6_others 163 = .ok (.iconst 0, 1) := by decide +kernel
theorem dX6_others_164 : decode cX6_others 164 = .ok (.iaload, 1) := by decide +kernel
theorem dX6_others_165 : decode cX6_others 165 = .ok (.bipush 8, 2) := by decide +kernel
theorem dX6_others_167 : decode cX6_others 167 = .ok (.ishr, 1) := by decide +kernel
theorem dX6_others_168 : decode cX6_others 168 = .ok (.ior, 1) := by decide +kernel
theorem dX6_others_169 : decode cX6_others 169 = .ok (.sipush 4053, 3) := by decide +kernel
theorem dX6_others_172 : decode cX6_others 172 = .ok (.iand, 1) := by decide +kernel
theorem dX6_others_173 : decode cX6_others 173 = .ok (.putfield 54, 3) := by decide +kernel
theorem dX6_others_176 : decode cX6_others 176 = .ok (.goto 56, 3) := by decide +kernel
theorem dX6_others_179 : decode cX6_others 179 = .ok (.aload_n 0, 1) := by decide +kernel
theorem dX6_others_180 : decode cX6_others 180 = .ok (.iconst 4, 1) := by decide +kernel
theorem dX6_others_181 : decode cX6_others 181 = .ok (.iconst 0, 1) := by decide +kernel
theorem dX6_others_182 : decode cX6_others 182 = .ok (.aload_n 0, 1) := by decide +kernel
theorem dX6_others_183 : decode cX6_others 183 = .ok (.getfield 54, 3) := by decide +kernel
theorem dX6_others_186 : decode cX6_others 186 = .ok (.iconst 2, 1) := by decide +kernel
theorem dX6_others_187 : decode cX6_others 187 = .ok (.ior, 1) := by decide +kernel
theorem dX6_others_188 : decode cX6_others 188 = .ok (.invokevirtual 101, 3) := by decide +kernel
theorem dX6_others_191 : decode cX6_others 191 = .ok (.goto 41, 3) := by decide +kernel
theorem dX6_others_194 : decode cX6_others 194 = .ok (.aload_n 0, 1) := by decide +kernel
theorem dX6_others_195 : decode cX6_others 195 = .ok (.getfield 7, 3) := by decide +kernel
theorem dX6_others_198 : decode cX6_others 198 = .ok (.aload_n 0, 1) := by decide +kernel
theorem dX6_others_199 : decode cX6_others 199 = .ok (.getfield 148, 3) := by decide +kernel
theorem dX6_others_202 : decode cX6_others 202 = .ok (.bipush 7, 2) := by decide +kernel
theorem dX6_others_204 : decode cX6_others 204 = .ok (.iand, 1) := by decide +kernel
theorem dX6_others_205 : decode cX6_others 205 = .ok (.iaload, 1) := by decide +kernel
theorem dX6_others_206 : decode cX6_others 206 = .ok (.istore_n 1, 1) := by decide +kernel
theorem dX6_others_207 : decode cX6_others 207 = .ok (.aload_n 0, 1) := by decide +kernel
theorem dX6_others_208 : decode cX6_others 208 = .ok (.getfield 7, 3) := by decide +kernel
theorem dX6_others_211 : decode cX6_others 211 = .ok (.aload_n 0, 1) := by decide +kernel
theorem dX6_others_212 : decode cX6_others 212 = .ok (.getfield 148, 3) := by decide +kernel
theorem dX6_others_215 : decode cX6_others 215 = .ok (.bipush 7, 2) := by decide +kernel
theorem dX6_others_217 : decode cX6_others 217 = .ok (.iand, 1) := by decide +kernel
theorem dX6_others_218 : decode cX6_others 218 = .ok (.aload_n 0, 1) := by decide +kernel
theorem dX6_others_219 : decode cX6_others 219 = .ok (.getfield 7, 3) := by decide +kernel
theorem dX6_others_222 : decode cX6_others 222 = .ok (.iconst 0, 1) := by decide +kernel
theorem dX6_others_223 : decode cX6_others 223 = .ok (.iaload, 1) := by decide +kernel
theorem dX6_others_224 : decode cX6_others 224 = .ok (.iastore, 1) := by decide +kernel
theorem dX6_others_225 : decode cX6_others 225 = .ok (.aload_n 0, 1) := by decide +kernel
theorem dX6_others_226 : decode cX6_others 226 = .ok (.getfield 7, 3) := by decide +kernel
theorem dX6_others_229 : decode cX6_others 229 = .ok (.iconst 0, 1) := by decide +kernel
theorem dX6_others_230 : decode cX6_others 230 = .ok (.iload_n 1, 1) := by decide +kernel
theorem dX6_others_231 : decode cX6_others 231 = .ok (.iastore, 1) := by decide +kernel
theorem dX6_others_232 : decode cX6_others 232 = .ok (.return_, 1) := by decide +kernel
set_option maxRecDepth 20000 in
theorem ggX6_memory_X6_isWide : GoodIn wsX6_memory wsX6_isWide := goodIn_r _ [7, 1, 108, 109, 110, 111, 112, 113, 114, 115, 116, 117, 118, 119, 120, 121, 122, 123, 124, 125, 126, 127, 128, 129, 130, 131, 132, 133, 134, 135, 136] (by decide +kernel) (by decide +kernel)
set_option maxRecDepth 20000 in
theorem gX6_memory_X6_isWide : GoodIn wsX6_memory (wsV RX6 158 RX6 yX6_isWide wsX6_isWide) := goodIn_app (goodIn_of _ (by decide +kernel)) ggX6_memory_X6_isWide
set_option maxRecDepth 20000 in
theorem ggX6_memory_X6_setRegister : GoodIn wsX6_memory wsX6_setRegister := goodIn_r _ [11, 12, 13, 14, 108, 109, 110, 111, 112, 113, 114, 115, 116, 117, 118, 119, 120, 121, 122, 123, 124, 125, 126, 127, 128, 129, 130, 131, 132, 133, 134, 135, 136] (by decide +kernel) (by decide +kernel)
set_option maxRecDepth 20000 in
theorem gX6_memory_X6_setRegister : GoodIn wsX6_memory (wsV RX6 101 RX6 yX6_setRegister wsX6_setRegister) := goodIn_app (goodIn_of _ (by decide +kernel)) ggX6_memory_X6_setRegister
set_option maxRecDepth 20000 in
theorem ggX6_memory_X6_segmentOr : GoodIn wsX6_memory wsX6_segmentOr := goodIn_r _ [18, 19, 20, 108, 109, 110, 111, 112, 113, 114, 115, 116, 117, 118, 119, 120, 121, 122, 123, 124, 125, 126, 127, 128, 129, 130, 131, 132, 133, 134, 135, 136] (by decide +kernel) (by decide +kernel)
set_option maxRecDepth 20000 in
theorem gX6_memory_X6_segmentOr : GoodIn wsX6_memory (wsV RX6 142 RX6 yX6_segmentOr wsX6_segmentOr) := goodIn_app (goodIn_of _ (by decide +kernel)) ggX6_memory_X6_segmentOr
set_option maxRecDepth 20000 in
theorem ggX6_memory_X6_get : GoodIn wsX6_memory wsX6_get := goodIn_r _ [24, 25, 26, 6, 27, 13, 28, 29, 30, 31, 32, 33, 34, 108, 109, 110, 111, 112, 113, 114, 115, 116, 117, 118, 119, 120, 121, 122, 123, 124, 125, 126, 127, 128, 129, 130, 131, 132, 133, 134, 135, 136] (by decide +kernel) (by decide +kernel)
set_option maxRecDepth 20000 in
theorem gX6_memory_X6_get : GoodIn wsX6_memory (wsV RX6 61 RX6 yX6_get wsX6_get) := goodIn_app (goodIn_of _ (by decide +kernel)) ggX6_memory_X6_get
set_option maxRecDepth 20000 in
theorem ggX6_memory_X6_register : GoodIn wsX6_memory wsX6_register := goodIn_r _ [38, 12, 108, 109, 110, 111, 112, 113, 114, 115, 116, 117, 118, 119, 120, 121, 122, 123, 124, 125, 126, 127, 128, 129, 130, 131, 132, 133, 134, 135, 136] (by decide +kernel) (by decide +kernel)
set_option maxRecDepth 20000 in
theorem gX6_memory_X6_register : GoodIn wsX6_memory (wsV RX6 105 RX6 yX6_register wsX6_register) := goodIn_app (goodIn_of _ (by decide +kernel)) ggX6_memory_X6_register
set_option maxRecDepth 20000 in
theorem ggX6_memory_X6_put : GoodIn wsX6_memory wsX6_put := goodIn_r _ [42, 25, 26, 6, 27, 13, 28, 43, 44, 45, 46, 33, 47, 48, 34, 108, 109, 110, 111, 112, 113, 114, 115, 116, 117, 118, 119, 120, 121, 122, 123, 124, 125, 126, 127, 128, 129, 130, 131, 132, 133, 134, 135, 136] (by decide +kernel) (by decide +kernel)
set_option maxRecDepth 20000 in
theorem gX6_memory_X6_put : GoodIn wsX6_memory (wsV RX6 57 RX6 yX6_put wsX6_put) := goodIn_app (goodIn_of _ (by decide +kernel)) ggX6_memory_X6_put
set_option maxRecDepth 20000 in
theorem ggX6_memory_X6_isString : GoodIn wsX6_memory wsX6_isString := goodIn_r _ [52, 1, 108, 109, 110, 111, 112, 113, 114, 115, 116, 117, 118, 119, 120, 121, 122, 123, 124, 125, 126, 127, 128, 129, 130, 131, 132, 133, 134, 135, 136] (by decide +kernel) (by decide +kernel)
set_option maxRecDepth 20000 in
theorem gX6_memory_X6_isString : GoodIn wsX6_memory (wsV RX6 223 RX6 yX6_isString wsX6_isString) := goodIn_app (goodIn_of _ (by decide +kernel)) ggX6_memory_X6_isString
set_option maxRecDepth 20000 in
theorem ggX6_memory_X6_strings : GoodIn wsX6_memory wsX6_strings := goodIn_r _ [56, 57, 12, 58, 59, 60, 61, 62, 63, 6, 64, 1, 19, 13, 3, 4, 5, 7, 65, 66, 67, 68, 69, 15, 16, 17, 18, 20, 21, 22, 23, 24, 25, 26, 27, 28, 29, 30, 31, 32, 33, 34, 35, 36, 37, 38, 39, 40, 41, 42, 43, 44, 45, 46, 47, 48, 8, 9, 10, 11, 14, 70, 71, 72, 73, 74, 75, 76, 77, 78, 79, 80, 81, 82, 83, 84, 85, 86, 87, 88, 89, 90, 91, 92, 93, 94, 95, 96, 97, 98, 99, 100, 101, 102, 103, 104, 105, 106, 107, 108, 109, 110, 111, 112, 113, 114, 115, 116, 117, 118, 119, 120, 121, 122, 123, 124, 125, 126, 127, 128, 129, 130, 131, 132, 133, 134, 135, 136] (by decide +kernel) (by decide +kernel)
set_option maxRecDepth 20000 in
theorem gX6_memory_X6_strings : GoodIn wsX6_memory (wsV RX6 226 RX6 yX6_strings wsX6_strings) := goodIn_app (goodIn_of _ (by decide +kernel)) ggX6_memory_X6_strings
set_option maxRecDepth 20000 in
theorem ggX6_memory_X6_operation : GoodIn wsX6_memory wsX6_operation := goodIn_r _ [73, 69, 74, 75, 76, 6, 77, 78, 79, 80, 81, 82, 83, 84, 85, 86, 87, 13, 88, 89, 90, 91, 92, 93, 94, 95, 96, 97, 98, 99, 100, 101, 102, 103, 108, 109, 110, 111, 112, 113, 114, 115, 116, 117, 118, 119, 120, 121, 122, 123, 124, 125, 126, 127, 128, 129, 130, 131, 132, 133, 134, 135, 136] (by decide +kernel) (by decide +kernel)
set_option maxRecDepth 20000 in
theorem gX6_memory_X6_operation : GoodIn wsX6_memory (wsV RX6 187 RX6 yX6_operation wsX6_operation) := goodIn_app (goodIn_of _ (by decide +kernel)) ggX6_memory_X6_operation
theorem dX6_memory_0 : decode cX6_memory 0 = .ok (.aload_n 0, 1) := by decide +kernel
theorem dX6_memory_1 : decode cX6_memory 1 = .ok (.invokevirtual 158, 3) := by decide +kernel
theorem dX6_memory_4 : decode cX6_memory 4 = .ok (.istore_n 1, 1) := by decide +kernel
theorem dX6_memory_5 : decode cX6_memory 5 = .ok (.aload_n 0, 1) := by decide +kernel
theorem dX6_memory_6 : decode cX6_memory 6 = .ok (.getfield 148, 3) := by decide +kernel
theorem dX6_memory_9 : decode cX6_memory 9 = .ok (.sipush 176, 3) := by decide +kernel
theorem dX6_memory_12 : decode cX6_memory 12 = .ok (.if_icmp .lt 36, 3) := by decide +kernel
theorem dX6_memory_15 : decode cX6_memory 15 = .ok (.aload_n 0, 1) := by decide +kernel
theorem dX6_memory_16 : decode cX6_memory 16 = .ok (.aload_n 0, 1) := by decide +kernel
theorem dX6_memory_17 : decode cX6_memory 17 = .ok (.getfield 148, 3) := by decide +kernel
theorem dX6_memory_20 : decode cX6_memory 20 = .ok (.bipush 7, 2) := by decide +kernel
theorem dX6_memory_22 : decode cX6_memory 22 = .ok (.iand, 1) := by decide +kernel
theorem dX6_memory_23 : decode cX6_memory 23 = .ok (.aload_n 0, 1) := by decide +kernel
theorem dX6_memory_24 : decode cX6_memory 24 = .ok (.getfield 148, 3) := by decide +kernel
theorem dX6_memory_27 : decode cX6_memory 27 = .ok (.sipush 184, 3) := by decide +kernel
theorem dX6_memory_30 : decode cX6_memory 30 = .ok (.if_icmp .lt 7, 3) := by decide +kernel
theorem dX6_memory_33 : decode cX6_memory 33 = .ok (.iconst 1, 1) := by decide +kernel
theorem dX6_memory_34 : decode cX6_memory 34 = .ok (.goto 4, 3) := by decide +kernel
theorem dX6_memory_37 : decode cX6_memory 37 = .ok (.iconst 0, 1) := by decide +kernel
theorem dX6_memory_38 : decode cX6_memory 38 = .ok (.aload_n 0, 1) := by decide +kernel
theorem dX6_memory_39 : decode cX6_memory 39 = .ok (.getfield 164, 3) := by decide +kernel
theorem dX6_memory_42 : decode cX6_memory 42 = .ok (.invokevirtual 101, 3) := by decide +kernel
theorem dX6_memory_45 : decode cX6_memory 45 = .ok (.goto 101, 3) := by decide +kernel
theorem dX6_memory_48 : decode cX6_memory 48 = .ok (.aload_n 0, 1) := by decide +kernel
theorem dX6_memory_49 : decode cX6_memory 49 = .ok (.getfield 148, 3) := by decide +kernel
theorem dX6_memory_52 : decode cX6_memory 52 = .ok (.sipush 162, 3) := by decide +kernel
theorem dX6_memory_55 : decode cX6_memory 55 = .ok (.if_icmp .ge 26, 3) := by decide +kernel
theorem dX6_memory_58 : decode cX6_memory 58 = .ok (.aload_n 0, 1) := by decide +kernel
theorem dX6_memory_59 : decode cX6_memory 59 = .ok (.iconst 0, 1) := by decide +kernel
theorem dX6_memory_60 : decode cX6_memory 60 = .ok (.iload_n 1, 1) := by decide +kernel
theorem dX6_memory_61 : decode cX6_memory 61 = .ok (.aload_n 0, 1) := by decide +kernel
theorem dX6_memory_62 : decode cX6_memory 62 = .ok (.aload_n 0, 1) := by decide +kernel
theorem dX6_memory_63 : decode cX6_memory 63 = .ok (.iconst 3, 1) := by decide +kernel
theorem dX6_memory_64 : decode cX6_memory 64 = .ok (.invokevirtual 142, 3) := by decide +kernel
theorem dX6_memory_67 : decode cX6_memory 67 = .ok (.aload_n 0, 1) := by decide +kernel
theorem dX6_memory_68 : decode cX6_memory 68 = .ok (.getfield 164, 3) := by decide +kernel
theorem dX6_memory_71 : decode cX6_memory 71 = .ok (.iload_n 1, 1) := by decide +kernel
theorem dX6_memory_72 : decode cX6_memory 72 = .ok (.invokevirtual 61, 3) := by decide +kernel
theorem dX6_memory_75 : decode cX6_memory 75 = .ok (.invokevirtual 101, 3) := by decide +kernel
theorem dX6_memory_78 : decode cX6_memory 78 = .ok (.goto 68, 3) := by decide +kernel
theorem dX6_memory_81 : decode cX6_memory 81 = .ok (.aload_n 0, 1) := by decide +kernel
theorem dX6_memory_82 : decode cX6_memory 82 = .ok (.getfield 148, 3) := by decide +kernel
theorem dX6_memory_85 : decode cX6_memory 85 = .ok (.sipush 164, 3) := by decide +kernel
theorem dX6_memory_88 : decode cX6_memory 88 = .ok (.if_icmp .ge 26, 3) := by decide +kernel
theorem dX6_memory_91 : decode cX6_memory 91 = .ok (.aload_n 0, 1) := by decide +kernel
theorem dX6_memory_92 : decode cX6_memory 92 = .ok (.aload_n 0, 1) := by decide +kernel
theorem dX6_memory_93 : decode cX6_memory 93 = .ok (.iconst 3, 1) := by decide +kernel
theorem dX6_memory_94 : decode cX6_memory 94 = .ok (.invokevirtual 142, 3) := by decide +kernel
theorem dX6_memory_97 : decode cX6_memory 97 = .ok (.aload_n 0, 1) := by decide +kernel
theorem dX6_memory_98 : decode cX6_memory 98 = .ok (.getfield 164, 3) := by decide +kernel
theorem dX6_memory_101 : decode cX6_memory 101 = .ok (.iload_n 1, 1) := by decide +kernel
theorem dX6_memory_102 : decode cX6_memory 102 = .ok (.aload_n 0, 1) := by decide +kernel
theorem dX6_memory_103 : decode cX6_memory 103 = .ok (.iconst 0, 1) := by decide +kernel
theorem dX6_memory_104 : decode cX6_memory 104 = .ok (.iload_n 1, 1) := by decide +kernel
theorem dX6_memory_105 : decode cX6_memory 105 = .ok (.invokevirtual 105, 3) := by decide +kernel
theorem dX6_memory_108 : decode cX6_memory 108 = .ok (.invokevirtual 57, 3) := by decide +kernel
theorem dX6_memory_111 : decode cX6_memory 111 = .ok (.goto 35, 3) := by decide +kernel
theorem dX6_memory_114 : decode cX6_memory 114 = .ok (.aload_n 0, 1) := by decide +kernel
theorem dX6_memory_115 : decode cX6_memory 115 = .ok (.invokevirtual 223, 3) := by decide +kernel
theorem dX6_memory_118 : decode cX6_memory 118 = .ok (.ifCond .eq 10, 3) := by decide +kernel
theorem dX6_memory_121 : decode cX6_memory 121 = .ok (.aload_n 0, 1) := by decide +kernel
theorem dX6_memory_122 : decode cX6_memory 122 = .ok (.invokevirtual 226, 3) := by decide +kernel
theorem dX6_memory_125 : decode cX6_memory 125 = .ok (.goto 21, 3) := by decide +kernel
theorem dX6_memory_128 : decode cX6_memory 128 = .ok (.aload_n 0, 1) := by decide +kernel
theorem dX6_memory_129 : decode cX6_memory 129 = .ok (.bipush 8, 2) := by decide +kernel
theorem dX6_memory_131 : decode cX6_memory 131 = .ok (.aload_n 0, 1) := by decide +kernel
theorem dX6_memory_132 : decode cX6_memory 132 = .ok (.iconst 0, 1) := by decide +kernel
theorem dX6_memory_133 : decode cX6_memory 133 = .ok (.iload_n 1, 1) := by decide +kernel
theorem dX6_memory_134 : decode cX6_memory 134 = .ok (.invokevirtual 105, 3) := by decide +kernel
theorem dX6_memory_137 : decode cX6_memory 137 = .ok (.aload_n 0, 1) := by decide +kernel
theorem dX6_memory_138 : decode cX6_memory 138 = .ok (.getfield 164, 3) := by decide +kernel
theorem dX6_memory_141 : decode cX6_memory 141 = .ok (.iload_n 1, 1) := by decide +kernel
theorem dX6_memory_142 : decode cX6_memory 142 = .ok (.invokevirtual 187, 3) := by decide +kernel
theorem dX6_memory_145 : decode cX6_memory 145 = .ok (.istore_n 2, 1) := by decide +kernel
theorem dX6_memory_146 : decode cX6_memory 146 = .ok (.return_, 1) := by decide +kernel
set_option maxRecDepth 20000 in
theorem ggX6_returns_X6_pop : GoodIn wsX6_returns wsX6_pop := goodIn_r _ [9, 2, 3, 4, 10, 11, 12, 8, 13, 14, 15, 16, 17, 18, 19, 20, 21, 22, 23, 24, 25, 26, 27, 28, 29, 30, 31, 32, 33, 34, 35, 36, 37, 38, 39, 40, 41, 42, 43, 44, 45, 46, 47, 48, 49, 50, 51, 52] (by decide +kernel) (by decide +kernel)
set_option maxRecDepth 20000 in
theorem gX6_returns_X6_pop : GoodIn wsX6_returns (wsV RX6 206 RX6 yX6_pop wsX6_pop) := goodIn_app (goodIn_of _ (by decide +kernel)) ggX6_returns_X6_pop
theorem dX6_returns_0 : decode cX6_returns 0 = .ok (.aload_n 0, 1) := by decide +kernel
theorem dX6_returns_1 : decode cX6_returns 1 = .ok (.aload_n 0, 1) := by decide +kernel
theorem dX6_returns_2 : decode cX6_returns 2 = .ok (.invokevirtual 206, 3) := by decide +kernel
theorem dX6_returns_5 : decode cX6_returns 5 = .ok (.putfield 170, 3) := by decide +kernel
theorem dX6_returns_8 : decode cX6_returns 8 = .ok (.iload_n 1, 1) := by decide +kernel
theorem dX6_returns_9 : decode cX6_returns 9 = .ok (.ifCond .eq 13, 3) := by decide +kernel
theorem dX6_returns_12 : decode cX6_returns 12 = .ok (.aload_n 0, 1) := by decide +kernel
theorem dX6_returns_13 : decode cX6_returns 13 = .ok (.getfield 13, 3) := by decide +kernel
theorem dX6_returns_16 : decode cX6_returns 16 = .ok (.iconst 1, 1) := by decide +kernel
theorem dX6_returns_17 : decode cX6_returns 17 = .ok (.aload_n 0, 1) := by decide +kernel
theorem dX6_returns_18 : decode cX6_returns 18 = .ok (.invokevirtual 206, 3) := by decide +kernel
theorem dX6_returns_21 : decode cX6_returns 21 = .ok (.iastore, 1) := by decide +kernel
theorem dX6_returns_22 : decode cX6_returns 22 = .ok (.aload_n 0, 1) := by decide +kernel
theorem dX6_returns_23 : decode cX6_returns 23 = .ok (.getfield 7, 3) := by decide +kernel
theorem dX6_returns_26 : decode cX6_returns 26 = .ok (.iconst 4, 1) := by decide +kernel
theorem dX6_returns_27 : decode cX6_returns 27 = .ok (.aload_n 0, 1) := by decide +kernel
theorem dX6_returns_28 : decode cX6_returns 28 = .ok (.getfield 7, 3) := by decide +kernel
theorem dX6_returns_31 : decode cX6_returns 31 = .ok (.iconst 4, 1) := by decide +kernel
theorem dX6_returns_32 : decode cX6_returns 32 = .ok (.iaload, 1) := by decide +kernel
theorem dX6_returns_33 : decode cX6_returns 33 = .ok (.iload_n 2, 1) := by decide +kernel
theorem dX6_returns_34 : decode cX6_returns 34 = .ok (.iadd, 1) := by decide +kernel
theorem dX6_returns_35 : decode cX6_returns 35 = .ok (.ldc 39, 2) := by decide +kernel
theorem dX6_returns_37 : decode cX6_returns 37 = .ok (.iand, 1) := by decide +kernel
theorem dX6_returns_38 : decode cX6_returns 38 = .ok (.iastore, 1) := by decide +kernel
theorem dX6_returns_39 : decode cX6_returns 39 = .ok (.return_, 1) := by decide +kernel
set_option maxRecDepth 20000 in
theorem ggX6_returnsAndMore_X6_returns : GoodIn wsX6_returnsAndMore wsX6_returns := goodIn_r _ [13, 14, 3, 6, 15, 16, 17, 18, 12, 19, 20, 21, 22, 23, 24, 25, 26, 27, 28, 29, 30, 31, 32, 33, 80, 81, 82, 83, 84, 85, 86, 87, 88, 89, 90, 91, 92, 93, 94, 95, 96, 97, 98, 99, 100, 101, 102, 103, 104, 105, 106, 107, 108] (by decide +kernel) (by decide +kernel)
set_option maxRecDepth 20000 in
theorem gX6_returnsAndMore_X6_returns : GoodIn wsX6_returnsAndMore (wsV RX6 229 RX6 yX6_returns wsX6_returns) := goodIn_app (goodIn_of _ (by decide +kernel)) ggX6_returnsAndMore_X6_returns
set_option maxRecDepth 20000 in
theorem ggX6_returnsAndMore_X6_operand : GoodIn wsX6_returnsAndMore wsX6_operand := goodIn_r _ [37, 38, 39, 4, 5, 40, 41, 42, 12, 43, 6, 20, 21, 22, 23, 24, 25, 26, 15, 27, 28, 29, 30, 31, 32, 33, 80, 81, 82, 83, 84, 85, 86, 87, 88, 89, 90, 91, 92, 93, 94, 95, 96, 97, 98, 99, 100, 101, 102, 103, 104, 105, 106, 107, 108] (by decide +kernel) (by decide +kernel)
set_option maxRecDepth 20000 in
theorem gX6_returnsAndMore_X6_operand : GoodIn wsX6_returnsAndMore (wsV RX6 199 RX6 yX6_operand wsX6_operand) := goodIn_app (goodIn_of _ (by decide +kernel)) ggX6_returnsAndMore_X6_operand
set_option maxRecDepth 20000 in
theorem ggX6_returnsAndMore_X6_get : GoodIn wsX6_returnsAndMore wsX6_get := goodIn_r _ [23, 24, 25, 12, 26, 15, 27, 28, 29, 30, 31, 32, 33, 80, 81, 82, 83, 84, 85, 86, 87, 88, 89, 90, 91, 92, 93, 94, 95, 96, 97, 98, 99, 100, 101, 102, 103, 104, 105, 106, 107, 108] (by decide +kernel) (by decide +kernel)
set_option maxRecDepth 20000 in
theorem gX6_returnsAndMore_X6_get : GoodIn wsX6_returnsAndMore (wsV RX6 61 RX6 yX6_get wsX6_get) := goodIn_app (goodIn_of _ (by decide +kernel)) ggX6_returnsAndMore_X6_get
set_option maxRecDepth 20000 in
theorem ggX6_returnsAndMore_X6_isWide : GoodIn wsX6_returnsAndMore wsX6_isWide := goodIn_r _ [47, 1, 80, 81, 82, 83, 84, 85, 86, 87, 88, 89, 90, 91, 92, 93, 94, 95, 96, 97, 98, 99, 100, 101, 102, 103, 104, 105, 106, 107, 108] (by decide +kernel) (by decide +kernel)
set_option maxRecDepth 20000 in
theorem gX6_returnsAndMore_X6_isWide : GoodIn wsX6_returnsAndMore (wsV RX6 158 RX6 yX6_isWide wsX6_isWide) := goodIn_app (goodIn_of _ (by decide +kernel)) ggX6_returnsAndMore_X6_isWide
set_option maxRecDepth 20000 in
theorem ggX6_returnsAndMore_X6_give : GoodIn wsX6_returnsAndMore wsX6_give := goodIn_r _ [51, 38, 39, 4, 5, 52, 53, 54, 12, 55, 6, 15, 56, 57, 58, 59, 60, 24, 25, 26, 27, 61, 62, 63, 64, 32, 65, 66, 33, 80, 81, 82, 83, 84, 85, 86, 87, 88, 89, 90, 91, 92, 93, 94, 95, 96, 97, 98, 99, 100, 101, 102, 103, 104, 105, 106, 107, 108] (by decide +kernel) (by decide +kernel)
set_option maxRecDepth 20000 in
theorem gX6_returnsAndMore_X6_give : GoodIn wsX6_returnsAndMore (wsV RX6 202 RX6 yX6_give wsX6_give) := goodIn_app (goodIn_of _ (by decide +kernel)) ggX6_returnsAndMore_X6_give
set_option maxRecDepth 20000 in
theorem ggX6_returnsAndMore_X6_interrupt : GoodIn wsX6_returnsAndMore wsX6_interrupt := goodIn_r _ [70, 8, 71, 3, 14, 72, 73, 74, 12, 75, 6, 15, 57, 58, 59, 60, 24, 25, 26, 27, 61, 62, 63, 64, 32, 65, 66, 33, 20, 21, 22, 23, 28, 29, 30, 31, 80, 81, 82, 83, 84, 85, 86, 87, 88, 89, 90, 91, 92, 93, 94, 95, 96, 97, 98, 99, 100, 101, 102, 103, 104, 105, 106, 107, 108] (by decide +kernel) (by decide +kernel)
set_option maxRecDepth 20000 in
theorem gX6_returnsAndMore_X6_interrupt : GoodIn wsX6_returnsAndMore (wsV RX6 232 RX6 yX6_interrupt wsX6_interrupt) := goodIn_app (goodIn_of _ (by decide +kernel)) ggX6_returnsAndMore_X6_interrupt
set_option maxRecDepth 20000 in
theorem ggX6_returnsAndMore_X6_has : GoodIn wsX6_returnsAndMore wsX6_has := goodIn_r _ [79, 8, 80, 81, 82, 83, 84, 85, 86, 87, 88, 89, 90, 91, 92, 93, 94, 95, 96, 97, 98, 99, 100, 101, 102, 103, 104, 105, 106, 107, 108] (by decide +kernel) (by decide +kernel)
set_option maxRecDepth 20000 in
theorem gX6_returnsAndMore_X6_has : GoodIn wsX6_returnsAndMore (wsV RX6 97 RX6 yX6_has wsX6_has) := goodIn_app (goodIn_of _ (by decide +kernel)) ggX6_returnsAndMore_X6_has
set_option maxRecDepth 20000 in
theorem ggX6_returnsAndMore_X6_pop : GoodIn wsX6_returnsAndMore wsX6_pop := goodIn_r _ [19, 3, 6, 15, 20, 21, 22, 12, 23, 24, 25, 26, 27, 28, 29, 30, 31, 32, 33, 80, 81, 82, 83, 84, 85, 86, 87, 88, 89, 90, 91, 92, 93, 94, 95, 96, 97, 98, 99, 100, 101, 102, 103, 104, 105, 106, 107, 108] (by decide +kernel) (by decide +kernel)
set_option maxRecDepth 20000 in
theorem gX6_returnsAndMore_X6_pop : GoodIn wsX6_returnsAndMore (wsV RX6 206 RX6 yX6_pop wsX6_pop) := goodIn_app (goodIn_of _ (by decide +kernel)) ggX6_returnsAndMore_X6_pop
theorem dX6_returnsAndMore_0 : decode cX6_returnsAndMore 0 = .ok (.aload_n 0, 1) := by decide +kernel
theorem dX6_returnsAndMore_1 : decode cX6_returnsAndMore 1 = .ok (.getfield 148, 3) := by decide +kernel
theorem dX6_returnsAndMore_4 : decode cX6_returnsAndMore 4 = .ok (.tableswitch 224 192 206 #[76, 88, 76, 88, 118, 118, 172, 172, 97, 109, 97, 109, 187, 195, 206], 76) := by decide +kernel
theorem dX6_returnsAndMore_80 : decode cX6_returnsAndMore 80 = .ok (.aload_n 0, 1) := by decide +kernel
theorem dX6_returnsAndMore_81 : decode cX6_returnsAndMore 81 = .ok (.iconst 0, 1) := by decide +kernel
theorem dX6_returnsAndMore_82 : decode cX6_returnsAndMore 82 = .ok (.aload_n 0, 1) := by decide +kernel
theorem dX6_returnsAndMore_83 : decode cX6_returnsAndMore 83 = .ok (.getfield 164, 3) := by decide +kernel
theorem dX6_returnsAndMore_86 : decode cX6_returnsAndMore 86 = .ok (.invokevirtual 229, 3) := by decide +kernel
theorem dX6_returnsAndMore_89 : decode cX6_returnsAndMore 89 = .ok (.goto 157, 3) := by decide +kernel
theorem dX6_returnsAndMore_92 : decode cX6_returnsAndMore 92 = .ok (.aload_n 0, 1) := by decide +kernel
theorem dX6_returnsAndMore_93 : decode cX6_returnsAndMore 93 = .ok (.iconst 0, 1) := by decide +kernel
theorem dX6_returnsAndMore_94 : decode cX6_returnsAndMore 94 = .ok (.iconst 0, 1) := by decide +kernel
theorem dX6_returnsAndMore_95 : decode cX6_returnsAndMore 95 = .ok (.invokevirtual 229, 3) := by decide +kernel
theorem dX6_returnsAndMore_98 : decode cX6_returnsAndMore 98 = .ok (.goto 148, 3) := by decide +kernel
theorem dX6_returnsAndMore_101 : decode cX6_returnsAndMore 101 = .ok (.aload_n 0, 1) := by decide +kernel
theorem dX6_returnsAndMore_102 : decode cX6_returnsAndMore 102 = .ok (.iconst 1, 1) := by decide +kernel
theorem dX6_returnsAndMore_103 : decode cX6_returnsAndMore 103 = .ok (.aload_n 0, 1) := by decide +kernel
theorem dX6_returnsAndMore_104 : decode cX6_returnsAndMore 104 = .ok (.getfield 164, 3) := by decide +kernel
theorem dX6_returnsAndMore_107 : decode cX6_returnsAndMore 107 = .ok (.invokevirtual 229, 3) := by decide +kernel
theorem dX6_returnsAndMore_110 : decode cX6_returnsAndMore 110 = .ok (.goto 136, 3) := by decide +kernel
theorem dX6_returnsAndMore_113 : decode cX6_returnsAndMore 113 = .ok (.aload_n 0, 1) := by decide +kernel
theorem dX6_returnsAndMore_114 : decode cX6_returnsAndMore 114 = .ok (.iconst 1, 1) := by decide +kernel
theorem dX6_returnsAndMore_115 : decode cX6_returnsAndMore 115 = .ok (.iconst 0, 1) := by decide +kernel
theorem dX6_returnsAndMore_116 : decode cX6_returnsAndMore 116 = .ok (.invokevirtual 229, 3) := by decide +kernel
theorem dX6_returnsAndMore_119 : decode cX6_returnsAndMore 119 = .ok (.goto 127, 3) := by decide +kernel
theorem dX6_returnsAndMore_122 : decode cX6_returnsAndMore 122 = .ok (.aload_n 0, 1) := by decide +kernel
theorem dX6_returnsAndMore_123 : decode cX6_returnsAndMore 123 = .ok (.iconst 1, 1) := by decide +kernel
theorem dX6_returnsAndMore_124 : decode cX6_returnsAndMore 124 = .ok (.invokevirtual 199, 3) := by decide +kernel
theorem dX6_returnsAndMore_127 : decode cX6_returnsAndMore 127 = .ok (.istore_n 1, 1) := by decide +kernel
theorem dX6_returnsAndMore_128 : decode cX6_returnsAndMore 128 = .ok (.aload_n 0, 1) := by decide +kernel
theorem dX6_returnsAndMore_129 : decode cX6_returnsAndMore 129 = .ok (.getfield 13, 3) := by decide +kernel
theorem dX6_returnsAndMore_132 : decode cX6_returnsAndMore 132 = .ok (.aload_n 0, 1) := by decide +kernel
theorem dX6_returnsAndMore_133 : decode cX6_returnsAndMore 133 = .ok (.getfield 148, 3) := by decide +kernel
theorem dX6_returnsAndMore_136 : decode cX6_returnsAndMore 136 = .ok (.sipush 196, 3) := by decide +kernel
theorem dX6_returnsAndMore_139 : decode cX6_returnsAndMore 139 = .ok (.if_icmp .ne 7, 3) := by decide +kernel
theorem dX6_returnsAndMore_142 : decode cX6_returnsAndMore 142 = .ok (.iconst 0, 1) := by decide +kernel
theorem dX6_returnsAndMore_143 : decode cX6_returnsAndMore 143 = .ok (.goto 4, 3) := by decide +kernel
theorem dX6_returnsAndMore_146 : decode cX6_returnsAndMore 146 = .ok (.iconst 3, 1) := by decide +kernel
theorem dX6_returnsAndMore_147 : decode cX6_returnsAndMore 147 = .ok (.aload_n 0, 1) := by decide +kernel
theorem dX6_returnsAndMore_148 : decode cX6_returnsAndMore 148 = .ok (.aload_n 0, 1) := by decide +kernel
theorem dX6_returnsAndMore_149 : decode cX6_returnsAndMore 149 = .ok (.getfield 145, 3) := by decide +kernel
theorem dX6_returnsAndMore_152 : decode cX6_returnsAndMore 152 = .ok (.aload_n 0, 1) := by decide +kernel
theorem dX6_returnsAndMore_153 : decode cX6_returnsAndMore 153 = .ok (.getfield 139, 3) := by decide +kernel
theorem dX6_returnsAndMore_156 : decode cX6_returnsAndMore 156 = .ok (.iconst 2, 1) := by decide +kernel
theorem dX6_returnsAndMore_157 : decode cX6_returnsAndMore 157 = .ok (.iadd, 1) := by decide +kernel
theorem dX6_returnsAndMore_158 : decode cX6_returnsAndMore 158 = .ok (.iconst 1, 1) := by decide +kernel
theorem dX6_returnsAndMore_159 : decode cX6_returnsAndMore 159 = .ok (.invokevirtual 61, 3) := by decide +kernel
theorem dX6_returnsAndMore_162 : decode cX6_returnsAndMore 162 = .ok (.iastore, 1) := by decide +kernel
theorem dX6_returnsAndMore_163 : decode cX6_returnsAndMore 163 = .ok (.aload_n 0, 1) := by decide +kernel
theorem dX6_returnsAndMore_164 : decode cX6_returnsAndMore 164 = .ok (.getfield 7, 3) := by decide +kernel
theorem dX6_returnsAndMore_167 : decode cX6_returnsAndMore 167 = .ok (.aload_n 0, 1) := by decide +kernel
theorem dX6_returnsAndMore_168 : decode cX6_returnsAndMore 168 = .ok (.getfield 130, 3) := by decide +kernel
theorem dX6_returnsAndMore_171 : decode cX6_returnsAndMore 171 = .ok (.iload_n 1, 1) := by decide +kernel
theorem dX6_returnsAndMore_172 : decode cX6_returnsAndMore 172 = .ok (.iastore, 1) := by decide +kernel
theorem dX6_returnsAndMore_173 : decode cX6_returnsAndMore 173 = .ok (.goto 73, 3) := by decide +kernel
theorem dX6_returnsAndMore_176 : decode cX6_returnsAndMore 176 = .ok (.aload_n 0, 1) := by decide +kernel
theorem dX6_returnsAndMore_177 : decode cX6_returnsAndMore 177 = .ok (.aload_n 0, 1) := by decide +kernel
theorem dX6_returnsAndMore_178 : decode cX6_returnsAndMore 178 = .ok (.invokevirtual 158, 3) := by decide +kernel
theorem dX6_returnsAndMore_181 : decode cX6_returnsAndMore 181 = .ok (.aload_n 0, 1) := by decide +kernel
theorem dX6_returnsAndMore_182 : decode cX6_returnsAndMore 182 = .ok (.getfield 164, 3) := by decide +kernel
theorem dX6_returnsAndMore_185 : decode cX6_returnsAndMore 185 = .ok (.invokevirtual 202, 3) := by decide +kernel
theorem dX6_returnsAndMore_188 : decode cX6_returnsAndMore 188 = .ok (.goto 58, 3) := by decide +kernel
theorem dX6_returnsAndMore_191 : decode cX6_returnsAndMore 191 = .ok (.aload_n 0, 1) := by decide +kernel
theorem dX6_returnsAndMore_192 : decode cX6_returnsAndMore 192 = .ok (.iconst 3, 1) := by decide +kernel
theorem dX6_returnsAndMore_193 : decode cX6_returnsAndMore 193 = .ok (.invokevirtual 232, 3) := by decide +kernel
theorem dX6_returnsAndMore_196 : decode cX6_returnsAndMore 196 = .ok (.goto 50, 3) := by decide +kernel
theorem dX6_returnsAndMore_199 : decode cX6_returnsAndMore 199 = .ok (.aload_n 0, 1) := by decide +kernel
theorem dX6_returnsAndMore_200 : decode cX6_returnsAndMore 200 = .ok (.aload_n 0, 1) := by decide +kernel
theorem dX6_returnsAndMore_201 : decode cX6_returnsAndMore 201 = .ok (.getfield 164, 3) := by decide +kernel
theorem dX6_returnsAndMore_204 : decode cX6_returnsAndMore 204 = .ok (.invokevirtual 232, 3) := by decide +kernel
theorem dX6_returnsAndMore_207 : decode cX6_returnsAndMore 207 = .ok (.goto 39, 3) := by decide +kernel
theorem dX6_returnsAndMore_210 : decode cX6_returnsAndMore 210 = .ok (.aload_n 0, 1) := by decide +kernel
theorem dX6_returnsAndMore_211 : decode cX6_returnsAndMore 211 = .ok (.sipush 2048, 3) := by decide +kernel
theorem dX6_returnsAndMore_214 : decode cX6_returnsAndMore 214 = .ok (.invokevirtual 97, 3) := by decide +kernel
theorem dX6_returnsAndMore_217 : decode cX6_returnsAndMore 217 = .ok (.ifCond .eq 29, 3) := by decide +kernel
theorem dX6_returnsAndMore_220 : decode cX6_returnsAndMore 220 = .ok (.aload_n 0, 1) := by decide +kernel
theorem dX6_returnsAndMore_221 : decode cX6_returnsAndMore 221 = .ok (.iconst 4, 1) := by decide +kernel
theorem dX6_returnsAndMore_222 : decode cX6_returnsAndMore 222 = .ok (.invokevirtual 232, 3) := by decide +kernel
theorem dX6_returnsAndMore_225 : decode cX6_returnsAndMore 225 = .ok (.goto 21, 3) := by decide +kernel
theorem dX6_returnsAndMore_228 : decode cX6_returnsAndMore 228 = .ok (.aload_n 0, 1) := by decide +kernel
theorem dX6_returnsAndMore_229 : decode cX6_returnsAndMore 229 = .ok (.iconst 1, 1) := by decide +kernel
theorem dX6_returnsAndMore_230 : decode cX6_returnsAndMore 230 = .ok (.iconst 0, 1) := by decide +kernel
theorem dX6_returnsAndMore_231 : decode cX6_returnsAndMore 231 = .ok (.invokevirtual 229, 3) := by decide +kernel
theorem dX6_returnsAndMore_234 : decode cX6_returnsAndMore 234 = .ok (.aload_n 0, 1) := by decide +kernel
theorem dX6_returnsAndMore_235 : decode cX6_returnsAndMore 235 = .ok (.aload_n 0, 1) := by decide +kernel
theorem dX6_returnsAndMore_236 : decode cX6_returnsAndMore 236 = .ok (.invokevirtual 206, 3) := by decide +kernel
theorem dX6_returnsAndMore_239 : decode cX6_returnsAndMore 239 = .ok (.sipush 4053, 3) := by decide +kernel
theorem dX6_returnsAndMore_242 : decode cX6_returnsAndMore 242 = .ok (.iand, 1) := by decide +kernel
theorem dX6_returnsAndMore_243 : decode cX6_returnsAndMore 243 = .ok (.putfield 54, 3) := by decide +kernel
theorem dX6_returnsAndMore_246 : decode cX6_returnsAndMore 246 = .ok (.return_, 1) := by decide +kernel
set_option maxRecDepth 20000 in
theorem ggX6_shiftsAndMore_X6_isWide : GoodIn wsX6_shiftsAndMore wsX6_isWide := goodIn_r _ [9, 2, 100, 101, 102, 103, 104, 105, 106, 107, 108, 109, 110, 111, 112, 113, 114, 115, 116, 117, 118, 119, 120, 121, 122, 123, 124, 125, 126, 127, 128] (by decide +kernel) (by decide +kernel)
set_option maxRecDepth 20000 in
theorem gX6_shiftsAndMore_X6_isWide : GoodIn wsX6_shiftsAndMore (wsV RX6 158 RX6 yX6_isWide wsX6_isWide) := goodIn_app (goodIn_of _ (by decide +kernel)) ggX6_shiftsAndMore_X6_isWide
set_option maxRecDepth 20000 in
theorem ggX6_shiftsAndMore_X6_operand : GoodIn wsX6_shiftsAndMore wsX6_operand := goodIn_r _ [13, 14, 15, 16, 17, 18, 19, 20, 8, 21, 1, 22, 23, 24, 25, 26, 27, 28, 29, 30, 31, 32, 33, 34, 35, 36, 100, 101, 102, 103, 104, 105, 106, 107, 108, 109, 110, 111, 112, 113, 114, 115, 116, 117, 118, 119, 120, 121, 122, 123, 124, 125, 126, 127, 128] (by decide +kernel) (by decide +kernel)
set_option maxRecDepth 20000 in
theorem gX6_shiftsAndMore_X6_operand : GoodIn wsX6_shiftsAndMore (wsV RX6 199 RX6 yX6_operand wsX6_operand) := goodIn_app (goodIn_of _ (by decide +kernel)) ggX6_shiftsAndMore_X6_operand
set_option maxRecDepth 20000 in
theorem ggX6_shiftsAndMore_X6_shifts : GoodIn wsX6_shiftsAndMore wsX6_shifts := goodIn_r _ [40, 41, 42, 43, 8, 44, 45, 46, 47, 48, 49, 50, 51, 52, 29, 53, 54, 55, 56, 57, 58, 59, 60, 100, 101, 102, 103, 104, 105, 106, 107, 108, 109, 110, 111, 112, 113, 114, 115, 116, 117, 118, 119, 120, 121, 122, 123, 124, 125, 126, 127, 128] (by decide +kernel) (by decide +kernel)
set_option maxRecDepth 20000 in
theorem gX6_shiftsAndMore_X6_shifts : GoodIn wsX6_shiftsAndMore (wsV RX6 235 RX6 yX6_shifts wsX6_shifts) := goodIn_app (goodIn_of _ (by decide +kernel)) ggX6_shiftsAndMore_X6_shifts
set_option maxRecDepth 20000 in
theorem ggX6_shiftsAndMore_X6_give : GoodIn wsX6_shiftsAndMore wsX6_give := goodIn_r _ [64, 14, 15, 16, 17, 65, 66, 67, 8, 68, 1, 29, 69, 70, 71, 72, 73, 26, 27, 28, 30, 74, 75, 76, 77, 35, 78, 79, 36, 100, 101, 102, 103, 104, 105, 106, 107, 108, 109, 110, 111, 112, 113, 114, 115, 116, 117, 118, 119, 120, 121, 122, 123, 124, 125, 126, 127, 128] (by decide +kernel) (by decide +kernel)
set_option maxRecDepth 20000 in
theorem gX6_shiftsAndMore_X6_give : GoodIn wsX6_shiftsAndMore (wsV RX6 202 RX6 yX6_give wsX6_give) := goodIn_app (goodIn_of _ (by decide +kernel)) ggX6_shiftsAndMore_X6_give
set_option maxRecDepth 20000 in
theorem ggX6_shiftsAndMore_X6_interrupt : GoodIn wsX6_shiftsAndMore wsX6_interrupt := goodIn_r _ [83, 45, 84, 85, 86, 87, 88, 89, 8, 90, 1, 29, 70, 71, 72, 73, 26, 27, 28, 30, 74, 75, 76, 77, 35, 78, 79, 36, 22, 23, 24, 25, 31, 32, 33, 34, 100, 101, 102, 103, 104, 105, 106, 107, 108, 109, 110, 111, 112, 113, 114, 115, 116, 117, 118, 119, 120, 121, 122, 123, 124, 125, 126, 127, 128] (by decide +kernel) (by decide +kernel)
set_option maxRecDepth 20000 in
theorem gX6_shiftsAndMore_X6_interrupt : GoodIn wsX6_shiftsAndMore (wsV RX6 232 RX6 yX6_interrupt wsX6_interrupt) := goodIn_app (goodIn_of _ (by decide +kernel)) ggX6_shiftsAndMore_X6_interrupt
set_option maxRecDepth 20000 in
theorem ggX6_shiftsAndMore_X6_byAnswer : GoodIn wsX6_shiftsAndMore wsX6_byAnswer := goodIn_r _ [60, 53, 54, 55, 8, 56, 45, 46, 47, 48, 49, 100, 101, 102, 103, 104, 105, 106, 107, 108, 109, 110, 111, 112, 113, 114, 115, 116, 117, 118, 119, 120, 121, 122, 123, 124, 125, 126, 127, 128] (by decide +kernel) (by decide +kernel)
set_option maxRecDepth 20000 in
theorem gX6_shiftsAndMore_X6_byAnswer : GoodIn wsX6_shiftsAndMore (wsV RX6 81 RX6 yX6_byAnswer wsX6_byAnswer) := goodIn_app (goodIn_of _ (by decide +kernel)) ggX6_shiftsAndMore_X6_byAnswer
set_option maxRecDepth 20000 in
theorem ggX6_shiftsAndMore_X6_has : GoodIn wsX6_shiftsAndMore wsX6_has := goodIn_r _ [94, 45, 100, 101, 102, 103, 104, 105, 106, 107, 108, 109, 110, 111, 112, 113, 114, 115, 116, 117, 118, 119, 120, 121, 122, 123, 124, 125, 126, 127, 128] (by decide +kernel) (by decide +kernel)
set_option maxRecDepth 20000 in
theorem gX6_shiftsAndMore_X6_has : GoodIn wsX6_shiftsAndMore (wsV RX6 97 RX6 yX6_has wsX6_has) := goodIn_app (goodIn_of _ (by decide +kernel)) ggX6_shiftsAndMore_X6_has
set_option maxRecDepth 20000 in
theorem ggX6_shiftsAndMore_X6_setRegister : GoodIn wsX6_shiftsAndMore wsX6_setRegister := goodIn_r _ [68, 1, 29, 69, 100, 101, 102, 103, 104, 105, 106, 107, 108, 109, 110, 111, 112, 113, 114, 115, 116, 117, 118, 119, 120, 121, 122, 123, 124, 125, 126, 127, 128] (by decide +kernel) (by decide +kernel)
set_option maxRecDepth 20000 in
theorem gX6_shiftsAndMore_X6_setRegister : GoodIn wsX6_shiftsAndMore (wsV RX6 101 RX6 yX6_setRegister wsX6_setRegister) := goodIn_app (goodIn_of _ (by decide +kernel)) ggX6_shiftsAndMore_X6_setRegister
set_option maxRecDepth 20000 in
theorem ggX6_shiftsAndMore_X6_segmentOr : GoodIn wsX6_shiftsAndMore wsX6_segmentOr := goodIn_r _ [98, 85, 99, 100, 101, 102, 103, 104, 105, 106, 107, 108, 109, 110, 111, 112, 113, 114, 115, 116, 117, 118, 119, 120, 121, 122, 123, 124, 125, 126, 127, 128] (by decide +kernel) (by decide +kernel)
set_option maxRecDepth 20000 in
theorem gX6_shiftsAndMore_X6_segmentOr : GoodIn wsX6_shiftsAndMore (wsV RX6 142 RX6 yX6_segmentOr wsX6_segmentOr) := goodIn_app (goodIn_of _ (by decide +kernel)) ggX6_shiftsAndMore_X6_segmentOr
set_option maxRecDepth 20000 in
theorem ggX6_shiftsAndMore_X6_get : GoodIn wsX6_shiftsAndMore wsX6_get := goodIn_r _ [25, 26, 27, 8, 28, 29, 30, 31, 32, 33, 34, 35, 36, 100, 101, 102, 103, 104, 105, 106, 107, 108, 109, 110, 111, 112, 113, 114, 115, 116, 117, 118, 119, 120, 121, 122, 123, 124, 125, 126, 127, 128] (by decide +kernel) (by decide +kernel)
set_option maxRecDepth 20000 in
theorem gX6_shiftsAndMore_X6_get : GoodIn wsX6_shiftsAndMore (wsV RX6 61 RX6 yX6_get wsX6_get) := goodIn_app (goodIn_of _ (by decide +kernel)) ggX6_shiftsAndMore_X6_get
theorem dX6_shiftsAndMore_0 : decode cX6_shiftsAndMore 0 = .ok (.aload_n 0, 1) := by decide +kernel
theorem dX6_shiftsAndMore_1 : decode cX6_shiftsAndMore 1 = .ok (.invokevirtual 158, 3) := by decide +kernel
theorem dX6_shiftsAndMore_4 : decode cX6_shiftsAndMore 4 = .ok (.istore_n 1, 1) := by decide +kernel
theorem dX6_shiftsAndMore_5 : decode cX6_shiftsAndMore 5 = .ok (.aload_n 0, 1) := by decide +kernel
theorem dX6_shiftsAndMore_6 : decode cX6_shiftsAndMore 6 = .ok (.getfield 7, 3) := by decide +kernel
theorem dX6_shiftsAndMore_9 : decode cX6_shiftsAndMore 9 = .ok (.iconst 0, 1) := by decide +kernel
theorem dX6_shiftsAndMore_10 : decode cX6_shiftsAndMore 10 = .ok (.iaload, 1) := by decide +kernel
theorem dX6_shiftsAndMore_11 : decode cX6_shiftsAndMore 11 = .ok (.sipush 255, 3) := by decide +kernel
theorem dX6_shiftsAndMore_14 : decode cX6_shiftsAndMore 14 = .ok (.iand, 1) := by decide +kernel
theorem dX6_shiftsAndMore_15 : decode cX6_shiftsAndMore 15 = .ok (.istore_n 2, 1) := by decide +kernel
theorem dX6_shiftsAndMore_16 : decode cX6_shiftsAndMore 16 = .ok (.aload_n 0, 1) := by decide +kernel
theorem dX6_shiftsAndMore_17 : decode cX6_shiftsAndMore 17 = .ok (.getfield 148, 3) := by decide +kernel
theorem dX6_shiftsAndMore_20 : decode cX6_shiftsAndMore 20 = .ok (.sipush 212, 3) := by decide +kernel
theorem dX6_shiftsAndMore_23 : decode cX6_shiftsAndMore 23 = .ok (.if_icmp .ge 49, 3) := by decide +kernel
theorem dX6_shiftsAndMore_26 : decode cX6_shiftsAndMore 26 = .ok (.aload_n 0, 1) := by decide +kernel
theorem dX6_shiftsAndMore_27 : decode cX6_shiftsAndMore 27 = .ok (.iload_n 1, 1) := by decide +kernel
theorem dX6_shiftsAndMore_28 : decode cX6_shiftsAndMore 28 = .ok (.aload_n 0, 1) := by decide +kernel
theorem dX6_shiftsAndMore_29 : decode cX6_shiftsAndMore 29 = .ok (.aload_n 0, 1) := by decide +kernel
theorem dX6_shiftsAndMore_30 : decode cX6_shiftsAndMore 30 = .ok (.getfield 130, 3) := by decide +kernel
theorem dX6_shiftsAndMore_33 : decode cX6_shiftsAndMore 33 = .ok (.aload_n 0, 1) := by decide +kernel
theorem dX6_shiftsAndMore_34 : decode cX6_shiftsAndMore 34 = .ok (.iload_n 1, 1) := by decide +kernel
theorem dX6_shiftsAndMore_35 : decode cX6_shiftsAndMore 35 = .ok (.invokevirtual 199, 3) := by decide +kernel
theorem dX6_shiftsAndMore_38 : decode cX6_shiftsAndMore 38 = .ok (.aload_n 0, 1) := by decide +kernel
theorem dX6_shiftsAndMore_39 : decode cX6_shiftsAndMore 39 = .ok (.getfield 148, 3) := by decide +kernel
theorem dX6_shiftsAndMore_42 : decode cX6_shiftsAndMore 42 = .ok (.sipush 210, 3) := by decide +kernel
theorem dX6_shiftsAndMore_45 : decode cX6_shiftsAndMore 45 = .ok (.if_icmp .ge 7, 3) := by decide +kernel
theorem dX6_shiftsAndMore_48 : decode cX6_shiftsAndMore 48 = .ok (.iconst 1, 1) := by decide +kernel
theorem dX6_shiftsAndMore_49 : decode cX6_shiftsAndMore 49 = .ok (.goto 13, 3) := by decide +kernel
theorem dX6_shiftsAndMore_52 : decode cX6_shiftsAndMore 52 = .ok (.aload_n 0, 1) := by decide +kernel
theorem dX6_shiftsAndMore_53 : decode cX6_shiftsAndMore 53 = .ok (.getfield 7, 3) := by decide +kernel
theorem dX6_shiftsAndMore_56 : decode cX6_shiftsAndMore 56 = .ok (.iconst 1, 1) := by decide +kernel
theorem dX6_shiftsAndMore_57 : decode cX6_shiftsAndMore 57 = .ok (.iaload, 1) := by decide +kernel
theorem dX6_shiftsAndMore_58 : decode cX6_shiftsAndMore 58 = .ok (.sipush 255, 3) := by decide +kernel
theorem dX6_shiftsAndMore_61 : decode cX6_shiftsAndMore 61 = .ok (.iand, 1) := by decide +kernel
theorem dX6_shiftsAndMore_62 : decode cX6_shiftsAndMore 62 = .ok (.iload_n 1, 1) := by decide +kernel
theorem dX6_shiftsAndMore_63 : decode cX6_shiftsAndMore 63 = .ok (.invokevirtual 235, 3) := by decide +kernel
theorem dX6_shiftsAndMore_66 : decode cX6_shiftsAndMore 66 = .ok (.invokevirtual 202, 3) := by decide +kernel
theorem dX6_shiftsAndMore_69 : decode cX6_shiftsAndMore 69 = .ok (.goto 189, 3) := by decide +kernel
theorem dX6_shiftsAndMore_72 : decode cX6_shiftsAndMore 72 = .ok (.aload_n 0, 1) := by decide +kernel
theorem dX6_shiftsAndMore_73 : decode cX6_shiftsAndMore 73 = .ok (.getfield 148, 3) := by decide +kernel
theorem dX6_shiftsAndMore_76 : decode cX6_shiftsAndMore 76 = .ok (.sipush 212, 3) := by decide +kernel
theorem dX6_shiftsAndMore_79 : decode cX6_shiftsAndMore 79 = .ok (.if_icmp .ne 18, 3) := by decide +kernel
theorem dX6_shiftsAndMore_82 : decode cX6_shiftsAndMore 82 = .ok (.aload_n 0, 1) := by decide +kernel
theorem dX6_shiftsAndMore_83 : decode cX6_shiftsAndMore 83 = .ok (.getfield 164, 3) := by decide +kernel
theorem dX6_shiftsAndMore_86 : decode cX6_shiftsAndMore 86 = .ok (.ifCond .ne 11, 3) := by decide +kernel
theorem dX6_shiftsAndMore_89 : decode cX6_shiftsAndMore 89 = .ok (.aload_n 0, 1) := by decide +kernel
theorem dX6_shiftsAndMore_90 : decode cX6_shiftsAndMore 90 = .ok (.iconst 0, 1) := by decide +kernel
theorem dX6_shiftsAndMore_91 : decode cX6_shiftsAndMore 91 = .ok (.invokevirtual 232, 3) := by decide +kernel
theorem dX6_shiftsAndMore_94 : decode cX6_shiftsAndMore 94 = .ok (.goto 164, 3) := by decide +kernel
theorem dX6_shiftsAndMore_97 : decode cX6_shiftsAndMore 97 = .ok (.aload_n 0, 1) := by decide +kernel
theorem dX6_shiftsAndMore_98 : decode cX6_shiftsAndMore 98 = .ok (.getfield 148, 3) := by decide +kernel
theorem dX6_shiftsAndMore_101 : decode cX6_shiftsAndMore 101 = .ok (.sipush 212, 3) := by decide +kernel
theorem dX6_shiftsAndMore_104 : decode cX6_shiftsAndMore 104 = .ok (.if_icmp .ne 39, 3) := by decide +kernel
theorem dX6_shiftsAndMore_107 : decode cX6_shiftsAndMore 107 = .ok (.aload_n 0, 1) := by decide +kernel
theorem dX6_shiftsAndMore_108 : decode cX6_shiftsAndMore 108 = .ok (.getfield 7, 3) := by decide +kernel
theorem dX6_shiftsAndMore_111 : decode cX6_shiftsAndMore 111 = .ok (.iconst 0, 1) := by decide +kernel
theorem dX6_shiftsAndMore_112 : decode cX6_shiftsAndMore 112 = .ok (.iload_n 2, 1) := by decide +kernel
theorem dX6_shiftsAndMore_113 : decode cX6_shiftsAndMore 113 = .ok (.aload_n 0, 1) := by decide +kernel
theorem dX6_shiftsAndMore_114 : decode cX6_shiftsAndMore 114 = .ok (.getfield 164, 3) := by decide +kernel
theorem dX6_shiftsAndMore_117 : decode cX6_shiftsAndMore 117 = .ok (.irem, 1) := by decide +kernel
theorem dX6_shiftsAndMore_118 : decode cX6_shiftsAndMore 118 = .ok (.iload_n 2, 1) := by decide +kernel
theorem dX6_shiftsAndMore_119 : decode cX6_shiftsAndMore 119 = .ok (.aload_n 0, 1) := by decide +kernel
theorem dX6_shiftsAndMore_120 : decode cX6_shiftsAndMore 120 = .ok (.getfield 164, 3) := by decide +kernel
theorem dX6_shiftsAndMore_123 : decode cX6_shiftsAndMore 123 = .ok (.idiv, 1) := by decide +kernel
theorem dX6_shiftsAndMore_124 : decode cX6_shiftsAndMore 124 = .ok (.bipush 8, 2) := by decide +kernel
theorem dX6_shiftsAndMore_126 : decode cX6_shiftsAndMore 126 = .ok (.ishl, 1) := by decide +kernel
theorem dX6_shiftsAndMore_127 : decode cX6_shiftsAndMore 127 = .ok (.ior, 1) := by decide +kernel
theorem dX6_shiftsAndMore_128 : decode cX6_shiftsAndMore 128 = .ok (.iastore, 1) := by decide +kernel
theorem dX6_shiftsAndMore_129 : decode cX6_shiftsAndMore 129 = .ok (.aload_n 0, 1) := by decide +kernel
theorem dX6_shiftsAndMore_130 : decode cX6_shiftsAndMore 130 = .ok (.iload_n 2, 1) := by decide +kernel
theorem dX6_shiftsAndMore_131 : decode cX6_shiftsAndMore 131 = .ok (.aload_n 0, 1) := by decide +kernel
theorem dX6_shiftsAndMore_132 : decode cX6_shiftsAndMore 132 = .ok (.getfield 164, 3) := by decide +kernel
theorem dX6_shiftsAndMore_135 : decode cX6_shiftsAndMore 135 = .ok (.irem, 1) := by decide +kernel
theorem dX6_shiftsAndMore_136 : decode cX6_shiftsAndMore 136 = .ok (.iconst 0, 1) := by decide +kernel
theorem dX6_shiftsAndMore_137 : decode cX6_shiftsAndMore 137 = .ok (.invokevirtual 81, 3) := by decide +kernel
theorem dX6_shiftsAndMore_140 : decode cX6_shiftsAndMore 140 = .ok (.goto 118, 3) := by decide +kernel
theorem dX6_shiftsAndMore_143 : decode cX6_shiftsAndMore 143 = .ok (.aload_n 0, 1) := by decide +kernel
theorem dX6_shiftsAndMore_144 : decode cX6_shiftsAndMore 144 = .ok (.getfield 148, 3) := by decide +kernel
theorem dX6_shiftsAndMore_147 : decode cX6_shiftsAndMore 147 = .ok (.sipush 213, 3) := by decide +kernel
theorem dX6_shiftsAndMore_150 : decode cX6_shiftsAndMore 150 = .ok (.if_icmp .ne 40, 3) := by decide +kernel
theorem dX6_shiftsAndMore_153 : decode cX6_shiftsAndMore 153 = .ok (.aload_n 0, 1) := by decide +kernel
theorem dX6_shiftsAndMore_154 : decode cX6_shiftsAndMore 154 = .ok (.getfield 7, 3) := by decide +kernel
theorem dX6_shiftsAndMore_157 : decode cX6_shiftsAndMore 157 = .ok (.iconst 0, 1) := by decide +kernel
theorem dX6_shiftsAndMore_158 : decode cX6_shiftsAndMore 158 = .ok (.iaload, 1) := by decide +kernel
theorem dX6_shiftsAndMore_159 : decode cX6_shiftsAndMore 159 = .ok (.bipush 8, 2) := by decide +kernel
theorem dX6_shiftsAndMore_161 : decode cX6_shiftsAndMore 161 = .ok (.ishr, 1) := by decide +kernel
theorem dX6_shiftsAndMore_162 : decode cX6_shiftsAndMore 162 = .ok (.aload_n 0, 1) := by decide +kernel
theorem dX6_shiftsAndMore_163 : decode cX6_shiftsAndMore 163 = .ok (.getfield 164, 3) := by decide +kernel
theorem dX6_shiftsAndMore_166 : decode cX6_shiftsAndMore 166 = .ok (.imul, 1) := by decide +kernel
theorem dX6_shiftsAndMore_167 : decode cX6_shiftsAndMore 167 = .ok (.iload_n 2, 1) := by decide +kernel
theorem dX6_shiftsAndMore_168 : decode cX6_shiftsAndMore 168 = .ok (.iadd, 1) := by decide +kernel
theorem dX6_shiftsAndMore_169 : decode cX6_shiftsAndMore 169 = .ok (.sipush 255, 3) := by decide +kernel
theorem dX6_shiftsAndMore_172 : decode cX6_shiftsAndMore 172 = .ok (.iand, 1) := by decide +kernel
theorem dX6_shiftsAndMore_173 : decode cX6_shiftsAndMore 173 = .ok (.istore_n 3, 1) := by decide +kernel
theorem dX6_shiftsAndMore_174 : decode cX6_shiftsAndMore 174 = .ok (.aload_n 0, 1) := by decide +kernel
theorem dX6_shiftsAndMore_175 : decode cX6_shiftsAndMore 175 = .ok (.getfield 7, 3) := by decide +kernel
theorem dX6_shiftsAndMore_178 : decode cX6_shiftsAndMore 178 = .ok (.iconst 0, 1) := by decide +kernel
theorem dX6_shiftsAndMore_179 : decode cX6_shiftsAndMore 179 = .ok (.iload_n 3, 1) := by decide +kernel
theorem dX6_shiftsAndMore_180 : decode cX6_shiftsAndMore 180 = .ok (.iastore, 1) := by decide +kernel
theorem dX6_shiftsAndMore_181 : decode cX6_shiftsAndMore 181 = .ok (.aload_n 0, 1) := by decide +kernel
theorem dX6_shiftsAndMore_182 : decode cX6_shiftsAndMore 182 = .ok (.iload_n 3, 1) := by decide +kernel
theorem dX6_shiftsAndMore_183 : decode cX6_shiftsAndMore 183 = .ok (.iconst 0, 1) := by decide +kernel
theorem dX6_shiftsAndMore_184 : decode cX6_shiftsAndMore 184 = .ok (.invokevirtual 81, 3) := by decide +kernel
theorem dX6_shiftsAndMore_187 : decode cX6_shiftsAndMore 187 = .ok (.goto 71, 3) := by decide +kernel
theorem dX6_shiftsAndMore_190 : decode cX6_shiftsAndMore 190 = .ok (.aload_n 0, 1) := by decide +kernel
theorem dX6_shiftsAndMore_191 : decode cX6_shiftsAndMore 191 = .ok (.getfield 148, 3) := by decide +kernel
theorem dX6_shiftsAndMore_194 : decode cX6_shiftsAndMore 194 = .ok (.sipush 214, 3) := by decide +kernel
theorem dX6_shiftsAndMore_197 : decode cX6_shiftsAndMore 197 = .ok (.if_icmp .ne 27, 3) := by decide +kernel
theorem dX6_shiftsAndMore_200 : decode cX6_shiftsAndMore 200 = .ok (.aload_n 0, 1) := by decide +kernel
theorem dX6_shiftsAndMore_201 : decode cX6_shiftsAndMore 201 = .ok (.iconst 0, 1) := by decide +kernel
theorem dX6_shiftsAndMore_202 : decode cX6_shiftsAndMore 202 = .ok (.iconst 0, 1) := by decide +kernel
theorem dX6_shiftsAndMore_203 : decode cX6_shiftsAndMore 203 = .ok (.aload_n 0, 1) := by decide +kernel
theorem dX6_shiftsAndMore_204 : decode cX6_shiftsAndMore 204 = .ok (.iconst 1, 1) := by decide +kernel
theorem dX6_shiftsAndMore_205 : decode cX6_shiftsAndMore 205 = .ok (.invokevirtual 97, 3) := by decide +kernel
theorem dX6_shiftsAndMore_208 : decode cX6_shiftsAndMore 208 = .ok (.ifCond .eq 9, 3) := by decide +kernel
theorem dX6_shiftsAndMore_211 : decode cX6_shiftsAndMore 211 = .ok (.sipush 255, 3) := by decide +kernel
theorem dX6_shiftsAndMore_214 : decode cX6_shiftsAndMore 214 = .ok (.goto 4, 3) := by decide +kernel
theorem dX6_shiftsAndMore_217 : decode cX6_shiftsAndMore 217 = .ok (.iconst 0, 1) := by decide +kernel
theorem dX6_shiftsAndMore_218 : decode cX6_shiftsAndMore 218 = .ok (.invokevirtual 101, 3) := by decide +kernel
theorem dX6_shiftsAndMore_221 : decode cX6_shiftsAndMore 221 = .ok (.goto 37, 3) := by decide +kernel
theorem dX6_shiftsAndMore_224 : decode cX6_shiftsAndMore 224 = .ok (.aload_n 0, 1) := by decide +kernel
theorem dX6_shiftsAndMore_225 : decode cX6_shiftsAndMore 225 = .ok (.getfield 148, 3) := by decide +kernel
theorem dX6_shiftsAndMore_228 : decode cX6_shiftsAndMore 228 = .ok (.sipush 215, 3) := by decide +kernel
theorem dX6_shiftsAndMore_231 : decode cX6_shiftsAndMore 231 = .ok (.if_icmp .ne 27, 3) := by decide +kernel
theorem dX6_shiftsAndMore_234 : decode cX6_shiftsAndMore 234 = .ok (.aload_n 0, 1) := by decide +kernel
theorem dX6_shiftsAndMore_235 : decode cX6_shiftsAndMore 235 = .ok (.iconst 0, 1) := by decide +kernel
theorem dX6_shiftsAndMore_236 : decode cX6_shiftsAndMore 236 = .ok (.iconst 0, 1) := by decide +kernel
theorem dX6_shiftsAndMore_237 : decode cX6_shiftsAndMore 237 = .ok (.aload_n 0, 1) := by decide +kernel
theorem dX6_shiftsAndMore_238 : decode cX6_shiftsAndMore 238 = .ok (.aload_n 0, 1) := by decide +kernel
theorem dX6_shiftsAndMore_239 : decode cX6_shiftsAndMore 239 = .ok (.iconst 3, 1) := by decide +kernel
theorem dX6_shiftsAndMore_240 : decode cX6_shiftsAndMore 240 = .ok (.invokevirtual 142, 3) := by decide +kernel
theorem dX6_shiftsAndMore_243 : decode cX6_shiftsAndMore 243 = .ok (.aload_n 0, 1) := by decide +kernel
theorem dX6_shiftsAndMore_244 : decode cX6_shiftsAndMore 244 = .ok (.getfield 7, 3) := by decide +kernel
theorem dX6_shiftsAndMore_247 : decode cX6_shiftsAndMore 247 = .ok (.iconst 3, 1) := by decide +kernel
theorem dX6_shiftsAndMore_248 : decode cX6_shiftsAndMore 248 = .ok (.iaload, 1) := by decide +kernel
theorem dX6_shiftsAndMore_249 : decode cX6_shiftsAndMore 249 = .ok (.iload_n 2, 1) := by decide +kernel
theorem dX6_shiftsAndMore_250 : decode cX6_shiftsAndMore 250 = .ok (.iadd, 1) := by decide +kernel
theorem dX6_shiftsAndMore_251 : decode cX6_shiftsAndMore 251 = .ok (.iconst 0, 1) := by decide +kernel
theorem dX6_shiftsAndMore_252 : decode cX6_shiftsAndMore 252 = .ok (.invokevirtual 61, 3) := by decide +kernel
theorem dX6_shiftsAndMore_255 : decode cX6_shiftsAndMore 255 = .ok (.invokevirtual 101, 3) := by decide +kernel
theorem dX6_shiftsAndMore_258 : decode cX6_shiftsAndMore 258 = .ok (.return_, 1) := by decide +kernel
theorem dX6_inPort_0 : decode cX6_inPort 0 = .ok (.iload_n 2, 1) := by decide +kernel
theorem dX6_inPort_1 : decode cX6_inPort 1 = .ok (.ifCond .eq 32, 3) := by decide +kernel
theorem dX6_inPort_4 : decode cX6_inPort 4 = .ok (.aload_n 0, 1) := by decide +kernel
theorem dX6_inPort_5 : decode cX6_inPort 5 = .ok (.getfield 23, 3) := by decide +kernel
theorem dX6_inPort_8 : decode cX6_inPort 8 = .ok (.iload_n 1, 1) := by decide +kernel
theorem dX6_inPort_9 : decode cX6_inPort 9 = .ok (.sipush 255, 3) := by decide +kernel
theorem dX6_inPort_12 : decode cX6_inPort 12 = .ok (.iand, 1) := by decide +kernel
theorem dX6_inPort_13 : decode cX6_inPort 13 = .ok (.iaload, 1) := by decide +kernel
theorem dX6_inPort_14 : decode cX6_inPort 14 = .ok (.aload_n 0, 1) := by decide +kernel
theorem dX6_inPort_15 : decode cX6_inPort 15 = .ok (.getfield 23, 3) := by decide +kernel
theorem dX6_inPort_18 : decode cX6_inPort 18 = .ok (.iload_n 1, 1) := by decide +kernel
theorem dX6_inPort_19 : decode cX6_inPort 19 = .ok (.iconst 1, 1) := by decide +kernel
theorem dX6_inPort_20 : decode cX6_inPort 20 = .ok (.iadd, 1) := by decide +kernel
theorem dX6_inPort_21 : decode cX6_inPort 21 = .ok (.sipush 255, 3) := by decide +kernel
theorem dX6_inPort_24 : decode cX6_inPort 24 = .ok (.iand, 1) := by decide +kernel
theorem dX6_inPort_25 : decode cX6_inPort 25 = .ok (.iaload, 1) := by decide +kernel
theorem dX6_inPort_26 : decode cX6_inPort 26 = .ok (.bipush 8, 2) := by decide +kernel
theorem dX6_inPort_28 : decode cX6_inPort 28 = .ok (.ishl, 1) := by decide +kernel
theorem dX6_inPort_29 : decode cX6_inPort 29 = .ok (.ior, 1) := by decide +kernel
theorem dX6_inPort_30 : decode cX6_inPort 30 = .ok (.goto 13, 3) := by decide +kernel
theorem dX6_inPort_33 : decode cX6_inPort 33 = .ok (.aload_n 0, 1) := by decide +kernel
theorem dX6_inPort_34 : decode cX6_inPort 34 = .ok (.getfield 23, 3) := by decide +kernel
theorem dX6_inPort_37 : decode cX6_inPort 37 = .ok (.iload_n 1, 1) := by decide +kernel
theorem dX6_inPort_38 : decode cX6_inPort 38 = .ok (.sipush 255, 3) := by decide +kernel
theorem dX6_inPort_41 : decode cX6_inPort 41 = .ok (.iand, 1) := by decide +kernel
theorem dX6_inPort_42 : decode cX6_inPort 42 = .ok (.iaload, 1) := by decide +kernel
theorem dX6_inPort_43 : decode cX6_inPort 43 = .ok (.ireturn, 1) := by decide +kernel
theorem dX6_outPort_0 : decode cX6_outPort 0 = .ok (.aload_n 0, 1) := by decide +kernel
theorem dX6_outPort_1 : decode cX6_outPort 1 = .ok (.getfield 23, 3) := by decide +kernel
theorem dX6_outPort_4 : decode cX6_outPort 4 = .ok (.iload_n 1, 1) := by decide +kernel
theorem dX6_outPort_5 : decode cX6_outPort 5 = .ok (.sipush 255, 3) := by decide +kernel
theorem dX6_outPort_8 : decode cX6_outPort 8 = .ok (.iand, 1) := by decide +kernel
theorem dX6_outPort_9 : decode cX6_outPort 9 = .ok (.aload_n 0, 1) := by decide +kernel
theorem dX6_outPort_10 : decode cX6_outPort 10 = .ok (.getfield 7, 3) := by decide +kernel
theorem dX6_outPort_13 : decode cX6_outPort 13 = .ok (.iconst 0, 1) := by decide +kernel
theorem dX6_outPort_14 : decode cX6_outPort 14 = .ok (.iaload, 1) := by decide +kernel
theorem dX6_outPort_15 : decode cX6_outPort 15 = .ok (.sipush 255, 3) := by decide +kernel
theorem dX6_outPort_18 : decode cX6_outPort 18 = .ok (.iand, 1) := by decide +kernel
theorem dX6_outPort_19 : decode cX6_outPort 19 = .ok (.iastore, 1) := by decide +kernel
theorem dX6_outPort_20 : decode cX6_outPort 20 = .ok (.iload_n 2, 1) := by decide +kernel
theorem dX6_outPort_21 : decode cX6_outPort 21 = .ok (.ifCond .eq 24, 3) := by decide +kernel
theorem dX6_outPort_24 : decode cX6_outPort 24 = .ok (.aload_n 0, 1) := by decide +kernel
theorem dX6_outPort_25 : decode cX6_outPort 25 = .ok (.getfield 23, 3) := by decide +kernel
theorem dX6_outPort_28 : decode cX6_outPort 28 = .ok (.iload_n 1, 1) := by decide +kernel
theorem dX6_outPort_29 : decode cX6_outPort 29 = .ok (.iconst 1, 1) := by decide +kernel
theorem dX6_outPort_30 : decode cX6_outPort 30 = .ok (.iadd, 1) := by decide +kernel
theorem dX6_outPort_31 : decode cX6_outPort 31 = .ok (.sipush 255, 3) := by decide +kernel
theorem dX6_outPort_34 : decode cX6_outPort 34 = .ok (.iand, 1) := by decide +kernel
theorem dX6_outPort_35 : decode cX6_outPort 35 = .ok (.aload_n 0, 1) := by decide +kernel
theorem dX6_outPort_36 : decode cX6_outPort 36 = .ok (.getfield 7, 3) := by decide +kernel
theorem dX6_outPort_39 : decode cX6_outPort 39 = .ok (.iconst 0, 1) := by decide +kernel
theorem dX6_outPort_40 : decode cX6_outPort 40 = .ok (.iaload, 1) := by decide +kernel
theorem dX6_outPort_41 : decode cX6_outPort 41 = .ok (.bipush 8, 2) := by decide +kernel
theorem dX6_outPort_43 : decode cX6_outPort 43 = .ok (.ishr, 1) := by decide +kernel
theorem dX6_outPort_44 : decode cX6_outPort 44 = .ok (.iastore, 1) := by decide +kernel
theorem dX6_outPort_45 : decode cX6_outPort 45 = .ok (.return_, 1) := by decide +kernel
set_option maxRecDepth 20000 in
theorem ggX6_loopsAndPorts_X6_isWide : GoodIn wsX6_loopsAndPorts wsX6_isWide := goodIn_r _ [12, 1, 56, 57, 58, 59, 60, 61, 62, 63, 64, 65, 66, 67, 68, 69, 70, 71, 72, 73, 74, 75, 76, 77, 78, 79, 80, 81, 82, 83, 84] (by decide +kernel) (by decide +kernel)
set_option maxRecDepth 20000 in
theorem gX6_loopsAndPorts_X6_isWide : GoodIn wsX6_loopsAndPorts (wsV RX6 158 RX6 yX6_isWide wsX6_isWide) := goodIn_app (goodIn_of _ (by decide +kernel)) ggX6_loopsAndPorts_X6_isWide
set_option maxRecDepth 20000 in
theorem ggX6_loopsAndPorts_X6_has : GoodIn wsX6_loopsAndPorts wsX6_has := goodIn_r _ [16, 17, 56, 57, 58, 59, 60, 61, 62, 63, 64, 65, 66, 67, 68, 69, 70, 71, 72, 73, 74, 75, 76, 77, 78, 79, 80, 81, 82, 83, 84] (by decide +kernel) (by decide +kernel)
set_option maxRecDepth 20000 in
theorem gX6_loopsAndPorts_X6_has : GoodIn wsX6_loopsAndPorts (wsV RX6 97 RX6 yX6_has wsX6_has) := goodIn_app (goodIn_of _ (by decide +kernel)) ggX6_loopsAndPorts_X6_has
set_option maxRecDepth 20000 in
theorem ggX6_loopsAndPorts_X6_jump : GoodIn wsX6_loopsAndPorts wsX6_jump := goodIn_r _ [21, 5, 4, 56, 57, 58, 59, 60, 61, 62, 63, 64, 65, 66, 67, 68, 69, 70, 71, 72, 73, 74, 75, 76, 77, 78, 79, 80, 81, 82, 83, 84] (by decide +kernel) (by decide +kernel)
set_option maxRecDepth 20000 in
theorem gX6_loopsAndPorts_X6_jump : GoodIn wsX6_loopsAndPorts (wsV RX6 238 RX6 yX6_jump wsX6_jump) := goodIn_app (goodIn_of _ (by decide +kernel)) ggX6_loopsAndPorts_X6_jump
set_option maxRecDepth 20000 in
theorem ggX6_loopsAndPorts_X6_inPort : GoodIn wsX6_loopsAndPorts wsX6_inPort := goodIn_r _ [25, 26, 56, 57, 58, 59, 60, 61, 62, 63, 64, 65, 66, 67, 68, 69, 70, 71, 72, 73, 74, 75, 76, 77, 78, 79, 80, 81, 82, 83, 84] (by decide +kernel) (by decide +kernel)
set_option maxRecDepth 20000 in
theorem gX6_loopsAndPorts_X6_inPort : GoodIn wsX6_loopsAndPorts (wsV RX6 241 RX6 yX6_inPort wsX6_inPort) := goodIn_app (goodIn_of _ (by decide +kernel)) ggX6_loopsAndPorts_X6_inPort
set_option maxRecDepth 20000 in
theorem ggX6_loopsAndPorts_X6_setRegister : GoodIn wsX6_loopsAndPorts wsX6_setRegister := goodIn_r _ [30, 3, 4, 31, 56, 57, 58, 59, 60, 61, 62, 63, 64, 65, 66, 67, 68, 69, 70, 71, 72, 73, 74, 75, 76, 77, 78, 79, 80, 81, 82, 83, 84] (by decide +kernel) (by decide +kernel)
set_option maxRecDepth 20000 in
theorem gX6_loopsAndPorts_X6_setRegister : GoodIn wsX6_loopsAndPorts (wsV RX6 101 RX6 yX6_setRegister wsX6_setRegister) := goodIn_app (goodIn_of _ (by decide +kernel)) ggX6_loopsAndPorts_X6_setRegister
set_option maxRecDepth 20000 in
theorem ggX6_loopsAndPorts_X6_outPort : GoodIn wsX6_loopsAndPorts wsX6_outPort := goodIn_r _ [35, 26, 3, 56, 57, 58, 59, 60, 61, 62, 63, 64, 65, 66, 67, 68, 69, 70, 71, 72, 73, 74, 75, 76, 77, 78, 79, 80, 81, 82, 83, 84] (by decide +kernel) (by decide +kernel)
set_option maxRecDepth 20000 in
theorem gX6_loopsAndPorts_X6_outPort : GoodIn wsX6_loopsAndPorts (wsV RX6 244 RX6 yX6_outPort wsX6_outPort) := goodIn_app (goodIn_of _ (by decide +kernel)) ggX6_loopsAndPorts_X6_outPort
set_option maxRecDepth 20000 in
theorem ggX6_loopsAndPorts_X6_push : GoodIn wsX6_loopsAndPorts wsX6_push := goodIn_r _ [39, 3, 4, 6, 40, 41, 42, 11, 43, 44, 45, 46, 47, 48, 49, 50, 51, 52, 53, 54, 55, 56, 57, 58, 59, 60, 61, 62, 63, 64, 65, 66, 67, 68, 69, 70, 71, 72, 73, 74, 75, 76, 77, 78, 79, 80, 81, 82, 83, 84] (by decide +kernel) (by decide +kernel)
set_option maxRecDepth 20000 in
theorem gX6_loopsAndPorts_X6_push : GoodIn wsX6_loopsAndPorts (wsV RX6 183 RX6 yX6_push wsX6_push) := goodIn_app (goodIn_of _ (by decide +kernel)) ggX6_loopsAndPorts_X6_push
theorem dX6_loopsAndPorts_0 : decode cX6_loopsAndPorts 0 = .ok (.aload_n 0, 1) := by decide +kernel
theorem dX6_loopsAndPorts_1 : decode cX6_loopsAndPorts 1 = .ok (.invokevirtual 158, 3) := by decide +kernel
theorem dX6_loopsAndPorts_4 : decode cX6_loopsAndPorts 4 = .ok (.istore_n 1, 1) := by decide +kernel
theorem dX6_loopsAndPorts_5 : decode cX6_loopsAndPorts 5 = .ok (.aload_n 0, 1) := by decide +kernel
theorem dX6_loopsAndPorts_6 : decode cX6_loopsAndPorts 6 = .ok (.getfield 148, 3) := by decide +kernel
theorem dX6_loopsAndPorts_9 : decode cX6_loopsAndPorts 9 = .ok (.sipush 232, 3) := by decide +kernel
theorem dX6_loopsAndPorts_12 : decode cX6_loopsAndPorts 12 = .ok (.if_icmp .ge 10, 3) := by decide +kernel
theorem dX6_loopsAndPorts_15 : decode cX6_loopsAndPorts 15 = .ok (.aload_n 0, 1) := by decide +kernel
theorem dX6_loopsAndPorts_16 : decode cX6_loopsAndPorts 16 = .ok (.getfield 164, 3) := by decide +kernel
theorem dX6_loopsAndPorts_19 : decode cX6_loopsAndPorts 19 = .ok (.goto 9, 3) := by decide +kernel
theorem dX6_loopsAndPorts_22 : decode cX6_loopsAndPorts 22 = .ok (.aload_n 0, 1) := by decide +kernel
theorem dX6_loopsAndPorts_23 : decode cX6_loopsAndPorts 23 = .ok (.getfield 7, 3) := by decide +kernel
theorem dX6_loopsAndPorts_26 : decode cX6_loopsAndPorts 26 = .ok (.iconst 2, 1) := by decide +kernel
theorem dX6_loopsAndPorts_27 : decode cX6_loopsAndPorts 27 = .ok (.iaload, 1) := by decide +kernel
theorem dX6_loopsAndPorts_28 : decode cX6_loopsAndPorts 28 = .ok (.istore_n 2, 1) := by decide +kernel
theorem dX6_loopsAndPorts_29 : decode cX6_loopsAndPorts 29 = .ok (.aload_n 0, 1) := by decide +kernel
theorem dX6_loopsAndPorts_30 : decode cX6_loopsAndPorts 30 = .ok (.getfield 148, 3) := by decide +kernel
theorem dX6_loopsAndPorts_33 : decode cX6_loopsAndPorts 33 = .ok (.sipush 227, 3) := by decide +kernel
theorem dX6_loopsAndPorts_36 : decode cX6_loopsAndPorts 36 = .ok (.if_icmp .ge 88, 3) := by decide +kernel
theorem dX6_loopsAndPorts_39 : decode cX6_loopsAndPorts 39 = .ok (.aload_n 0, 1) := by decide +kernel
theorem dX6_loopsAndPorts_40 : decode cX6_loopsAndPorts 40 = .ok (.getfield 7, 3) := by decide +kernel
theorem dX6_loopsAndPorts_43 : decode cX6_loopsAndPorts 43 = .ok (.iconst 1, 1) := by decide +kernel
theorem dX6_loopsAndPorts_44 : decode cX6_loopsAndPorts 44 = .ok (.aload_n 0, 1) := by decide +kernel
theorem dX6_loopsAndPorts_45 : decode cX6_loopsAndPorts 45 = .ok (.getfield 7, 3) := by decide +kernel
theorem dX6_loopsAndPorts_48 : decode cX6_loopsAndPorts 48 = .ok (.iconst 1, 1) := by decide +kernel
theorem dX6_loopsAndPorts_49 : decode cX6_loopsAndPorts 49 = .ok (.iaload, 1) := by decide +kernel
theorem dX6_loopsAndPorts_50 : decode cX6_loopsAndPorts 50 = .ok (.iconst 1, 1) := by decide +kernel
theorem dX6_loopsAndPorts_51 : decode cX6_loopsAndPorts 51 = .ok (.isub, 1) := by decide +kernel
theorem dX6_loopsAndPorts_52 : decode cX6_loopsAndPorts 52 = .ok (.ldc 39, 2) := by decide +kernel
theorem dX6_loopsAndPorts_54 : decode cX6_loopsAndPorts 54 = .ok (.iand, 1) := by decide +kernel
theorem dX6_loopsAndPorts_55 : decode cX6_loopsAndPorts 55 = .ok (.iastore, 1) := by decide +kernel
theorem dX6_loopsAndPorts_56 : decode cX6_loopsAndPorts 56 = .ok (.aload_n 0, 1) := by decide +kernel
theorem dX6_loopsAndPorts_57 : decode cX6_loopsAndPorts 57 = .ok (.getfield 148, 3) := by decide +kernel
theorem dX6_loopsAndPorts_60 : decode cX6_loopsAndPorts 60 = .ok (.sipush 226, 3) := by decide +kernel
theorem dX6_loopsAndPorts_63 : decode cX6_loopsAndPorts 63 = .ok (.if_icmp .eq 27, 3) := by decide +kernel
theorem dX6_loopsAndPorts_66 : decode cX6_loopsAndPorts 66 = .ok (.aload_n 0, 1) := by decide +kernel
theorem dX6_loopsAndPorts_67 : decode cX6_loopsAndPorts 67 = .ok (.bipush 64, 2) := by decide +kernel
theorem dX6_loopsAndPorts_69 : decode cX6_loopsAndPorts 69 = .ok (.invokevirtual 97, 3) := by decide +kernel
theorem dX6_loopsAndPorts_72 : decode cX6_loopsAndPorts 72 = .ok (.aload_n 0, 1) := by decide +kernel
theorem dX6_loopsAndPorts_73 : decode cX6_loopsAndPorts 73 = .ok (.getfield 148, 3) := by decide +kernel
theorem dX6_loopsAndPorts_76 : decode cX6_loopsAndPorts 76 = .ok (.sipush 225, 3) := by decide +kernel
theorem dX6_loopsAndPorts_79 : decode cX6_loopsAndPorts 79 = .ok (.if_icmp .ne 7, 3) := by decide +kernel
theorem dX6_loopsAndPorts_82 : decode cX6_loopsAndPorts 82 = .ok (.iconst 1, 1) := by decide +kernel
theorem dX6_loopsAndPorts_83 : decode cX6_loopsAndPorts 83 = .ok (.goto 4, 3) := by decide +kernel
theorem dX6_loopsAndPorts_86 : decode cX6_loopsAndPorts 86 = .ok (.iconst 0, 1) := by decide +kernel
theorem dX6_loopsAndPorts_87 : decode cX6_loopsAndPorts 87 = .ok (.if_icmp .ne 7, 3) := by decide +kernel
theorem dX6_loopsAndPorts_90 : decode cX6_loopsAndPorts 90 = .ok (.iconst 1, 1) := by decide +kernel
theorem dX6_loopsAndPorts_91 : decode cX6_loopsAndPorts 91 = .ok (.goto 4, 3) := by decide +kernel
theorem dX6_loopsAndPorts_94 : decode cX6_loopsAndPorts 94 = .ok (.iconst 0, 1) := by decide +kernel
theorem dX6_loopsAndPorts_95 : decode cX6_loopsAndPorts 95 = .ok (.istore_n 3, 1) := by decide +kernel
theorem dX6_loopsAndPorts_96 : decode cX6_loopsAndPorts 96 = .ok (.aload_n 0, 1) := by decide +kernel
theorem dX6_loopsAndPorts_97 : decode cX6_loopsAndPorts 97 = .ok (.aload_n 0, 1) := by decide +kernel
theorem dX6_loopsAndPorts_98 : decode cX6_loopsAndPorts 98 = .ok (.getfield 7, 3) := by decide +kernel
theorem dX6_loopsAndPorts_101 : decode cX6_loopsAndPorts 101 = .ok (.iconst 1, 1) := by decide +kernel
theorem dX6_loopsAndPorts_102 : decode cX6_loopsAndPorts 102 = .ok (.iaload, 1) := by decide +kernel
theorem dX6_loopsAndPorts_103 : decode cX6_loopsAndPorts 103 = .ok (.ifCond .eq 14, 3) := by decide +kernel
theorem dX6_loopsAndPorts_106 : decode cX6_loopsAndPorts 106 = .ok (.iload_n 3, 1) := by decide +kernel
theorem dX6_loopsAndPorts_107 : decode cX6_loopsAndPorts 107 = .ok (.ifCond .eq 10, 3) := by decide +kernel
theorem dX6_loopsAndPorts_110 : decode cX6_loopsAndPorts 110 = .ok (.aload_n 0, 1) := by decide +kernel
theorem dX6_loopsAndPorts_111 : decode cX6_loopsAndPorts 111 = .ok (.getfield 164, 3) := by decide +kernel
theorem dX6_loopsAndPorts_114 : decode cX6_loopsAndPorts 114 = .ok (.goto 4, 3) := by decide +kernel
theorem dX6_loopsAndPorts_117 : decode cX6_loopsAndPorts 117 = .ok (.iconst 0, 1) := by decide +kernel
theorem dX6_loopsAndPorts_118 : decode cX6_loopsAndPorts 118 = .ok (.invokevirtual 238, 3) := by decide +kernel
theorem dX6_loopsAndPorts_121 : decode cX6_loopsAndPorts 121 = .ok (.goto 168, 3) := by decide +kernel
theorem dX6_loopsAndPorts_124 : decode cX6_loopsAndPorts 124 = .ok (.aload_n 0, 1) := by decide +kernel
theorem dX6_loopsAndPorts_125 : decode cX6_loopsAndPorts 125 = .ok (.getfield 148, 3) := by decide +kernel
theorem dX6_loopsAndPorts_128 : decode cX6_loopsAndPorts 128 = .ok (.sipush 227, 3) := by decide +kernel
theorem dX6_loopsAndPorts_131 : decode cX6_loopsAndPorts 131 = .ok (.if_icmp .ne 27, 3) := by decide +kernel
theorem dX6_loopsAndPorts_134 : decode cX6_loopsAndPorts 134 = .ok (.aload_n 0, 1) := by decide +kernel
theorem dX6_loopsAndPorts_135 : decode cX6_loopsAndPorts 135 = .ok (.aload_n 0, 1) := by decide +kernel
theorem dX6_loopsAndPorts_136 : decode cX6_loopsAndPorts 136 = .ok (.getfield 7, 3) := by decide +kernel
theorem dX6_loopsAndPorts_139 : decode cX6_loopsAndPorts 139 = .ok (.iconst 1, 1) := by decide +kernel
theorem dX6_loopsAndPorts_140 : decode cX6_loopsAndPorts 140 = .ok (.iaload, 1) := by decide +kernel
theorem dX6_loopsAndPorts_141 : decode cX6_loopsAndPorts 141 = .ok (.ifCond .ne 10, 3) := by decide +kernel
theorem dX6_loopsAndPorts_144 : decode cX6_loopsAndPorts 144 = .ok (.aload_n 0, 1) := by decide +kernel
theorem dX6_loopsAndPorts_145 : decode cX6_loopsAndPorts 145 = .ok (.getfield 164, 3) := by decide +kernel
theorem dX6_loopsAndPorts_148 : decode cX6_loopsAndPorts 148 = .ok (.goto 4, 3) := by decide +kernel
theorem dX6_loopsAndPorts_151 : decode cX6_loopsAndPorts 151 = .ok (.iconst 0, 1) := by decide +kernel
theorem dX6_loopsAndPorts_152 : decode cX6_loopsAndPorts 152 = .ok (.invokevirtual 238, 3) := by decide +kernel
theorem dX6_loopsAndPorts_155 : decode cX6_loopsAndPorts 155 = .ok (.goto 134, 3) := by decide +kernel
theorem dX6_loopsAndPorts_158 : decode cX6_loopsAndPorts 158 = .ok (.aload_n 0, 1) := by decide +kernel
theorem dX6_loopsAndPorts_159 : decode cX6_loopsAndPorts 159 = .ok (.getfield 148, 3) := by decide +kernel
theorem dX6_loopsAndPorts_162 : decode cX6_loopsAndPorts 162 = .ok (.sipush 230, 3) := by decide +kernel
theorem dX6_loopsAndPorts_165 : decode cX6_loopsAndPorts 165 = .ok (.if_icmp .lt 23, 3) := by decide +kernel
theorem dX6_loopsAndPorts_168 : decode cX6_loopsAndPorts 168 = .ok (.aload_n 0, 1) := by decide +kernel
theorem dX6_loopsAndPorts_169 : decode cX6_loopsAndPorts 169 = .ok (.getfield 148, 3) := by decide +kernel
theorem dX6_loopsAndPorts_172 : decode cX6_loopsAndPorts 172 = .ok (.sipush 236, 3) := by decide +kernel
theorem dX6_loopsAndPorts_175 : decode cX6_loopsAndPorts 175 = .ok (.if_icmp .eq 13, 3) := by decide +kernel
theorem dX6_loopsAndPorts_178 : decode cX6_loopsAndPorts 178 = .ok (.aload_n 0, 1) := by decide +kernel
theorem dX6_loopsAndPorts_179 : decode cX6_loopsAndPorts 179 = .ok (.getfield 148, 3) := by decide +kernel
theorem dX6_loopsAndPorts_182 : decode cX6_loopsAndPorts 182 = .ok (.sipush 237, 3) := by decide +kernel
theorem dX6_loopsAndPorts_185 : decode cX6_loopsAndPorts 185 = .ok (.if_icmp .ne 18, 3) := by decide +kernel
theorem dX6_loopsAndPorts_188 : decode cX6_loopsAndPorts 188 = .ok (.aload_n 0, 1) := by decide +kernel
theorem dX6_loopsAndPorts_189 : decode cX6_loopsAndPorts 189 = .ok (.iconst 0, 1) := by decide +kernel
theorem dX6_loopsAndPorts_190 : decode cX6_loopsAndPorts 190 = .ok (.iload_n 1, 1) := by decide +kernel
theorem dX6_loopsAndPorts_191 : decode cX6_loopsAndPorts 191 = .ok (.aload_n 0, 1) := by decide +kernel
theorem dX6_loopsAndPorts_192 : decode cX6_loopsAndPorts 192 = .ok (.iload_n 2, 1) := by decide +kernel
theorem dX6_loopsAndPorts_193 : decode cX6_loopsAndPorts 193 = .ok (.iload_n 1, 1) := by decide +kernel
theorem dX6_loopsAndPorts_194 : decode cX6_loopsAndPorts 194 = .ok (.invokevirtual 241, 3) := by decide +kernel
theorem dX6_loopsAndPorts_197 : decode cX6_loopsAndPorts 197 = .ok (.invokevirtual 101, 3) := by decide +kernel
theorem dX6_loopsAndPorts_200 : decode cX6_loopsAndPorts 200 = .ok (.goto 89, 3) := by decide +kernel
theorem dX6_loopsAndPorts_203 : decode cX6_loopsAndPorts 203 = .ok (.aload_n 0, 1) := by decide +kernel
theorem dX6_loopsAndPorts_204 : decode cX6_loopsAndPorts 204 = .ok (.getfield 148, 3) := by decide +kernel
theorem dX6_loopsAndPorts_207 : decode cX6_loopsAndPorts 207 = .ok (.sipush 232, 3) := by decide +kernel
theorem dX6_loopsAndPorts_210 : decode cX6_loopsAndPorts 210 = .ok (.if_icmp .lt 13, 3) := by decide +kernel
theorem dX6_loopsAndPorts_213 : decode cX6_loopsAndPorts 213 = .ok (.aload_n 0, 1) := by decide +kernel
theorem dX6_loopsAndPorts_214 : decode cX6_loopsAndPorts 214 = .ok (.getfield 148, 3) := by decide +kernel
theorem dX6_loopsAndPorts_217 : decode cX6_loopsAndPorts 217 = .ok (.sipush 237, 3) := by decide +kernel
theorem dX6_loopsAndPorts_220 : decode cX6_loopsAndPorts 220 = .ok (.if_icmp .le 12, 3) := by decide +kernel
theorem dX6_loopsAndPorts_223 : decode cX6_loopsAndPorts 223 = .ok (.aload_n 0, 1) := by decide +kernel
theorem dX6_loopsAndPorts_224 : decode cX6_loopsAndPorts 224 = .ok (.iload_n 2, 1) := by decide +kernel
theorem dX6_loopsAndPorts_225 : decode cX6_loopsAndPorts 225 = .ok (.iload_n 1, 1) := by decide +kernel
theorem dX6_loopsAndPorts_226 : decode cX6_loopsAndPorts 226 = .ok (.invokevirtual 244, 3) := by decide +kernel
theorem dX6_loopsAndPorts_229 : decode cX6_loopsAndPorts 229 = .ok (.goto 60, 3) := by decide +kernel
theorem dX6_loopsAndPorts_232 : decode cX6_loopsAndPorts 232 = .ok (.aload_n 0, 1) := by decide +kernel
theorem dX6_loopsAndPorts_233 : decode cX6_loopsAndPorts 233 = .ok (.getfield 148, 3) := by decide +kernel
theorem dX6_loopsAndPorts_236 : decode cX6_loopsAndPorts 236 = .ok (.sipush 234, 3) := by decide +kernel
theorem dX6_loopsAndPorts_239 : decode cX6_loopsAndPorts 239 = .ok (.if_icmp .ne 24, 3) := by decide +kernel
theorem dX6_loopsAndPorts_242 : decode cX6_loopsAndPorts 242 = .ok (.aload_n 0, 1) := by decide +kernel
theorem dX6_loopsAndPorts_243 : decode cX6_loopsAndPorts 243 = .ok (.aload_n 0, 1) := by decide +kernel
theorem dX6_loopsAndPorts_244 : decode cX6_loopsAndPorts 244 = .ok (.getfield 164, 3) := by decide +kernel
theorem dX6_loopsAndPorts_247 : decode cX6_loopsAndPorts 247 = .ok (.putfield 170, 3) := by decide +kernel
theorem dX6_loopsAndPorts_250 : decode cX6_loopsAndPorts 250 = .ok (.aload_n 0, 1) := by decide +kernel
theorem dX6_loopsAndPorts_251 : decode cX6_loopsAndPorts 251 = .ok (.getfield 13, 3) := by decide +kernel
theorem dX6_loopsAndPorts_254 : decode cX6_loopsAndPorts 254 = .ok (.iconst 1, 1) := by decide +kernel
theorem dX6_loopsAndPorts_255 : decode cX6_loopsAndPorts 255 = .ok (.aload_n 0, 1) := by decide +kernel
theorem dX6_loopsAndPorts_256 : decode cX6_loopsAndPorts 256 = .ok (.getfield 167, 3) := by decide +kernel
theorem dX6_loopsAndPorts_259 : decode cX6_loopsAndPorts 259 = .ok (.iastore, 1) := by decide +kernel
theorem dX6_loopsAndPorts_260 : decode cX6_loopsAndPorts 260 = .ok (.goto 29, 3) := by decide +kernel
theorem dX6_loopsAndPorts_263 : decode cX6_loopsAndPorts 263 = .ok (.aload_n 0, 1) := by decide +kernel
theorem dX6_loopsAndPorts_264 : decode cX6_loopsAndPorts 264 = .ok (.getfield 148, 3) := by decide +kernel
theorem dX6_loopsAndPorts_267 : decode cX6_loopsAndPorts 267 = .ok (.sipush 232, 3) := by decide +kernel
theorem dX6_loopsAndPorts_270 : decode cX6_loopsAndPorts 270 = .ok (.if_icmp .ne 11, 3) := by decide +kernel
theorem dX6_loopsAndPorts_273 : decode cX6_loopsAndPorts 273 = .ok (.aload_n 0, 1) := by decide +kernel
theorem dX6_loopsAndPorts_274 : decode cX6_loopsAndPorts 274 = .ok (.aload_n 0, 1) := by decide +kernel
theorem dX6_loopsAndPorts_275 : decode cX6_loopsAndPorts 275 = .ok (.getfield 170, 3) := by decide +kernel
theorem dX6_loopsAndPorts_278 : decode cX6_loopsAndPorts 278 = .ok (.invokevirtual 183, 3) := by decide +kernel
theorem dX6_loopsAndPorts_281 : decode cX6_loopsAndPorts 281 = .ok (.aload_n 0, 1) := by decide +kernel
theorem dX6_loopsAndPorts_282 : decode cX6_loopsAndPorts 282 = .ok (.aload_n 0, 1) := by decide +kernel
theorem dX6_loopsAndPorts_283 : decode cX6_loopsAndPorts 283 = .ok (.getfield 164, 3) := by decide +kernel
theorem dX6_loopsAndPorts_286 : decode cX6_loopsAndPorts 286 = .ok (.invokevirtual 238, 3) := by decide +kernel
theorem dX6_loopsAndPorts_289 : decode cX6_loopsAndPorts 289 = .ok (.return_, 1) := by decide +kernel
set_option maxRecDepth 20000 in
theorem ggX6_byOne_X6_isWide : GoodIn wsX6_byOne wsX6_isWide := goodIn_r _ [7, 8, 113, 114, 115, 116, 117, 118, 119, 120, 121, 122, 123, 124, 125, 126, 127, 128, 129, 130, 131, 132, 133, 134, 135, 136, 137, 138, 139, 140, 141] (by decide +kernel) (by decide +kernel)
set_option maxRecDepth 20000 in
theorem gX6_byOne_X6_isWide : GoodIn wsX6_byOne (wsV RX6 158 RX6 yX6_isWide wsX6_isWide) := goodIn_app (goodIn_of _ (by decide +kernel)) ggX6_byOne_X6_isWide
set_option maxRecDepth 20000 in
theorem ggX6_byOne_X6_operand : GoodIn wsX6_byOne wsX6_operand := goodIn_r _ [12, 13, 14, 15, 16, 17, 18, 19, 6, 20, 21, 22, 23, 24, 25, 26, 27, 28, 29, 30, 31, 32, 33, 34, 35, 36, 113, 114, 115, 116, 117, 118, 119, 120, 121, 122, 123, 124, 125, 126, 127, 128, 129, 130, 131, 132, 133, 134, 135, 136, 137, 138, 139, 140, 141] (by decide +kernel) (by decide +kernel)
set_option maxRecDepth 20000 in
theorem gX6_byOne_X6_operand : GoodIn wsX6_byOne (wsV RX6 199 RX6 yX6_operand wsX6_operand) := goodIn_app (goodIn_of _ (by decide +kernel)) ggX6_byOne_X6_operand
set_option maxRecDepth 20000 in
theorem ggX6_byOne_X6_operation : GoodIn wsX6_byOne wsX6_operation := goodIn_r _ [40, 41, 42, 43, 44, 6, 45, 46, 47, 48, 49, 50, 51, 52, 53, 54, 55, 29, 56, 57, 58, 59, 60, 61, 62, 63, 64, 65, 66, 67, 68, 69, 70, 71, 113, 114, 115, 116, 117, 118, 119, 120, 121, 122, 123, 124, 125, 126, 127, 128, 129, 130, 131, 132, 133, 134, 135, 136, 137, 138, 139, 140, 141] (by decide +kernel) (by decide +kernel)
set_option maxRecDepth 20000 in
theorem gX6_byOne_X6_operation : GoodIn wsX6_byOne (wsV RX6 187 RX6 yX6_operation wsX6_operation) := goodIn_app (goodIn_of _ (by decide +kernel)) ggX6_byOne_X6_operation
set_option maxRecDepth 20000 in
theorem ggX6_byOne_X6_give : GoodIn wsX6_byOne wsX6_give := goodIn_r _ [75, 13, 14, 15, 16, 76, 77, 78, 6, 79, 21, 29, 80, 81, 82, 83, 84, 26, 27, 28, 30, 85, 86, 87, 88, 35, 89, 90, 36, 113, 114, 115, 116, 117, 118, 119, 120, 121, 122, 123, 124, 125, 126, 127, 128, 129, 130, 131, 132, 133, 134, 135, 136, 137, 138, 139, 140, 141] (by decide +kernel) (by decide +kernel)
set_option maxRecDepth 20000 in
theorem gX6_byOne_X6_give : GoodIn wsX6_byOne (wsV RX6 202 RX6 yX6_give wsX6_give) := goodIn_app (goodIn_of _ (by decide +kernel)) ggX6_byOne_X6_give
set_option maxRecDepth 20000 in
theorem ggX6_byOne_X6_product : GoodIn wsX6_byOne wsX6_product := goodIn_r _ [94, 21, 29, 17, 18, 19, 6, 20, 46, 47, 48, 49, 50, 51, 52, 53, 54, 55, 56, 57, 58, 59, 41, 113, 114, 115, 116, 117, 118, 119, 120, 121, 122, 123, 124, 125, 126, 127, 128, 129, 130, 131, 132, 133, 134, 135, 136, 137, 138, 139, 140, 141] (by decide +kernel) (by decide +kernel)
set_option maxRecDepth 20000 in
theorem gX6_byOne_X6_product : GoodIn wsX6_byOne (wsV RX6 247 RX6 yX6_product wsX6_product) := goodIn_app (goodIn_of _ (by decide +kernel)) ggX6_byOne_X6_product
set_option maxRecDepth 20000 in
theorem ggX6_byOne_X6_quotient : GoodIn wsX6_byOne wsX6_quotient := goodIn_r _ [98, 21, 99, 100, 101, 29, 46, 47, 6, 48, 49, 50, 51, 52, 53, 54, 55, 113, 114, 115, 116, 117, 118, 119, 120, 121, 122, 123, 124, 125, 126, 127, 128, 129, 130, 131, 132, 133, 134, 135, 136, 137, 138, 139, 140, 141] (by decide +kernel) (by decide +kernel)
set_option maxRecDepth 20000 in
theorem gX6_byOne_X6_quotient : GoodIn wsX6_byOne (wsV RX6 251 RX6 yX6_quotient wsX6_quotient) := goodIn_app (goodIn_of _ (by decide +kernel)) ggX6_byOne_X6_quotient
set_option maxRecDepth 20000 in
theorem ggX6_byOne_X6_interrupt : GoodIn wsX6_byOne wsX6_interrupt := goodIn_r _ [105, 41, 106, 107, 108, 109, 110, 111, 6, 112, 21, 29, 81, 82, 83, 84, 26, 27, 28, 30, 85, 86, 87, 88, 35, 89, 90, 36, 22, 23, 24, 25, 31, 32, 33, 34, 113, 114, 115, 116, 117, 118, 119, 120, 121, 122, 123, 124, 125, 126, 127, 128, 129, 130, 131, 132, 133, 134, 135, 136, 137, 138, 139, 140, 141] (by decide +kernel) (by decide +kernel)
set_option maxRecDepth 20000 in
theorem gX6_byOne_X6_interrupt : GoodIn wsX6_byOne (wsV RX6 232 RX6 yX6_interrupt wsX6_interrupt) := goodIn_app (goodIn_of _ (by decide +kernel)) ggX6_byOne_X6_interrupt
theorem dX6_byOne_0 : decode cX6_byOne 0 = .ok (.aload_n 0, 1) := by decide +kernel
theorem dX6_byOne_1 : decode cX6_byOne 1 = .ok (.invokevirtual 158, 3) := by decide +kernel
theorem dX6_byOne_4 : decode cX6_byOne 4 = .ok (.istore_n 1, 1) := by decide +kernel
theorem dX6_byOne_5 : decode cX6_byOne 5 = .ok (.aload_n 0, 1) := by decide +kernel
theorem dX6_byOne_6 : decode cX6_byOne 6 = .ok (.iload_n 1, 1) := by decide +kernel
theorem dX6_byOne_7 : decode cX6_byOne 7 = .ok (.invokevirtual 199, 3) := by decide +kernel
theorem dX6_byOne_10 : decode cX6_byOne 10 = .ok (.istore_n 2, 1) := by decide +kernel
theorem dX6_byOne_11 : decode cX6_byOne 11 = .ok (.aload_n 0, 1) := by decide +kernel
theorem dX6_byOne_12 : decode cX6_byOne 12 = .ok (.getfield 130, 3) := by decide +kernel
theorem dX6_byOne_15 : decode cX6_byOne 15 = .ok (.tableswitch 109 0 5 #[37, 37, 53, 70, 87, 87], 37) := by decide +kernel
theorem dX6_byOne_52 : decode cX6_byOne 52 = .ok (.aload_n 0, 1) := by decide +kernel
theorem dX6_byOne_53 : decode cX6_byOne 53 = .ok (.bipush 8, 2) := by decide +kernel
theorem dX6_byOne_55 : decode cX6_byOne 55 = .ok (.iload_n 2, 1) := by decide +kernel
theorem dX6_byOne_56 : decode cX6_byOne 56 = .ok (.aload_n 0, 1) := by decide +kernel
theorem dX6_byOne_57 : decode cX6_byOne 57 = .ok (.getfield 164, 3) := by decide +kernel
theorem dX6_byOne_60 : decode cX6_byOne 60 = .ok (.iload_n 1, 1) := by decide +kernel
theorem dX6_byOne_61 : decode cX6_byOne 61 = .ok (.invokevirtual 187, 3) := by decide +kernel
theorem dX6_byOne_64 : decode cX6_byOne 64 = .ok (.istore_n 3, 1) := by decide +kernel
theorem dX6_byOne_65 : decode cX6_byOne 65 = .ok (.goto 87, 3) := by decide +kernel
theorem dX6_byOne_68 : decode cX6_byOne 68 = .ok (.aload_n 0, 1) := by decide +kernel
theorem dX6_byOne_69 : decode cX6_byOne 69 = .ok (.iload_n 1, 1) := by decide +kernel
theorem dX6_byOne_70 : decode cX6_byOne 70 = .ok (.aload_n 0, 1) := by decide +kernel
theorem dX6_byOne_71 : decode cX6_byOne 71 = .ok (.bipush 12, 2) := by decide +kernel
theorem dX6_byOne_73 : decode cX6_byOne 73 = .ok (.iload_n 2, 1) := by decide +kernel
theorem dX6_byOne_74 : decode cX6_byOne 74 = .ok (.iconst 0, 1) := by decide +kernel
theorem dX6_byOne_75 : decode cX6_byOne 75 = .ok (.iload_n 1, 1) := by decide +kernel
theorem dX6_byOne_76 : decode cX6_byOne 76 = .ok (.invokevirtual 187, 3) := by decide +kernel
theorem dX6_byOne_79 : decode cX6_byOne 79 = .ok (.invokevirtual 202, 3) := by decide +kernel
theorem dX6_byOne_82 : decode cX6_byOne 82 = .ok (.goto 70, 3) := by decide +kernel
theorem dX6_byOne_85 : decode cX6_byOne 85 = .ok (.aload_n 0, 1) := by decide +kernel
theorem dX6_byOne_86 : decode cX6_byOne 86 = .ok (.iload_n 1, 1) := by decide +kernel
theorem dX6_byOne_87 : decode cX6_byOne 87 = .ok (.aload_n 0, 1) := by decide +kernel
theorem dX6_byOne_88 : decode cX6_byOne 88 = .ok (.bipush 11, 2) := by decide +kernel
theorem dX6_byOne_90 : decode cX6_byOne 90 = .ok (.iload_n 2, 1) := by decide +kernel
theorem dX6_byOne_91 : decode cX6_byOne 91 = .ok (.iconst 0, 1) := by decide +kernel
theorem dX6_byOne_92 : decode cX6_byOne 92 = .ok (.iload_n 1, 1) := by decide +kernel
theorem dX6_byOne_93 : decode cX6_byOne 93 = .ok (.invokevirtual 187, 3) := by decide +kernel
theorem dX6_byOne_96 : decode cX6_byOne 96 = .ok (.invokevirtual 202, 3) := by decide +kernel
theorem dX6_byOne_99 : decode cX6_byOne 99 = .ok (.goto 53, 3) := by decide +kernel
theorem dX6_byOne_102 : decode cX6_byOne 102 = .ok (.aload_n 0, 1) := by decide +kernel
theorem dX6_byOne_103 : decode cX6_byOne 103 = .ok (.iload_n 2, 1) := by decide +kernel
theorem dX6_byOne_104 : decode cX6_byOne 104 = .ok (.aload_n 0, 1) := by decide +kernel
theorem dX6_byOne_105 : decode cX6_byOne 105 = .ok (.getfield 130, 3) := by decide +kernel
theorem dX6_byOne_108 : decode cX6_byOne 108 = .ok (.iconst 5, 1) := by decide +kernel
theorem dX6_byOne_109 : decode cX6_byOne 109 = .ok (.if_icmp .ne 7, 3) := by decide +kernel
theorem dX6_byOne_112 : decode cX6_byOne 112 = .ok (.iconst 1, 1) := by decide +kernel
theorem dX6_byOne_113 : decode cX6_byOne 113 = .ok (.goto 4, 3) := by decide +kernel
theorem dX6_byOne_116 : decode cX6_byOne 116 = .ok (.iconst 0, 1) := by decide +kernel
theorem dX6_byOne_117 : decode cX6_byOne 117 = .ok (.iload_n 1, 1) := by decide +kernel
theorem dX6_byOne_118 : decode cX6_byOne 118 = .ok (.invokevirtual 247, 3) := by decide +kernel
theorem dX6_byOne_121 : decode cX6_byOne 121 = .ok (.goto 31, 3) := by decide +kernel
theorem dX6_byOne_124 : decode cX6_byOne 124 = .ok (.aload_n 0, 1) := by decide +kernel
theorem dX6_byOne_125 : decode cX6_byOne 125 = .ok (.iload_n 2, 1) := by decide +kernel
theorem dX6_byOne_126 : decode cX6_byOne 126 = .ok (.aload_n 0, 1) := by decide +kernel
theorem dX6_byOne_127 : decode cX6_byOne 127 = .ok (.getfield 130, 3) := by decide +kernel
theorem dX6_byOne_130 : decode cX6_byOne 130 = .ok (.bipush 7, 2) := by decide +kernel
theorem dX6_byOne_132 : decode cX6_byOne 132 = .ok (.if_icmp .ne 7, 3) := by decide +kernel
theorem dX6_byOne_135 : decode cX6_byOne 135 = .ok (.iconst 1, 1) := by decide +kernel
theorem dX6_byOne_136 : decode cX6_byOne 136 = .ok (.goto 4, 3) := by decide +kernel
theorem dX6_byOne_139 : decode cX6_byOne 139 = .ok (.iconst 0, 1) := by decide +kernel
theorem dX6_byOne_140 : decode cX6_byOne 140 = .ok (.iload_n 1, 1) := by decide +kernel
theorem dX6_byOne_141 : decode cX6_byOne 141 = .ok (.invokevirtual 251, 3) := by decide +kernel
theorem dX6_byOne_144 : decode cX6_byOne 144 = .ok (.ifCond .ne 8, 3) := by decide +kernel
theorem dX6_byOne_147 : decode cX6_byOne 147 = .ok (.aload_n 0, 1) := by decide +kernel
theorem dX6_byOne_148 : decode cX6_byOne 148 = .ok (.iconst 0, 1) := by decide +kernel
theorem dX6_byOne_149 : decode cX6_byOne 149 = .ok (.invokevirtual 232, 3) := by decide +kernel
theorem dX6_byOne_152 : decode cX6_byOne 152 = .ok (.return_, 1) := by decide +kernel
set_option maxRecDepth 20000 in
theorem ggX6_last_X6_isWide : GoodIn wsX6_last wsX6_isWide := goodIn_r _ [14, 15, 100, 101, 102, 103, 104, 105, 106, 107, 108, 109, 110, 111, 112, 113, 114, 115, 116, 117, 118, 119, 120, 121, 122, 123, 124, 125, 126, 127, 128] (by decide +kernel) (by decide +kernel)
set_option maxRecDepth 20000 in
theorem gX6_last_X6_isWide : GoodIn wsX6_last (wsV RX6 158 RX6 yX6_isWide wsX6_isWide) := goodIn_app (goodIn_of _ (by decide +kernel)) ggX6_last_X6_isWide
set_option maxRecDepth 20000 in
theorem ggX6_last_X6_operand : GoodIn wsX6_last wsX6_operand := goodIn_r _ [19, 1, 9, 2, 3, 20, 21, 22, 13, 23, 7, 24, 25, 26, 27, 28, 29, 30, 8, 31, 32, 33, 34, 35, 36, 37, 100, 101, 102, 103, 104, 105, 106, 107, 108, 109, 110, 111, 112, 113, 114, 115, 116, 117, 118, 119, 120, 121, 122, 123, 124, 125, 126, 127, 128] (by decide +kernel) (by decide +kernel)
set_option maxRecDepth 20000 in
theorem gX6_last_X6_operand : GoodIn wsX6_last (wsV RX6 199 RX6 yX6_operand wsX6_operand) := goodIn_app (goodIn_of _ (by decide +kernel)) ggX6_last_X6_operand
set_option maxRecDepth 20000 in
theorem ggX6_last_X6_get : GoodIn wsX6_last wsX6_get := goodIn_r _ [27, 28, 29, 13, 30, 8, 31, 32, 33, 34, 35, 36, 37, 100, 101, 102, 103, 104, 105, 106, 107, 108, 109, 110, 111, 112, 113, 114, 115, 116, 117, 118, 119, 120, 121, 122, 123, 124, 125, 126, 127, 128] (by decide +kernel) (by decide +kernel)
set_option maxRecDepth 20000 in
theorem gX6_last_X6_get : GoodIn wsX6_last (wsV RX6 61 RX6 yX6_get wsX6_get) := goodIn_app (goodIn_of _ (by decide +kernel)) ggX6_last_X6_get
set_option maxRecDepth 20000 in
theorem ggX6_last_X6_operation : GoodIn wsX6_last wsX6_operation := goodIn_r _ [41, 42, 43, 44, 45, 13, 46, 47, 48, 49, 50, 51, 52, 53, 54, 55, 56, 8, 57, 58, 59, 60, 61, 62, 63, 64, 65, 66, 67, 68, 69, 70, 71, 72, 100, 101, 102, 103, 104, 105, 106, 107, 108, 109, 110, 111, 112, 113, 114, 115, 116, 117, 118, 119, 120, 121, 122, 123, 124, 125, 126, 127, 128] (by decide +kernel) (by decide +kernel)
set_option maxRecDepth 20000 in
theorem gX6_last_X6_operation : GoodIn wsX6_last (wsV RX6 187 RX6 yX6_operation wsX6_operation) := goodIn_app (goodIn_of _ (by decide +kernel)) ggX6_last_X6_operation
set_option maxRecDepth 20000 in
theorem ggX6_last_X6_give : GoodIn wsX6_last wsX6_give := goodIn_r _ [76, 1, 9, 2, 3, 77, 78, 79, 13, 80, 7, 8, 81, 82, 83, 84, 85, 28, 29, 30, 31, 86, 87, 88, 89, 36, 90, 91, 37, 100, 101, 102, 103, 104, 105, 106, 107, 108, 109, 110, 111, 112, 113, 114, 115, 116, 117, 118, 119, 120, 121, 122, 123, 124, 125, 126, 127, 128] (by decide +kernel) (by decide +kernel)
set_option maxRecDepth 20000 in
theorem gX6_last_X6_give : GoodIn wsX6_last (wsV RX6 202 RX6 yX6_give wsX6_give) := goodIn_app (goodIn_of _ (by decide +kernel)) ggX6_last_X6_give
set_option maxRecDepth 20000 in
theorem ggX6_last_X6_push : GoodIn wsX6_last wsX6_push := goodIn_r _ [95, 7, 8, 6, 82, 83, 84, 13, 85, 28, 29, 30, 31, 86, 87, 88, 89, 36, 90, 91, 37, 100, 101, 102, 103, 104, 105, 106, 107, 108, 109, 110, 111, 112, 113, 114, 115, 116, 117, 118, 119, 120, 121, 122, 123, 124, 125, 126, 127, 128] (by decide +kernel) (by decide +kernel)
set_option maxRecDepth 20000 in
theorem gX6_last_X6_push : GoodIn wsX6_last (wsV RX6 183 RX6 yX6_push wsX6_push) := goodIn_app (goodIn_of _ (by decide +kernel)) ggX6_last_X6_push
set_option maxRecDepth 20000 in
theorem ggX6_last_X6_callFar : GoodIn wsX6_last wsX6_callFar := goodIn_r _ [99, 6, 5, 92, 93, 94, 13, 95, 7, 8, 82, 83, 84, 85, 28, 29, 30, 31, 86, 87, 88, 89, 36, 90, 91, 37, 100, 101, 102, 103, 104, 105, 106, 107, 108, 109, 110, 111, 112, 113, 114, 115, 116, 117, 118, 119, 120, 121, 122, 123, 124, 125, 126, 127, 128] (by decide +kernel) (by decide +kernel)
set_option maxRecDepth 20000 in
theorem gX6_last_X6_callFar : GoodIn wsX6_last (wsV RX6 220 RX6 yX6_callFar wsX6_callFar) := goodIn_app (goodIn_of _ (by decide +kernel)) ggX6_last_X6_callFar
set_option maxRecDepth 20000 in
theorem ggX6_last_X6_put : GoodIn wsX6_last wsX6_put := goodIn_r _ [85, 28, 29, 13, 30, 8, 31, 86, 87, 88, 89, 36, 90, 91, 37, 100, 101, 102, 103, 104, 105, 106, 107, 108, 109, 110, 111, 112, 113, 114, 115, 116, 117, 118, 119, 120, 121, 122, 123, 124, 125, 126, 127, 128] (by decide +kernel) (by decide +kernel)
set_option maxRecDepth 20000 in
theorem gX6_last_X6_put : GoodIn wsX6_last (wsV RX6 57 RX6 yX6_put wsX6_put) := goodIn_app (goodIn_of _ (by decide +kernel)) ggX6_last_X6_put
theorem dX6_last_0 : decode cX6_last 0 = .ok (.aload_n 0, 1) := by decide +kernel
theorem dX6_last_1 : decode cX6_last 1 = .ok (.invokevirtual 158, 3) := by decide +kernel
theorem dX6_last_4 : decode cX6_last 4 = .ok (.istore_n 1, 1) := by decide +kernel
theorem dX6_last_5 : decode cX6_last 5 = .ok (.aload_n 0, 1) := by decide +kernel
theorem dX6_last_6 : decode cX6_last 6 = .ok (.iload_n 1, 1) := by decide +kernel
theorem dX6_last_7 : decode cX6_last 7 = .ok (.invokevirtual 199, 3) := by decide +kernel
theorem dX6_last_10 : decode cX6_last 10 = .ok (.istore_n 2, 1) := by decide +kernel
theorem dX6_last_11 : decode cX6_last 11 = .ok (.aload_n 0, 1) := by decide +kernel
theorem dX6_last_12 : decode cX6_last 12 = .ok (.getfield 127, 3) := by decide +kernel
theorem dX6_last_15 : decode cX6_last 15 = .ok (.iconst 3, 1) := by decide +kernel
theorem dX6_last_16 : decode cX6_last 16 = .ok (.if_icmp .ne 7, 3) := by decide +kernel
theorem dX6_last_19 : decode cX6_last 19 = .ok (.iconst 0, 1) := by decide +kernel
theorem dX6_last_20 : decode cX6_last 20 = .ok (.goto 18, 3) := by decide +kernel
theorem dX6_last_23 : decode cX6_last 23 = .ok (.aload_n 0, 1) := by decide +kernel
theorem dX6_last_24 : decode cX6_last 24 = .ok (.aload_n 0, 1) := by decide +kernel
theorem dX6_last_25 : decode cX6_last 25 = .ok (.getfield 145, 3) := by decide +kernel
theorem dX6_last_28 : decode cX6_last 28 = .ok (.aload_n 0, 1) := by decide +kernel
theorem dX6_last_29 : decode cX6_last 29 = .ok (.getfield 139, 3) := by decide +kernel
theorem dX6_last_32 : decode cX6_last 32 = .ok (.iconst 2, 1) := by decide +kernel
theorem dX6_last_33 : decode cX6_last 33 = .ok (.iadd, 1) := by decide +kernel
theorem dX6_last_34 : decode cX6_last 34 = .ok (.iconst 1, 1) := by decide +kernel
theorem dX6_last_35 : decode cX6_last 35 = .ok (.invokevirtual 61, 3) := by decide +kernel
theorem dX6_last_38 : decode cX6_last 38 = .ok (.istore_n 3, 1) := by decide +kernel
theorem dX6_last_39 : decode cX6_last 39 = .ok (.aload_n 0, 1) := by decide +kernel
theorem dX6_last_40 : decode cX6_last 40 = .ok (.getfield 130, 3) := by decide +kernel
theorem dX6_last_43 : decode cX6_last 43 = .ok (.tableswitch 107 0 5 #[37, 37, 59, 75, 84, 92], 37) := by decide +kernel
theorem dX6_last_80 : decode cX6_last 80 = .ok (.aload_n 0, 1) := by decide +kernel
theorem dX6_last_81 : decode cX6_last 81 = .ok (.iload_n 1, 1) := by decide +kernel
theorem dX6_last_82 : decode cX6_last 82 = .ok (.aload_n 0, 1) := by decide +kernel
theorem dX6_last_83 : decode cX6_last 83 = .ok (.bipush 9, 2) := by decide +kernel
theorem dX6_last_85 : decode cX6_last 85 = .ok (.aload_n 0, 1) := by decide +kernel
theorem dX6_last_86 : decode cX6_last 86 = .ok (.getfield 130, 3) := by decide +kernel
theorem dX6_last_89 : decode cX6_last 89 = .ok (.iadd, 1) := by decide +kernel
theorem dX6_last_90 : decode cX6_last 90 = .ok (.iload_n 2, 1) := by decide +kernel
theorem dX6_last_91 : decode cX6_last 91 = .ok (.iconst 0, 1) := by decide +kernel
theorem dX6_last_92 : decode cX6_last 92 = .ok (.iload_n 1, 1) := by decide +kernel
theorem dX6_last_93 : decode cX6_last 93 = .ok (.invokevirtual 187, 3) := by decide +kernel
theorem dX6_last_96 : decode cX6_last 96 = .ok (.invokevirtual 202, 3) := by decide +kernel
theorem dX6_last_99 : decode cX6_last 99 = .ok (.goto 106, 3) := by decide +kernel
theorem dX6_last_102 : decode cX6_last 102 = .ok (.aload_n 0, 1) := by decide +kernel
theorem dX6_last_103 : decode cX6_last 103 = .ok (.aload_n 0, 1) := by decide +kernel
theorem dX6_last_104 : decode cX6_last 104 = .ok (.getfield 170, 3) := by decide +kernel
theorem dX6_last_107 : decode cX6_last 107 = .ok (.invokevirtual 183, 3) := by decide +kernel
theorem dX6_last_110 : decode cX6_last 110 = .ok (.aload_n 0, 1) := by decide +kernel
theorem dX6_last_111 : decode cX6_last 111 = .ok (.iload_n 2, 1) := by decide +kernel
theorem dX6_last_112 : decode cX6_last 112 = .ok (.putfield 170, 3) := by decide +kernel
theorem dX6_last_115 : decode cX6_last 115 = .ok (.goto 90, 3) := by decide +kernel
theorem dX6_last_118 : decode cX6_last 118 = .ok (.aload_n 0, 1) := by decide +kernel
theorem dX6_last_119 : decode cX6_last 119 = .ok (.iload_n 2, 1) := by decide +kernel
theorem dX6_last_120 : decode cX6_last 120 = .ok (.iload_n 3, 1) := by decide +kernel
theorem dX6_last_121 : decode cX6_last 121 = .ok (.invokevirtual 220, 3) := by decide +kernel
theorem dX6_last_124 : decode cX6_last 124 = .ok (.goto 81, 3) := by decide +kernel
theorem dX6_last_127 : decode cX6_last 127 = .ok (.aload_n 0, 1) := by decide +kernel
theorem dX6_last_128 : decode cX6_last 128 = .ok (.iload_n 2, 1) := by decide +kernel
theorem dX6_last_129 : decode cX6_last 129 = .ok (.putfield 170, 3) := by decide +kernel
theorem dX6_last_132 : decode cX6_last 132 = .ok (.goto 73, 3) := by decide +kernel
theorem dX6_last_135 : decode cX6_last 135 = .ok (.aload_n 0, 1) := by decide +kernel
theorem dX6_last_136 : decode cX6_last 136 = .ok (.iload_n 2, 1) := by decide +kernel
theorem dX6_last_137 : decode cX6_last 137 = .ok (.putfield 170, 3) := by decide +kernel
theorem dX6_last_140 : decode cX6_last 140 = .ok (.aload_n 0, 1) := by decide +kernel
theorem dX6_last_141 : decode cX6_last 141 = .ok (.getfield 13, 3) := by decide +kernel
theorem dX6_last_144 : decode cX6_last 144 = .ok (.iconst 1, 1) := by decide +kernel
theorem dX6_last_145 : decode cX6_last 145 = .ok (.iload_n 3, 1) := by decide +kernel
theorem dX6_last_146 : decode cX6_last 146 = .ok (.iastore, 1) := by decide +kernel
theorem dX6_last_147 : decode cX6_last 147 = .ok (.goto 58, 3) := by decide +kernel
theorem dX6_last_150 : decode cX6_last 150 = .ok (.aload_n 0, 1) := by decide +kernel
theorem dX6_last_151 : decode cX6_last 151 = .ok (.getfield 7, 3) := by decide +kernel
theorem dX6_last_154 : decode cX6_last 154 = .ok (.iconst 4, 1) := by decide +kernel
theorem dX6_last_155 : decode cX6_last 155 = .ok (.aload_n 0, 1) := by decide +kernel
theorem dX6_last_156 : decode cX6_last 156 = .ok (.getfield 7, 3) := by decide +kernel
theorem dX6_last_159 : decode cX6_last 159 = .ok (.iconst 4, 1) := by decide +kernel
theorem dX6_last_160 : decode cX6_last 160 = .ok (.iaload, 1) := by decide +kernel
theorem dX6_last_161 : decode cX6_last 161 = .ok (.iconst 2, 1) := by decide +kernel
theorem dX6_last_162 : decode cX6_last 162 = .ok (.isub, 1) := by decide +kernel
theorem dX6_last_163 : decode cX6_last 163 = .ok (.ldc 39, 2) := by decide +kernel
theorem dX6_last_165 : decode cX6_last 165 = .ok (.iand, 1) := by decide +kernel
theorem dX6_last_166 : decode cX6_last 166 = .ok (.iastore, 1) := by decide +kernel
theorem dX6_last_167 : decode cX6_last 167 = .ok (.aload_n 0, 1) := by decide +kernel
theorem dX6_last_168 : decode cX6_last 168 = .ok (.aload_n 0, 1) := by decide +kernel
theorem dX6_last_169 : decode cX6_last 169 = .ok (.getfield 13, 3) := by decide +kernel
theorem dX6_last_172 : decode cX6_last 172 = .ok (.iconst 2, 1) := by decide +kernel
theorem dX6_last_173 : decode cX6_last 173 = .ok (.iaload, 1) := by decide +kernel
theorem dX6_last_174 : decode cX6_last 174 = .ok (.aload_n 0, 1) := by decide +kernel
theorem dX6_last_175 : decode cX6_last 175 = .ok (.getfield 7, 3) := by decide +kernel
theorem dX6_last_178 : decode cX6_last 178 = .ok (.iconst 4, 1) := by decide +kernel
theorem dX6_last_179 : decode cX6_last 179 = .ok (.iaload, 1) := by decide +kernel
theorem dX6_last_180 : decode cX6_last 180 = .ok (.iconst 1, 1) := by decide +kernel
theorem dX6_last_181 : decode cX6_last 181 = .ok (.aload_n 0, 1) := by decide +kernel
theorem dX6_last_182 : decode cX6_last 182 = .ok (.getfield 127, 3) := by decide +kernel
theorem dX6_last_185 : decode cX6_last 185 = .ok (.iconst 3, 1) := by decide +kernel
theorem dX6_last_186 : decode cX6_last 186 = .ok (.if_icmp .ne 15, 3) := by decide +kernel
theorem dX6_last_189 : decode cX6_last 189 = .ok (.aload_n 0, 1) := by decide +kernel
theorem dX6_last_190 : decode cX6_last 190 = .ok (.getfield 7, 3) := by decide +kernel
theorem dX6_last_193 : decode cX6_last 193 = .ok (.aload_n 0, 1) := by decide +kernel
theorem dX6_last_194 : decode cX6_last 194 = .ok (.getfield 133, 3) := by decide +kernel
theorem dX6_last_197 : decode cX6_last 197 = .ok (.iaload, 1) := by decide +kernel
theorem dX6_last_198 : decode cX6_last 198 = .ok (.goto 4, 3) := by decide +kernel
theorem dX6_last_201 : decode cX6_last 201 = .ok (.iload_n 2, 1) := by decide +kernel
theorem dX6_last_202 : decode cX6_last 202 = .ok (.invokevirtual 57, 3) := by decide +kernel
theorem dX6_last_205 : decode cX6_last 205 = .ok (.return_, 1) := by decide +kernel
set_option maxRecDepth 20000 in
theorem ggX6_flagsAndMore_X6_byOne : GoodIn wsX6_flagsAndMore wsX6_byOne := goodIn_r _ [8, 9, 10, 11, 12, 13, 7, 14, 1, 15, 16, 17, 18, 19, 20, 21, 22, 23, 24, 25, 26, 27, 28, 29, 30, 31, 32, 33, 34, 35, 36, 37, 38, 39, 40, 41, 42, 43, 44, 45, 46, 3, 47, 48, 49, 50, 51, 52, 53, 54, 55, 56, 57, 58, 59, 60, 61, 62, 63, 64, 65, 66, 67, 68, 69, 70, 71, 72, 73, 74, 75, 76, 77, 78, 79, 80, 81, 82, 83, 84, 85, 86, 87, 88, 89, 90, 91, 92, 93, 94, 95, 96, 97, 98, 99, 100, 101, 102, 103, 104, 105, 106, 107, 108, 109, 110, 111, 112, 113, 114, 115, 116, 117, 126, 127, 128, 129, 130, 131, 132, 133, 134, 135, 136, 137, 138, 139, 140, 141, 142, 143, 144, 145, 146, 147, 148, 149, 150, 151, 152, 153, 154] (by decide +kernel) (by decide +kernel)
set_option maxRecDepth 20000 in
theorem gX6_flagsAndMore_X6_byOne : GoodIn wsX6_flagsAndMore (wsV RX6 258 RX6 yX6_byOne wsX6_byOne) := goodIn_app (goodIn_of _ (by decide +kernel)) ggX6_flagsAndMore_X6_byOne
set_option maxRecDepth 20000 in
theorem ggX6_flagsAndMore_X6_isWide : GoodIn wsX6_flagsAndMore wsX6_isWide := goodIn_r _ [14, 1, 126, 127, 128, 129, 130, 131, 132, 133, 134, 135, 136, 137, 138, 139, 140, 141, 142, 143, 144, 145, 146, 147, 148, 149, 150, 151, 152, 153, 154] (by decide +kernel) (by decide +kernel)
set_option maxRecDepth 20000 in
theorem gX6_flagsAndMore_X6_isWide : GoodIn wsX6_flagsAndMore (wsV RX6 158 RX6 yX6_isWide wsX6_isWide) := goodIn_app (goodIn_of _ (by decide +kernel)) ggX6_flagsAndMore_X6_isWide
set_option maxRecDepth 20000 in
theorem ggX6_flagsAndMore_X6_mark : GoodIn wsX6_flagsAndMore wsX6_mark := goodIn_r _ [64, 3, 126, 127, 128, 129, 130, 131, 132, 133, 134, 135, 136, 137, 138, 139, 140, 141, 142, 143, 144, 145, 146, 147, 148, 149, 150, 151, 152, 153, 154] (by decide +kernel) (by decide +kernel)
set_option maxRecDepth 20000 in
theorem gX6_flagsAndMore_X6_mark : GoodIn wsX6_flagsAndMore (wsV RX6 73 RX6 yX6_mark wsX6_mark) := goodIn_app (goodIn_of _ (by decide +kernel)) ggX6_flagsAndMore_X6_mark
set_option maxRecDepth 20000 in
theorem ggX6_flagsAndMore_X6_last : GoodIn wsX6_flagsAndMore wsX6_last := goodIn_r _ [121, 19, 21, 22, 9, 113, 112, 27, 35, 20, 11, 12, 13, 7, 14, 1, 15, 16, 17, 18, 23, 24, 25, 26, 28, 29, 30, 31, 32, 33, 34, 36, 37, 38, 39, 40, 41, 42, 43, 44, 45, 46, 3, 47, 48, 49, 50, 51, 52, 53, 54, 55, 56, 57, 58, 59, 60, 61, 62, 63, 64, 65, 66, 67, 68, 69, 70, 71, 72, 73, 74, 75, 76, 77, 78, 79, 80, 81, 82, 83, 84, 85, 86, 87, 88, 89, 90, 91, 92, 93, 94, 95, 114, 115, 116, 117, 122, 123, 124, 125, 126, 127, 128, 129, 130, 131, 132, 133, 134, 135, 136, 137, 138, 139, 140, 141, 142, 143, 144, 145, 146, 147, 148, 149, 150, 151, 152, 153, 154] (by decide +kernel) (by decide +kernel)
set_option maxRecDepth 20000 in
theorem gX6_flagsAndMore_X6_last : GoodIn wsX6_flagsAndMore (wsV RX6 261 RX6 yX6_last wsX6_last) := goodIn_app (goodIn_of _ (by decide +kernel)) ggX6_flagsAndMore_X6_last
theorem dX6_flagsAndMore_0 : decode cX6_flagsAndMore 0 = .ok (.aload_n 0, 1) := by decide +kernel
theorem dX6_flagsAndMore_1 : decode cX6_flagsAndMore 1 = .ok (.getfield 148, 3) := by decide +kernel
theorem dX6_flagsAndMore_4 : decode cX6_flagsAndMore 4 = .ok (.tableswitch 124 244 253 #[56, 64, 77, 77, 84, 84, 96, 96, 110, 110], 56) := by decide +kernel
theorem dX6_flagsAndMore_60 : decode cX6_flagsAndMore 60 = .ok (.aload_n 0, 1) := by decide +kernel
theorem dX6_flagsAndMore_61 : decode cX6_flagsAndMore 61 = .ok (.iconst 1, 1) := by decide +kernel
theorem dX6_flagsAndMore_62 : decode cX6_flagsAndMore 62 = .ok (.putfield 255, 3) := by decide +kernel
theorem dX6_flagsAndMore_65 : decode cX6_flagsAndMore 65 = .ok (.goto 67, 3) := by decide +kernel
theorem dX6_flagsAndMore_68 : decode cX6_flagsAndMore 68 = .ok (.aload_n 0, 1) := by decide +kernel
theorem dX6_flagsAndMore_69 : decode cX6_flagsAndMore 69 = .ok (.aload_n 0, 1) := by decide +kernel
theorem dX6_flagsAndMore_70 : decode cX6_flagsAndMore 70 = .ok (.getfield 54, 3) := by decide +kernel
theorem dX6_flagsAndMore_73 : decode cX6_flagsAndMore 73 = .ok (.iconst 1, 1) := by decide +kernel
theorem dX6_flagsAndMore_74 : decode cX6_flagsAndMore 74 = .ok (.ixor, 1) := by decide +kernel
theorem dX6_flagsAndMore_75 : decode cX6_flagsAndMore 75 = .ok (.putfield 54, 3) := by decide +kernel
theorem dX6_flagsAndMore_78 : decode cX6_flagsAndMore 78 = .ok (.goto 54, 3) := by decide +kernel
theorem dX6_flagsAndMore_81 : decode cX6_flagsAndMore 81 = .ok (.aload_n 0, 1) := by decide +kernel
theorem dX6_flagsAndMore_82 : decode cX6_flagsAndMore 82 = .ok (.invokevirtual 258, 3) := by decide +kernel
theorem dX6_flagsAndMore_85 : decode cX6_flagsAndMore 85 = .ok (.goto 47, 3) := by decide +kernel
theorem dX6_flagsAndMore_88 : decode cX6_flagsAndMore 88 = .ok (.aload_n 0, 1) := by decide +kernel
theorem dX6_flagsAndMore_89 : decode cX6_flagsAndMore 89 = .ok (.iconst 1, 1) := by decide +kernel
theorem dX6_flagsAndMore_90 : decode cX6_flagsAndMore 90 = .ok (.aload_n 0, 1) := by decide +kernel
theorem dX6_flagsAndMore_91 : decode cX6_flagsAndMore 91 = .ok (.invokevirtual 158, 3) := by decide +kernel
theorem dX6_flagsAndMore_94 : decode cX6_flagsAndMore 94 = .ok (.invokevirtual 73, 3) := by decide +kernel
theorem dX6_flagsAndMore_97 : decode cX6_flagsAndMore 97 = .ok (.goto 35, 3) := by decide +kernel
theorem dX6_flagsAndMore_100 : decode cX6_flagsAndMore 100 = .ok (.aload_n 0, 1) := by decide +kernel
theorem dX6_flagsAndMore_101 : decode cX6_flagsAndMore 101 = .ok (.sipush 512, 3) := by decide +kernel
theorem dX6_flagsAndMore_104 : decode cX6_flagsAndMore 104 = .ok (.aload_n 0, 1) := by decide +kernel
theorem dX6_flagsAndMore_105 : decode cX6_flagsAndMore 105 = .ok (.invokevirtual 158, 3) := by decide +kernel
theorem dX6_flagsAndMore_108 : decode cX6_flagsAndMore 108 = .ok (.invokevirtual 73, 3) := by decide +kernel
theorem dX6_flagsAndMore_111 : decode cX6_flagsAndMore 111 = .ok (.goto 21, 3) := by decide +kernel
theorem dX6_flagsAndMore_114 : decode cX6_flagsAndMore 114 = .ok (.aload_n 0, 1) := by decide +kernel
theorem dX6_flagsAndMore_115 : decode cX6_flagsAndMore 115 = .ok (.sipush 1024, 3) := by decide +kernel
theorem dX6_flagsAndMore_118 : decode cX6_flagsAndMore 118 = .ok (.aload_n 0, 1) := by decide +kernel
theorem dX6_flagsAndMore_119 : decode cX6_flagsAndMore 119 = .ok (.invokevirtual 158, 3) := by decide +kernel
theorem dX6_flagsAndMore_122 : decode cX6_flagsAndMore 122 = .ok (.invokevirtual 73, 3) := by decide +kernel
theorem dX6_flagsAndMore_125 : decode cX6_flagsAndMore 125 = .ok (.goto 7, 3) := by decide +kernel
theorem dX6_flagsAndMore_128 : decode cX6_flagsAndMore 128 = .ok (.aload_n 0, 1) := by decide +kernel
theorem dX6_flagsAndMore_129 : decode cX6_flagsAndMore 129 = .ok (.invokevirtual 261, 3) := by decide +kernel
theorem dX6_flagsAndMore_132 : decode cX6_flagsAndMore 132 = .ok (.return_, 1) := by decide +kernel
set_option maxRecDepth 20000 in
theorem ggX6_does_X6_first : GoodIn wsX6_does wsX6_first := goodIn_r _ [12, 6, 13, 7, 14, 4, 15, 16, 17, 11, 18, 19, 20, 21, 22, 23, 24, 25, 26, 27, 28, 29, 30, 31, 32, 33, 34, 35, 36, 37, 38, 2, 39, 40, 41, 42, 43, 44, 45, 46, 47, 48, 49, 50, 51, 52, 53, 54, 55, 56, 57, 58, 59, 60, 61, 62, 63, 64, 65, 66, 67, 68, 69, 70, 71, 72, 73, 74, 75, 76, 77, 78, 79, 80, 81, 82, 83, 84, 85, 86, 87, 88, 89, 90, 91, 92, 93, 94, 95, 96, 97, 98, 99, 100, 101, 102, 103, 104, 105, 106, 107, 108, 109, 110, 111, 112, 113, 114, 115, 116, 117, 118, 119, 238, 239, 240, 241, 242, 243, 244, 245, 246, 247, 248, 249, 250, 251, 252, 253, 254, 255, 256, 257, 258, 259, 260, 261, 262, 263, 264, 265, 266] (by decide +kernel) (by decide +kernel)
set_option maxRecDepth 20000 in
theorem gX6_does_X6_first : GoodIn wsX6_does (wsV RX6 267 RX6 yX6_first wsX6_first) := goodIn_app (goodIn_of _ (by decide +kernel)) ggX6_does_X6_first
set_option maxRecDepth 20000 in
theorem ggX6_does_X6_second : GoodIn wsX6_does wsX6_second := goodIn_r _ [123, 6, 31, 2, 14, 46, 47, 48, 11, 49, 50, 51, 52, 53, 54, 55, 56, 57, 58, 59, 60, 61, 62, 63, 64, 65, 66, 67, 68, 69, 70, 71, 72, 73, 74, 75, 76, 77, 78, 79, 80, 90, 91, 92, 93, 36, 37, 38, 39, 94, 95, 96, 97, 44, 98, 99, 45, 104, 105, 106, 107, 32, 33, 34, 35, 40, 41, 42, 43, 238, 239, 240, 241, 242, 243, 244, 245, 246, 247, 248, 249, 250, 251, 252, 253, 254, 255, 256, 257, 258, 259, 260, 261, 262, 263, 264, 265, 266] (by decide +kernel) (by decide +kernel)
set_option maxRecDepth 20000 in
theorem gX6_does_X6_second : GoodIn wsX6_does (wsV RX6 270 RX6 yX6_second wsX6_second) := goodIn_app (goodIn_of _ (by decide +kernel)) ggX6_does_X6_second
set_option maxRecDepth 20000 in
theorem ggX6_does_X6_holds : GoodIn wsX6_does wsX6_holds := goodIn_r _ [127, 112, 113, 114, 11, 115, 50, 238, 239, 240, 241, 242, 243, 244, 245, 246, 247, 248, 249, 250, 251, 252, 253, 254, 255, 256, 257, 258, 259, 260, 261, 262, 263, 264, 265, 266] (by decide +kernel) (by decide +kernel)
set_option maxRecDepth 20000 in
theorem gX6_does_X6_holds : GoodIn wsX6_does (wsV RX6 273 RX6 yX6_holds wsX6_holds) := goodIn_app (goodIn_of _ (by decide +kernel)) ggX6_does_X6_holds
set_option maxRecDepth 20000 in
theorem ggX6_does_X6_jump : GoodIn wsX6_does wsX6_jump := goodIn_r _ [131, 3, 2, 238, 239, 240, 241, 242, 243, 244, 245, 246, 247, 248, 249, 250, 251, 252, 253, 254, 255, 256, 257, 258, 259, 260, 261, 262, 263, 264, 265, 266] (by decide +kernel) (by decide +kernel)
set_option maxRecDepth 20000 in
theorem gX6_does_X6_jump : GoodIn wsX6_does (wsV RX6 238 RX6 yX6_jump wsX6_jump) := goodIn_app (goodIn_of _ (by decide +kernel)) ggX6_does_X6_jump
set_option maxRecDepth 20000 in
theorem ggX6_does_X6_moves : GoodIn wsX6_does wsX6_moves := goodIn_r _ [135, 6, 13, 7, 14, 31, 26, 4, 15, 16, 17, 11, 18, 19, 20, 21, 22, 23, 24, 25, 27, 28, 29, 30, 32, 33, 34, 35, 36, 37, 38, 2, 39, 40, 41, 42, 43, 44, 45, 46, 47, 48, 49, 50, 51, 52, 53, 54, 55, 56, 57, 58, 59, 60, 61, 62, 63, 64, 65, 66, 67, 68, 69, 70, 71, 72, 73, 74, 75, 76, 77, 78, 79, 80, 81, 82, 83, 84, 85, 86, 87, 88, 89, 90, 91, 92, 93, 94, 95, 96, 97, 98, 99, 104, 105, 106, 107, 238, 239, 240, 241, 242, 243, 244, 245, 246, 247, 248, 249, 250, 251, 252, 253, 254, 255, 256, 257, 258, 259, 260, 261, 262, 263, 264, 265, 266] (by decide +kernel) (by decide +kernel)
set_option maxRecDepth 20000 in
theorem gX6_does_X6_moves : GoodIn wsX6_does (wsV RX6 276 RX6 yX6_moves wsX6_moves) := goodIn_app (goodIn_of _ (by decide +kernel)) ggX6_does_X6_moves
set_option maxRecDepth 20000 in
theorem ggX6_does_X6_others : GoodIn wsX6_does wsX6_others := goodIn_r _ [139, 6, 31, 2, 7, 140, 50, 141, 89, 142, 143, 11, 144, 145, 146, 147, 148, 14, 3, 100, 101, 102, 103, 90, 91, 92, 93, 36, 37, 38, 39, 94, 95, 96, 97, 44, 98, 99, 45, 104, 105, 106, 107, 32, 33, 34, 35, 40, 41, 42, 43, 85, 86, 87, 88, 238, 239, 240, 241, 242, 243, 244, 245, 246, 247, 248, 249, 250, 251, 252, 253, 254, 255, 256, 257, 258, 259, 260, 261, 262, 263, 264, 265, 266] (by decide +kernel) (by decide +kernel)
set_option maxRecDepth 20000 in
theorem gX6_does_X6_others : GoodIn wsX6_does (wsV RX6 279 RX6 yX6_others wsX6_others) := goodIn_app (goodIn_of _ (by decide +kernel)) ggX6_does_X6_others
set_option maxRecDepth 20000 in
theorem ggX6_does_X6_memory : GoodIn wsX6_does wsX6_memory := goodIn_r _ [152, 6, 7, 15, 16, 17, 11, 18, 85, 86, 87, 88, 31, 2, 89, 153, 154, 155, 156, 14, 157, 32, 33, 34, 35, 36, 37, 38, 39, 40, 41, 42, 43, 44, 45, 27, 28, 29, 30, 90, 91, 92, 93, 94, 95, 96, 97, 98, 99, 158, 159, 160, 161, 162, 163, 164, 165, 166, 167, 168, 3, 169, 170, 171, 172, 112, 113, 114, 115, 50, 46, 47, 48, 49, 51, 52, 53, 54, 55, 56, 57, 58, 59, 60, 61, 62, 63, 64, 65, 66, 67, 68, 69, 70, 71, 72, 73, 74, 75, 76, 77, 78, 79, 80, 173, 174, 175, 176, 238, 239, 240, 241, 242, 243, 244, 245, 246, 247, 248, 249, 250, 251, 252, 253, 254, 255, 256, 257, 258, 259, 260, 261, 262, 263, 264, 265, 266] (by decide +kernel) (by decide +kernel)
set_option maxRecDepth 20000 in
theorem gX6_does_X6_memory : GoodIn wsX6_does (wsV RX6 282 RX6 yX6_memory wsX6_memory) := goodIn_app (goodIn_of _ (by decide +kernel)) ggX6_does_X6_memory
set_option maxRecDepth 20000 in
theorem ggX6_does_X6_returnsAndMore : GoodIn wsX6_does wsX6_returnsAndMore := goodIn_r _ [180, 6, 7, 14, 25, 26, 31, 13, 50, 181, 182, 183, 11, 184, 3, 2, 104, 105, 106, 107, 32, 33, 34, 35, 36, 37, 38, 39, 40, 41, 42, 43, 44, 45, 19, 20, 21, 22, 23, 24, 27, 28, 29, 30, 15, 16, 17, 18, 81, 82, 83, 84, 85, 86, 87, 88, 89, 90, 91, 92, 93, 94, 95, 96, 97, 98, 99, 185, 186, 187, 188, 141, 100, 101, 102, 103, 112, 113, 114, 115, 238, 239, 240, 241, 242, 243, 244, 245, 246, 247, 248, 249, 250, 251, 252, 253, 254, 255, 256, 257, 258, 259, 260, 261, 262, 263, 264, 265, 266] (by decide +kernel) (by decide +kernel)
set_option maxRecDepth 20000 in
theorem gX6_does_X6_returnsAndMore : GoodIn wsX6_does (wsV RX6 285 RX6 yX6_returnsAndMore wsX6_returnsAndMore) := goodIn_app (goodIn_of _ (by decide +kernel)) ggX6_does_X6_returnsAndMore
set_option maxRecDepth 20000 in
theorem ggX6_does_X6_shiftsAndMore : GoodIn wsX6_does wsX6_shiftsAndMore := goodIn_r _ [192, 31, 6, 13, 7, 15, 16, 17, 11, 18, 19, 20, 21, 22, 23, 24, 25, 26, 27, 28, 29, 30, 32, 33, 34, 35, 36, 37, 38, 2, 39, 40, 41, 42, 43, 44, 45, 193, 194, 195, 196, 197, 198, 199, 200, 50, 58, 59, 60, 61, 62, 63, 64, 65, 66, 67, 68, 69, 70, 71, 72, 81, 82, 83, 84, 85, 86, 87, 88, 89, 90, 91, 92, 93, 94, 95, 96, 97, 98, 99, 185, 186, 187, 188, 141, 14, 3, 100, 101, 102, 103, 112, 113, 114, 115, 153, 154, 155, 156, 157, 238, 239, 240, 241, 242, 243, 244, 245, 246, 247, 248, 249, 250, 251, 252, 253, 254, 255, 256, 257, 258, 259, 260, 261, 262, 263, 264, 265, 266] (by decide +kernel) (by decide +kernel)
set_option maxRecDepth 20000 in
theorem gX6_does_X6_shiftsAndMore : GoodIn wsX6_does (wsV RX6 288 RX6 yX6_shiftsAndMore wsX6_shiftsAndMore) := goodIn_app (goodIn_of _ (by decide +kernel)) ggX6_does_X6_shiftsAndMore
set_option maxRecDepth 20000 in
theorem ggX6_does_X6_loopsAndPorts : GoodIn wsX6_does wsX6_loopsAndPorts := goodIn_r _ [204, 6, 7, 31, 2, 3, 14, 140, 15, 16, 17, 11, 18, 112, 113, 114, 115, 50, 128, 129, 130, 131, 205, 206, 207, 208, 209, 85, 86, 87, 88, 89, 210, 211, 212, 213, 100, 101, 102, 103, 90, 91, 92, 93, 36, 37, 38, 39, 94, 95, 96, 97, 44, 98, 99, 45, 238, 239, 240, 241, 242, 243, 244, 245, 246, 247, 248, 249, 250, 251, 252, 253, 254, 255, 256, 257, 258, 259, 260, 261, 262, 263, 264, 265, 266] (by decide +kernel) (by decide +kernel)
set_option maxRecDepth 20000 in
theorem gX6_does_X6_loopsAndPorts : GoodIn wsX6_does (wsV RX6 291 RX6 yX6_loopsAndPorts wsX6_loopsAndPorts) := goodIn_app (goodIn_of _ (by decide +kernel)) ggX6_does_X6_loopsAndPorts
set_option maxRecDepth 20000 in
theorem ggX6_does_X6_flagsAndMore : GoodIn wsX6_does wsX6_flagsAndMore := goodIn_r _ [217, 6, 218, 50, 219, 220, 221, 11, 222, 13, 7, 15, 16, 17, 18, 19, 20, 21, 22, 23, 24, 25, 26, 27, 28, 29, 30, 31, 32, 33, 34, 35, 36, 37, 38, 2, 39, 40, 41, 42, 43, 44, 45, 46, 47, 48, 49, 51, 52, 53, 54, 55, 56, 57, 58, 59, 60, 61, 62, 63, 64, 65, 66, 67, 68, 69, 70, 71, 72, 73, 74, 75, 76, 77, 78, 79, 80, 81, 82, 83, 84, 85, 86, 87, 88, 89, 90, 91, 92, 93, 94, 95, 96, 97, 98, 99, 223, 224, 225, 226, 227, 228, 229, 230, 231, 232, 233, 185, 186, 187, 188, 141, 14, 3, 100, 101, 102, 103, 234, 235, 236, 237, 145, 146, 147, 148, 238, 239, 240, 241, 242, 243, 244, 245, 246, 247, 248, 249, 250, 251, 252, 253, 254, 255, 256, 257, 258, 259, 260, 261, 262, 263, 264, 265, 266] (by decide +kernel) (by decide +kernel)
set_option maxRecDepth 20000 in
theorem gX6_does_X6_flagsAndMore : GoodIn wsX6_does (wsV RX6 294 RX6 yX6_flagsAndMore wsX6_flagsAndMore) := goodIn_app (goodIn_of _ (by decide +kernel)) ggX6_does_X6_flagsAndMore
theorem dX6_does_0 : decode cX6_does 0 = .ok (.aload_n 0, 1) := by decide +kernel
theorem dX6_does_1 : decode cX6_does 1 = .ok (.aload_n 0, 1) := by decide +kernel
theorem dX6_does_2 : decode cX6_does 2 = .ok (.getfield 114, 3) := by decide +kernel
theorem dX6_does_5 : decode cX6_does 5 = .ok (.ldc 39, 2) := by decide +kernel
theorem dX6_does_7 : decode cX6_does 7 = .ok (.iand, 1) := by decide +kernel
theorem dX6_does_8 : decode cX6_does 8 = .ok (.putfield 170, 3) := by decide +kernel
theorem dX6_does_11 : decode cX6_does 11 = .ok (.aload_n 0, 1) := by decide +kernel
theorem dX6_does_12 : decode cX6_does 12 = .ok (.iconst 0, 1) := by decide +kernel
theorem dX6_does_13 : decode cX6_does 13 = .ok (.putfield 209, 3) := by decide +kernel
theorem dX6_does_16 : decode cX6_does 16 = .ok (.aload_n 0, 1) := by decide +kernel
theorem dX6_does_17 : decode cX6_does 17 = .ok (.iconst 0, 1) := by decide +kernel
theorem dX6_does_18 : decode cX6_does 18 = .ok (.putfield 264, 3) := by decide +kernel
theorem dX6_does_21 : decode cX6_does 21 = .ok (.aload_n 0, 1) := by decide +kernel
theorem dX6_does_22 : decode cX6_does 22 = .ok (.getfield 148, 3) := by decide +kernel
theorem dX6_does_25 : decode cX6_does 25 = .ok (.bipush 64, 2) := by decide +kernel
theorem dX6_does_27 : decode cX6_does 27 = .ok (.if_icmp .ge 10, 3) := by decide +kernel
theorem dX6_does_30 : decode cX6_does 30 = .ok (.aload_n 0, 1) := by decide +kernel
theorem dX6_does_31 : decode cX6_does 31 = .ok (.invokevirtual 267, 3) := by decide +kernel
theorem dX6_does_34 : decode cX6_does 34 = .ok (.goto 164, 3) := by decide +kernel
theorem dX6_does_37 : decode cX6_does 37 = .ok (.aload_n 0, 1) := by decide +kernel
theorem dX6_does_38 : decode cX6_does 38 = .ok (.getfield 148, 3) := by decide +kernel
theorem dX6_does_41 : decode cX6_does 41 = .ok (.bipush 96, 2) := by decide +kernel
theorem dX6_does_43 : decode cX6_does 43 = .ok (.if_icmp .ge 10, 3) := by decide +kernel
theorem dX6_does_46 : decode cX6_does 46 = .ok (.aload_n 0, 1) := by decide +kernel
theorem dX6_does_47 : decode cX6_does 47 = .ok (.invokevirtual 270, 3) := by decide +kernel
theorem dX6_does_50 : decode cX6_does 50 = .ok (.goto 148, 3) := by decide +kernel
theorem dX6_does_53 : decode cX6_does 53 = .ok (.aload_n 0, 1) := by decide +kernel
theorem dX6_does_54 : decode cX6_does 54 = .ok (.getfield 148, 3) := by decide +kernel
theorem dX6_does_57 : decode cX6_does 57 = .ok (.sipush 128, 3) := by decide +kernel
theorem dX6_does_60 : decode cX6_does 60 = .ok (.if_icmp .ge 32, 3) := by decide +kernel
theorem dX6_does_63 : decode cX6_does 63 = .ok (.aload_n 0, 1) := by decide +kernel
theorem dX6_does_64 : decode cX6_does 64 = .ok (.aload_n 0, 1) := by decide +kernel
theorem dX6_does_65 : decode cX6_does 65 = .ok (.aload_n 0, 1) := by decide +kernel
theorem dX6_does_66 : decode cX6_does 66 = .ok (.getfield 148, 3) := by decide +kernel
theorem dX6_does_69 : decode cX6_does 69 = .ok (.bipush 15, 2) := by decide +kernel
theorem dX6_does_71 : decode cX6_does 71 = .ok (.iand, 1) := by decide +kernel
theorem dX6_does_72 : decode cX6_does 72 = .ok (.invokevirtual 273, 3) := by decide +kernel
theorem dX6_does_75 : decode cX6_does 75 = .ok (.ifCond .eq 10, 3) := by decide +kernel
theorem dX6_does_78 : decode cX6_does 78 = .ok (.aload_n 0, 1) := by decide +kernel
theorem dX6_does_79 : decode cX6_does 79 = .ok (.getfield 164, 3) := by decide +kernel
theorem dX6_does_82 : decode cX6_does 82 = .ok (.goto 4, 3) := by decide +kernel
theorem dX6_does_85 : decode cX6_does 85 = .ok (.iconst 0, 1) := by decide +kernel
theorem dX6_does_86 : decode cX6_does 86 = .ok (.invokevirtual 238, 3) := by decide +kernel
theorem dX6_does_89 : decode cX6_does 89 = .ok (.goto 109, 3) := by decide +kernel
theorem dX6_does_92 : decode cX6_does 92 = .ok (.aload_n 0, 1) := by decide +kernel
theorem dX6_does_93 : decode cX6_does 93 = .ok (.getfield 148, 3) := by decide +kernel
theorem dX6_does_96 : decode cX6_does 96 = .ok (.sipush 144, 3) := by decide +kernel
theorem dX6_does_99 : decode cX6_does 99 = .ok (.if_icmp .ge 10, 3) := by decide +kernel
theorem dX6_does_102 : decode cX6_does 102 = .ok (.aload_n 0, 1) := by decide +kernel
theorem dX6_does_103 : decode cX6_does 103 = .ok (.invokevirtual 276, 3) := by decide +kernel
theorem dX6_does_106 : decode cX6_does 106 = .ok (.goto 92, 3) := by decide +kernel
theorem dX6_does_109 : decode cX6_does 109 = .ok (.aload_n 0, 1) := by decide +kernel
theorem dX6_does_110 : decode cX6_does 110 = .ok (.getfield 148, 3) := by decide +kernel
theorem dX6_does_113 : decode cX6_does 113 = .ok (.sipush 160, 3) := by decide +kernel
theorem dX6_does_116 : decode cX6_does 116 = .ok (.if_icmp .ge 10, 3) := by decide +kernel
theorem dX6_does_119 : decode cX6_does 119 = .ok (.aload_n 0, 1) := by decide +kernel
theorem dX6_does_120 : decode cX6_does 120 = .ok (.invokevirtual 279, 3) := by decide +kernel
theorem dX6_does_123 : decode cX6_does 123 = .ok (.goto 75, 3) := by decide +kernel
theorem dX6_does_126 : decode cX6_does 126 = .ok (.aload_n 0, 1) := by decide +kernel
theorem dX6_does_127 : decode cX6_does 127 = .ok (.getfield 148, 3) := by decide +kernel
theorem dX6_does_130 : decode cX6_does 130 = .ok (.sipush 192, 3) := by decide +kernel
theorem dX6_does_133 : decode cX6_does 133 = .ok (.if_icmp .ge 10, 3) := by decide +kernel
theorem dX6_does_136 : decode cX6_does 136 = .ok (.aload_n 0, 1) := by decide +kernel
theorem dX6_does_137 : decode cX6_does 137 = .ok (.invokevirtual 282, 3) := by decide +kernel
theorem dX6_does_140 : decode cX6_does 140 = .ok (.goto 58, 3) := by decide +kernel
theorem dX6_does_143 : decode cX6_does 143 = .ok (.aload_n 0, 1) := by decide +kernel
theorem dX6_does_144 : decode cX6_does 144 = .ok (.getfield 148, 3) := by decide +kernel
theorem dX6_does_147 : decode cX6_does 147 = .ok (.sipush 208, 3) := by decide +kernel
theorem dX6_does_150 : decode cX6_does 150 = .ok (.if_icmp .ge 10, 3) := by decide +kernel
theorem dX6_does_153 : decode cX6_does 153 = .ok (.aload_n 0, 1) := by decide +kernel
theorem dX6_does_154 : decode cX6_does 154 = .ok (.invokevirtual 285, 3) := by decide +kernel
theorem dX6_does_157 : decode cX6_does 157 = .ok (.goto 41, 3) := by decide +kernel
theorem dX6_does_160 : decode cX6_does 160 = .ok (.aload_n 0, 1) := by decide +kernel
theorem dX6_does_161 : decode cX6_does 161 = .ok (.getfield 148, 3) := by decide +kernel
theorem dX6_does_164 : decode cX6_does 164 = .ok (.sipush 224, 3) := by decide +kernel
theorem dX6_does_167 : decode cX6_does 167 = .ok (.if_icmp .ge 10, 3) := by decide +kernel
theorem dX6_does_170 : decode cX6_does 170 = .ok (.aload_n 0, 1) := by decide +kernel
theorem dX6_does_171 : decode cX6_does 171 = .ok (.invokevirtual 288, 3) := by decide +kernel
theorem dX6_does_174 : decode cX6_does 174 = .ok (.goto 24, 3) := by decide +kernel
theorem dX6_does_177 : decode cX6_does 177 = .ok (.aload_n 0, 1) := by decide +kernel
theorem dX6_does_178 : decode cX6_does 178 = .ok (.getfield 148, 3) := by decide +kernel
theorem dX6_does_181 : decode cX6_does 181 = .ok (.sipush 240, 3) := by decide +kernel
theorem dX6_does_184 : decode cX6_does 184 = .ok (.if_icmp .ge 10, 3) := by decide +kernel
theorem dX6_does_187 : decode cX6_does 187 = .ok (.aload_n 0, 1) := by decide +kernel
theorem dX6_does_188 : decode cX6_does 188 = .ok (.invokevirtual 291, 3) := by decide +kernel
theorem dX6_does_191 : decode cX6_does 191 = .ok (.goto 7, 3) := by decide +kernel
theorem dX6_does_194 : decode cX6_does 194 = .ok (.aload_n 0, 1) := by decide +kernel
theorem dX6_does_195 : decode cX6_does 195 = .ok (.invokevirtual 294, 3) := by decide +kernel
theorem dX6_does_198 : decode cX6_does 198 = .ok (.return_, 1) := by decide +kernel
set_option maxRecDepth 20000 in
theorem ggX6_interruptStep_X6_interrupt : GoodIn wsX6_interruptStep wsX6_interrupt := goodIn_r _ [9, 10, 11, 12, 13, 14, 15, 16, 8, 17, 18, 19, 20, 21, 22, 23, 24, 25, 26, 27, 28, 29, 30, 31, 32, 33, 34, 35, 36, 37, 38, 39, 40, 41, 42, 43, 44, 45, 46, 47, 48, 49, 50, 51, 52, 53, 54, 55, 56, 57, 58, 59, 60, 61, 62, 63, 64, 65, 66, 67, 68, 69, 70, 71, 72] (by decide +kernel) (by decide +kernel)
set_option maxRecDepth 20000 in
theorem gX6_interruptStep_X6_interrupt : GoodIn wsX6_interruptStep (wsV RX6 232 RX6 yX6_interrupt wsX6_interrupt) := goodIn_app (goodIn_of _ (by decide +kernel)) ggX6_interruptStep_X6_interrupt
theorem dX6_interruptStep_0 : decode cX6_interruptStep 0 = .ok (.aload_n 0, 1) := by decide +kernel
theorem dX6_interruptStep_1 : decode cX6_interruptStep 1 = .ok (.iload_n 1, 1) := by decide +kernel
theorem dX6_interruptStep_2 : decode cX6_interruptStep 2 = .ok (.invokevirtual 232, 3) := by decide +kernel
theorem dX6_interruptStep_5 : decode cX6_interruptStep 5 = .ok (.aload_n 0, 1) := by decide +kernel
theorem dX6_interruptStep_6 : decode cX6_interruptStep 6 = .ok (.iconst 0, 1) := by decide +kernel
theorem dX6_interruptStep_7 : decode cX6_interruptStep 7 = .ok (.putfield 255, 3) := by decide +kernel
theorem dX6_interruptStep_10 : decode cX6_interruptStep 10 = .ok (.aload_n 0, 1) := by decide +kernel
theorem dX6_interruptStep_11 : decode cX6_interruptStep 11 = .ok (.iconst 0, 1) := by decide +kernel
theorem dX6_interruptStep_12 : decode cX6_interruptStep 12 = .ok (.putfield 209, 3) := by decide +kernel
theorem dX6_interruptStep_15 : decode cX6_interruptStep 15 = .ok (.aload_n 0, 1) := by decide +kernel
theorem dX6_interruptStep_16 : decode cX6_interruptStep 16 = .ok (.iconst 1, 1) := by decide +kernel
theorem dX6_interruptStep_17 : decode cX6_interruptStep 17 = .ok (.putfield 264, 3) := by decide +kernel
theorem dX6_interruptStep_20 : decode cX6_interruptStep 20 = .ok (.aload_n 0, 1) := by decide +kernel
theorem dX6_interruptStep_21 : decode cX6_interruptStep 21 = .ok (.dup, 1) := by decide +kernel
theorem dX6_interruptStep_22 : decode cX6_interruptStep 22 = .ok (.getfield 297, 3) := by decide +kernel
theorem dX6_interruptStep_25 : decode cX6_interruptStep 25 = .ok (.iconst 1, 1) := by decide +kernel
theorem dX6_interruptStep_26 : decode cX6_interruptStep 26 = .ok (.iadd, 1) := by decide +kernel
theorem dX6_interruptStep_27 : decode cX6_interruptStep 27 = .ok (.putfield 297, 3) := by decide +kernel
theorem dX6_interruptStep_30 : decode cX6_interruptStep 30 = .ok (.return_, 1) := by decide +kernel
set_option maxRecDepth 20000 in
theorem ggX6_step_X6_has : GoodIn wsX6_step wsX6_has := goodIn_r _ [11, 12, 277, 278, 279, 280, 281, 282, 283, 284, 285, 286, 287, 288, 289, 290, 291, 292, 293, 294, 295, 296, 297, 298, 299, 300, 301, 302, 303, 304, 305] (by decide +kernel) (by decide +kernel)
set_option maxRecDepth 20000 in
theorem gX6_step_X6_has : GoodIn wsX6_step (wsV RX6 97 RX6 yX6_has wsX6_has) := goodIn_app (goodIn_of _ (by decide +kernel)) ggX6_step_X6_has
set_option maxRecDepth 20000 in
theorem ggX6_step_X6_interruptStep : GoodIn wsX6_step wsX6_interruptStep := goodIn_r _ [16, 5, 2, 3, 6, 17, 18, 19, 10, 20, 12, 21, 22, 23, 24, 25, 26, 27, 28, 29, 30, 31, 32, 33, 34, 35, 36, 37, 38, 39, 40, 41, 42, 43, 44, 45, 46, 47, 48, 49, 50, 51, 52, 53, 277, 278, 279, 280, 281, 282, 283, 284, 285, 286, 287, 288, 289, 290, 291, 292, 293, 294, 295, 296, 297, 298, 299, 300, 301, 302, 303, 304, 305] (by decide +kernel) (by decide +kernel)
set_option maxRecDepth 20000 in
theorem gX6_step_X6_interruptStep : GoodIn wsX6_step (wsV RX6 303 RX6 yX6_interruptStep wsX6_interruptStep) := goodIn_app (goodIn_of _ (by decide +kernel)) ggX6_step_X6_interruptStep
set_option maxRecDepth 20000 in
theorem ggX6_step_X6_decode : GoodIn wsX6_step wsX6_decode := goodIn_r _ [57, 23, 58, 59, 60, 61, 62, 63, 64, 65, 10, 66, 22, 34, 35, 36, 29, 37, 50, 51, 52, 53, 42, 45, 67, 68, 69, 70, 71, 72, 73, 74, 75, 76, 77, 78, 79, 80, 81, 82, 83, 28, 84, 85, 86, 87, 88, 89, 90, 91, 92, 93, 94, 95, 96, 97, 98, 99, 100, 101, 102, 103, 104, 277, 278, 279, 280, 281, 282, 283, 284, 285, 286, 287, 288, 289, 290, 291, 292, 293, 294, 295, 296, 297, 298, 299, 300, 301, 302, 303, 304, 305] (by decide +kernel) (by decide +kernel)
set_option maxRecDepth 20000 in
theorem gX6_step_X6_decode : GoodIn wsX6_step (wsV RX6 306 RX6 yX6_decode wsX6_decode) := goodIn_app (goodIn_of _ (by decide +kernel)) ggX6_step_X6_decode
set_option maxRecDepth 20000 in
theorem ggX6_step_X6_does : GoodIn wsX6_step wsX6_does := goodIn_r _ [108, 59, 29, 23, 2, 3, 62, 71, 109, 110, 111, 10, 112, 73, 22, 97, 98, 99, 100, 113, 114, 115, 116, 74, 83, 85, 84, 117, 118, 119, 120, 28, 46, 47, 48, 49, 34, 35, 36, 37, 50, 51, 52, 53, 42, 45, 121, 122, 123, 124, 12, 125, 126, 127, 128, 129, 130, 131, 132, 133, 134, 135, 136, 137, 138, 139, 140, 141, 142, 143, 144, 145, 146, 147, 148, 149, 150, 151, 152, 153, 154, 155, 156, 157, 158, 159, 160, 161, 162, 163, 30, 31, 32, 33, 38, 39, 40, 41, 43, 44, 24, 25, 26, 27, 164, 165, 166, 167, 168, 169, 170, 171, 7, 8, 9, 11, 172, 173, 174, 175, 176, 177, 178, 179, 180, 181, 182, 183, 184, 185, 186, 187, 188, 189, 190, 191, 192, 193, 194, 195, 72, 21, 90, 91, 92, 196, 197, 198, 199, 200, 201, 202, 203, 93, 94, 95, 96, 60, 204, 205, 206, 207, 208, 209, 210, 211, 61, 212, 58, 213, 214, 215, 216, 217, 218, 219, 220, 221, 222, 223, 224, 225, 226, 227, 228, 17, 18, 19, 20, 229, 230, 231, 232, 233, 234, 235, 236, 237, 238, 239, 240, 241, 242, 243, 244, 245, 246, 247, 248, 249, 250, 251, 252, 253, 254, 255, 256, 257, 5, 258, 259, 260, 261, 262, 263, 264, 265, 266, 267, 268, 269, 270, 271, 272, 273, 274, 275, 276, 277, 278, 279, 280, 281, 282, 283, 284, 285, 286, 287, 288, 289, 290, 291, 292, 293, 294, 295, 296, 297, 298, 299, 300, 301, 302, 303, 304, 305] (by decide +kernel) (by decide +kernel)
set_option maxRecDepth 20000 in
theorem gX6_step_X6_does : GoodIn wsX6_step (wsV RX6 309 RX6 yX6_does wsX6_does) := goodIn_app (goodIn_of _ (by decide +kernel)) ggX6_step_X6_does
theorem dX6_step_0 : decode cX6_step 0 = .ok (.aload_n 0, 1) := by decide +kernel
theorem dX6_step_1 : decode cX6_step 1 = .ok (.getfield 300, 3) := by decide +kernel
theorem dX6_step_4 : decode cX6_step 4 = .ok (.ifCond .eq 35, 3) := by decide +kernel
theorem dX6_step_7 : decode cX6_step 7 = .ok (.aload_n 0, 1) := by decide +kernel
theorem dX6_step_8 : decode cX6_step 8 = .ok (.getfield 209, 3) := by decide +kernel
theorem dX6_step_11 : decode cX6_step 11 = .ok (.ifCond .ne 28, 3) := by decide +kernel
theorem dX6_step_14 : decode cX6_step 14 = .ok (.aload_n 0, 1) := by decide +kernel
theorem dX6_step_15 : decode cX6_step 15 = .ok (.getfield 264, 3) := by decide +kernel
theorem dX6_step_18 : decode cX6_step 18 = .ok (.ifCond .ne 21, 3) := by decide +kernel
theorem dX6_step_21 : decode cX6_step 21 = .ok (.aload_n 0, 1) := by decide +kernel
theorem dX6_step_22 : decode cX6_step 22 = .ok (.aload_n 0, 1) := by decide +kernel
theorem dX6_step_23 : decode cX6_step 23 = .ok (.sipush 256, 3) := by decide +kernel
theorem dX6_step_26 : decode cX6_step 26 = .ok (.invokevirtual 97, 3) := by decide +kernel
theorem dX6_step_29 : decode cX6_step 29 = .ok (.putfield 300, 3) := by decide +kernel
theorem dX6_step_32 : decode cX6_step 32 = .ok (.aload_n 0, 1) := by decide +kernel
theorem dX6_step_33 : decode cX6_step 33 = .ok (.iconst 1, 1) := by decide +kernel
theorem dX6_step_34 : decode cX6_step 34 = .ok (.invokevirtual 303, 3) := by decide +kernel
theorem dX6_step_37 : decode cX6_step 37 = .ok (.iconst 0, 1) := by decide +kernel
theorem dX6_step_38 : decode cX6_step 38 = .ok (.ireturn, 1) := by decide +kernel
theorem dX6_step_39 : decode cX6_step 39 = .ok (.aload_n 0, 1) := by decide +kernel
theorem dX6_step_40 : decode cX6_step 40 = .ok (.getfield 26, 3) := by decide +kernel
theorem dX6_step_43 : decode cX6_step 43 = .ok (.ifCond .lt 48, 3) := by decide +kernel
theorem dX6_step_46 : decode cX6_step 46 = .ok (.aload_n 0, 1) := by decide +kernel
theorem dX6_step_47 : decode cX6_step 47 = .ok (.sipush 512, 3) := by decide +kernel
theorem dX6_step_50 : decode cX6_step 50 = .ok (.invokevirtual 97, 3) := by decide +kernel
theorem dX6_step_53 : decode cX6_step 53 = .ok (.ifCond .eq 38, 3) := by decide +kernel
theorem dX6_step_56 : decode cX6_step 56 = .ok (.aload_n 0, 1) := by decide +kernel
theorem dX6_step_57 : decode cX6_step 57 = .ok (.getfield 209, 3) := by decide +kernel
theorem dX6_step_60 : decode cX6_step 60 = .ok (.ifCond .ne 31, 3) := by decide +kernel
theorem dX6_step_63 : decode cX6_step 63 = .ok (.aload_n 0, 1) := by decide +kernel
theorem dX6_step_64 : decode cX6_step 64 = .ok (.getfield 26, 3) := by decide +kernel
theorem dX6_step_67 : decode cX6_step 67 = .ok (.istore_n 1, 1) := by decide +kernel
theorem dX6_step_68 : decode cX6_step 68 = .ok (.aload_n 0, 1) := by decide +kernel
theorem dX6_step_69 : decode cX6_step 69 = .ok (.iconst (-1), 1) := by decide +kernel
theorem dX6_step_70 : decode cX6_step 70 = .ok (.putfield 26, 3) := by decide +kernel
theorem dX6_step_73 : decode cX6_step 73 = .ok (.aload_n 0, 1) := by decide +kernel
theorem dX6_step_74 : decode cX6_step 74 = .ok (.aload_n 0, 1) := by decide +kernel
theorem dX6_step_75 : decode cX6_step 75 = .ok (.sipush 256, 3) := by decide +kernel
theorem dX6_step_78 : decode cX6_step 78 = .ok (.invokevirtual 97, 3) := by decide +kernel
theorem dX6_step_81 : decode cX6_step 81 = .ok (.putfield 300, 3) := by decide +kernel
theorem dX6_step_84 : decode cX6_step 84 = .ok (.aload_n 0, 1) := by decide +kernel
theorem dX6_step_85 : decode cX6_step 85 = .ok (.iload_n 1, 1) := by decide +kernel
theorem dX6_step_86 : decode cX6_step 86 = .ok (.invokevirtual 303, 3) := by decide +kernel
theorem dX6_step_89 : decode cX6_step 89 = .ok (.iconst 0, 1) := by decide +kernel
theorem dX6_step_90 : decode cX6_step 90 = .ok (.ireturn, 1) := by decide +kernel
theorem dX6_step_91 : decode cX6_step 91 = .ok (.aload_n 0, 1) := by decide +kernel
theorem dX6_step_92 : decode cX6_step 92 = .ok (.getfield 255, 3) := by decide +kernel
theorem dX6_step_95 : decode cX6_step 95 = .ok (.ifCond .eq 5, 3) := by decide +kernel
theorem dX6_step_98 : decode cX6_step 98 = .ok (.iconst 1, 1) := by decide +kernel
theorem dX6_step_99 : decode cX6_step 99 = .ok (.ireturn, 1) := by decide +kernel
theorem dX6_step_100 : decode cX6_step 100 = .ok (.aload_n 0, 1) := by decide +kernel
theorem dX6_step_101 : decode cX6_step 101 = .ok (.invokevirtual 306, 3) := by decide +kernel
theorem dX6_step_104 : decode cX6_step 104 = .ok (.ifCond .ne 5, 3) := by decide +kernel
theorem dX6_step_107 : decode cX6_step 107 = .ok (.iconst 2, 1) := by decide +kernel
theorem dX6_step_108 : decode cX6_step 108 = .ok (.ireturn, 1) := by decide +kernel
theorem dX6_step_109 : decode cX6_step 109 = .ok (.aload_n 0, 1) := by decide +kernel
theorem dX6_step_110 : decode cX6_step 110 = .ok (.aload_n 0, 1) := by decide +kernel
theorem dX6_step_111 : decode cX6_step 111 = .ok (.sipush 256, 3) := by decide +kernel
theorem dX6_step_114 : decode cX6_step 114 = .ok (.invokevirtual 97, 3) := by decide +kernel
theorem dX6_step_117 : decode cX6_step 117 = .ok (.putfield 300, 3) := by decide +kernel
theorem dX6_step_120 : decode cX6_step 120 = .ok (.aload_n 0, 1) := by decide +kernel
theorem dX6_step_121 : decode cX6_step 121 = .ok (.invokevirtual 309, 3) := by decide +kernel
theorem dX6_step_124 : decode cX6_step 124 = .ok (.aload_n 0, 1) := by decide +kernel
theorem dX6_step_125 : decode cX6_step 125 = .ok (.dup, 1) := by decide +kernel
theorem dX6_step_126 : decode cX6_step 126 = .ok (.getfield 297, 3) := by decide +kernel
theorem dX6_step_129 : decode cX6_step 129 = .ok (.iconst 1, 1) := by decide +kernel
theorem dX6_step_130 : decode cX6_step 130 = .ok (.iadd, 1) := by decide +kernel
theorem dX6_step_131 : decode cX6_step 131 = .ok (.putfield 297, 3) := by decide +kernel
theorem dX6_step_134 : decode cX6_step 134 = .ok (.iconst 0, 1) := by decide +kernel
theorem dX6_step_135 : decode cX6_step 135 = .ok (.ireturn, 1) := by decide +kernel
set_option maxRecDepth 20000 in
theorem ggX6_run_X6_step : GoodIn wsX6_run wsX6_step := goodIn_r _ [6, 7, 8, 9, 10, 11, 12, 13, 14, 15, 5, 16, 17, 18, 19, 20, 21, 22, 23, 24, 25, 26, 27, 28, 29, 30, 31, 32, 33, 34, 35, 36, 37, 38, 39, 40, 41, 42, 43, 44, 45, 46, 47, 48, 49, 50, 51, 52, 53, 54, 55, 56, 57, 58, 59, 60, 61, 62, 63, 64, 65, 66, 67, 68, 69, 70, 71, 72, 73, 74, 75, 76, 77, 78, 79, 80, 81, 82, 83, 84, 85, 86, 87, 88, 89, 90, 91, 92, 93, 94, 95, 96, 97, 98, 99, 100, 101, 102, 103, 104, 105, 106, 107, 108, 109, 110, 111, 112, 113, 114, 115, 116, 117, 118, 119, 120, 121, 122, 123, 124, 125, 126, 127, 128, 129, 130, 131, 132, 133, 134, 135, 136, 137, 138, 139, 140, 141, 142, 143, 144, 145, 146, 147, 148, 149, 150, 151, 152, 153, 154, 155, 156, 157, 158, 159, 160, 161, 162, 163, 164, 165, 166, 167, 168, 169, 170, 171, 172, 173, 174, 175, 176, 177, 178, 179, 180, 181, 182, 183, 184, 185, 186, 187, 188, 189, 190, 191, 192, 193, 194, 195, 196, 197, 198, 199, 200, 201, 202, 203, 204, 205, 206, 207, 208, 209, 210, 211, 212, 213, 214, 215, 216, 217, 218, 219, 220, 221, 222, 223, 224, 225, 226, 227, 228, 229, 230, 231, 232, 233, 234, 235, 236, 237, 238, 239, 240, 241, 242, 243, 244, 245, 246, 247, 248, 249, 250, 251, 252, 253, 254, 255, 256, 257, 258, 259, 260, 261, 262, 263, 264, 265, 266, 267, 268, 269, 270, 271, 272, 273, 274, 275, 276, 277, 278, 279, 280, 281, 282, 283, 284, 285, 286, 287, 288, 289, 290, 291, 292, 293, 294, 295, 296, 297, 298, 299, 300, 301, 302, 303, 304, 305, 306, 307, 308, 309, 310] (by decide +kernel) (by decide +kernel)
set_option maxRecDepth 20000 in
theorem gX6_run_X6_step : GoodIn wsX6_run (wsV RX6 312 RX6 yX6_step wsX6_step) := goodIn_app (goodIn_of _ (by decide +kernel)) ggX6_run_X6_step
theorem dX6_run_0 : decode cX6_run 0 = .ok (.aload_n 0, 1) := by decide +kernel
theorem dX6_run_1 : decode cX6_run 1 = .ok (.iload_n 1, 1) := by decide +kernel
theorem dX6_run_2 : decode cX6_run 2 = .ok (.ifCond .lt 10, 3) := by decide +kernel
theorem dX6_run_5 : decode cX6_run 5 = .ok (.iload_n 1, 1) := by decide +kernel
theorem dX6_run_6 : decode cX6_run 6 = .ok (.sipush 500, 3) := by decide +kernel
theorem dX6_run_9 : decode cX6_run 9 = .ok (.if_icmp .le 7, 3) := by decide +kernel
theorem dX6_run_12 : decode cX6_run 12 = .ok (.iconst 1, 1) := by decide +kernel
theorem dX6_run_13 : decode cX6_run 13 = .ok (.goto 4, 3) := by decide +kernel
theorem dX6_run_16 : decode cX6_run 16 = .ok (.iconst 0, 1) := by decide +kernel
theorem dX6_run_17 : decode cX6_run 17 = .ok (.putfield 30, 3) := by decide +kernel
theorem dX6_run_20 : decode cX6_run 20 = .ok (.iconst 0, 1) := by decide +kernel
theorem dX6_run_21 : decode cX6_run 21 = .ok (.istore_n 2, 1) := by decide +kernel
theorem dX6_run_22 : decode cX6_run 22 = .ok (.iconst 0, 1) := by decide +kernel
theorem dX6_run_23 : decode cX6_run 23 = .ok (.istore_n 3, 1) := by decide +kernel
theorem dX6_run_24 : decode cX6_run 24 = .ok (.iload_n 3, 1) := by decide +kernel
theorem dX6_run_25 : decode cX6_run 25 = .ok (.iload_n 1, 1) := by decide +kernel
theorem dX6_run_26 : decode cX6_run 26 = .ok (.if_icmp .ge 25, 3) := by decide +kernel
theorem dX6_run_29 : decode cX6_run 29 = .ok (.aload_n 0, 1) := by decide +kernel
theorem dX6_run_30 : decode cX6_run 30 = .ok (.getfield 30, 3) := by decide +kernel
theorem dX6_run_33 : decode cX6_run 33 = .ok (.ifCond .ne 18, 3) := by decide +kernel
theorem dX6_run_36 : decode cX6_run 36 = .ok (.iload_n 2, 1) := by decide +kernel
theorem dX6_run_37 : decode cX6_run 37 = .ok (.ifCond .ne 14, 3) := by decide +kernel
theorem dX6_run_40 : decode cX6_run 40 = .ok (.aload_n 0, 1) := by decide +kernel
theorem dX6_run_41 : decode cX6_run 41 = .ok (.invokevirtual 312, 3) := by decide +kernel
theorem dX6_run_44 : decode cX6_run 44 = .ok (.istore_n 2, 1) := by decide +kernel
theorem dX6_run_45 : decode cX6_run 45 = .ok (.iinc 3 1, 3) := by decide +kernel
theorem dX6_run_48 : decode cX6_run 48 = .ok (.goto (-24), 3) := by decide +kernel
theorem dX6_run_51 : decode cX6_run 51 = .ok (.iload_n 2, 1) := by decide +kernel
theorem dX6_run_52 : decode cX6_run 52 = .ok (.ireturn, 1) := by decide +kernel
theorem dX6_set_0 : decode cX6_set 0 = .ok (.aload_n 0, 1) := by decide +kernel
theorem dX6_set_1 : decode cX6_set 1 = .ok (.iload_n 1, 1) := by decide +kernel
theorem dX6_set_2 : decode cX6_set 2 = .ok (.ifCond .lt 9, 3) := by decide +kernel
theorem dX6_set_5 : decode cX6_set 5 = .ok (.iload_n 1, 1) := by decide +kernel
theorem dX6_set_6 : decode cX6_set 6 = .ok (.bipush 13, 2) := by decide +kernel
theorem dX6_set_8 : decode cX6_set 8 = .ok (.if_icmp .le 7, 3) := by decide +kernel
theorem dX6_set_11 : decode cX6_set 11 = .ok (.iconst 1, 1) := by decide +kernel
theorem dX6_set_12 : decode cX6_set 12 = .ok (.goto 4, 3) := by decide +kernel
theorem dX6_set_15 : decode cX6_set 15 = .ok (.iconst 0, 1) := by decide +kernel
theorem dX6_set_16 : decode cX6_set 16 = .ok (.putfield 30, 3) := by decide +kernel
theorem dX6_set_19 : decode cX6_set 19 = .ok (.aload_n 0, 1) := by decide +kernel
theorem dX6_set_20 : decode cX6_set 20 = .ok (.getfield 30, 3) := by decide +kernel
theorem dX6_set_23 : decode cX6_set 23 = .ok (.ifCond .le 4, 3) := by decide +kernel
theorem dX6_set_26 : decode cX6_set 26 = .ok (.return_, 1) := by decide +kernel
theorem dX6_set_27 : decode cX6_set 27 = .ok (.iload_n 1, 1) := by decide +kernel
theorem dX6_set_28 : decode cX6_set 28 = .ok (.bipush 8, 2) := by decide +kernel
theorem dX6_set_30 : decode cX6_set 30 = .ok (.if_icmp .ge 16, 3) := by decide +kernel
theorem dX6_set_33 : decode cX6_set 33 = .ok (.aload_n 0, 1) := by decide +kernel
theorem dX6_set_34 : decode cX6_set 34 = .ok (.getfield 7, 3) := by decide +kernel
theorem dX6_set_37 : decode cX6_set 37 = .ok (.iload_n 1, 1) := by decide +kernel
theorem dX6_set_38 : decode cX6_set 38 = .ok (.iload_n 2, 1) := by decide +kernel
theorem dX6_set_39 : decode cX6_set 39 = .ok (.ldc 39, 2) := by decide +kernel
theorem dX6_set_41 : decode cX6_set 41 = .ok (.iand, 1) := by decide +kernel
theorem dX6_set_42 : decode cX6_set 42 = .ok (.iastore, 1) := by decide +kernel
theorem dX6_set_43 : decode cX6_set 43 = .ok (.goto 51, 3) := by decide +kernel
theorem dX6_set_46 : decode cX6_set 46 = .ok (.iload_n 1, 1) := by decide +kernel
theorem dX6_set_47 : decode cX6_set 47 = .ok (.bipush 12, 2) := by decide +kernel
theorem dX6_set_49 : decode cX6_set 49 = .ok (.if_icmp .ge 19, 3) := by decide +kernel
theorem dX6_set_52 : decode cX6_set 52 = .ok (.aload_n 0, 1) := by decide +kernel
theorem dX6_set_53 : decode cX6_set 53 = .ok (.getfield 13, 3) := by decide +kernel
theorem dX6_set_56 : decode cX6_set 56 = .ok (.iload_n 1, 1) := by decide +kernel
theorem dX6_set_57 : decode cX6_set 57 = .ok (.bipush 8, 2) := by decide +kernel
theorem dX6_set_59 : decode cX6_set 59 = .ok (.isub, 1) := by decide +kernel
theorem dX6_set_60 : decode cX6_set 60 = .ok (.iload_n 2, 1) := by decide +kernel
theorem dX6_set_61 : decode cX6_set 61 = .ok (.ldc 39, 2) := by decide +kernel
theorem dX6_set_63 : decode cX6_set 63 = .ok (.iand, 1) := by decide +kernel
theorem dX6_set_64 : decode cX6_set 64 = .ok (.iastore, 1) := by decide +kernel
theorem dX6_set_65 : decode cX6_set 65 = .ok (.goto 29, 3) := by decide +kernel
theorem dX6_set_68 : decode cX6_set 68 = .ok (.iload_n 1, 1) := by decide +kernel
theorem dX6_set_69 : decode cX6_set 69 = .ok (.bipush 12, 2) := by decide +kernel
theorem dX6_set_71 : decode cX6_set 71 = .ok (.if_icmp .ne 14, 3) := by decide +kernel
theorem dX6_set_74 : decode cX6_set 74 = .ok (.aload_n 0, 1) := by decide +kernel
theorem dX6_set_75 : decode cX6_set 75 = .ok (.iload_n 2, 1) := by decide +kernel
theorem dX6_set_76 : decode cX6_set 76 = .ok (.ldc 39, 2) := by decide +kernel
theorem dX6_set_78 : decode cX6_set 78 = .ok (.iand, 1) := by decide +kernel
theorem dX6_set_79 : decode cX6_set 79 = .ok (.putfield 170, 3) := by decide +kernel
theorem dX6_set_82 : decode cX6_set 82 = .ok (.goto 12, 3) := by decide +kernel
theorem dX6_set_85 : decode cX6_set 85 = .ok (.aload_n 0, 1) := by decide +kernel
theorem dX6_set_86 : decode cX6_set 86 = .ok (.iload_n 2, 1) := by decide +kernel
theorem dX6_set_87 : decode cX6_set 87 = .ok (.sipush 4053, 3) := by decide +kernel
theorem dX6_set_90 : decode cX6_set 90 = .ok (.iand, 1) := by decide +kernel
theorem dX6_set_91 : decode cX6_set 91 = .ok (.putfield 54, 3) := by decide +kernel
theorem dX6_set_94 : decode cX6_set 94 = .ok (.return_, 1) := by decide +kernel
theorem dX6_get__0 : decode cX6_get_ 0 = .ok (.aload_n 0, 1) := by decide +kernel
theorem dX6_get__1 : decode cX6_get_ 1 = .ok (.iload_n 1, 1) := by decide +kernel
theorem dX6_get__2 : decode cX6_get_ 2 = .ok (.ifCond .lt 9, 3) := by decide +kernel
theorem dX6_get__5 : decode cX6_get_ 5 = .ok (.iload_n 1, 1) := by decide +kernel
theorem dX6_get__6 : decode cX6_get_ 6 = .ok (.bipush 13, 2) := by decide +kernel
theorem dX6_get__8 : decode cX6_get_ 8 = .ok (.if_icmp .le 7, 3) := by decide +kernel
theorem dX6_get__11 : decode cX6_get_ 11 = .ok (.iconst 1, 1) := by decide +kernel
theorem dX6_get__12 : decode cX6_get_ 12 = .ok (.goto 4, 3) := by decide +kernel
theorem dX6_get__15 : decode cX6_get_ 15 = .ok (.iconst 0, 1) := by decide +kernel
theorem dX6_get__16 : decode cX6_get_ 16 = .ok (.putfield 30, 3) := by decide +kernel
theorem dX6_get__19 : decode cX6_get_ 19 = .ok (.aload_n 0, 1) := by decide +kernel
theorem dX6_get__20 : decode cX6_get_ 20 = .ok (.getfield 30, 3) := by decide +kernel
theorem dX6_get__23 : decode cX6_get_ 23 = .ok (.ifCond .le 7, 3) := by decide +kernel
theorem dX6_get__26 : decode cX6_get_ 26 = .ok (.iconst 0, 1) := by decide +kernel
theorem dX6_get__27 : decode cX6_get_ 27 = .ok (.goto 53, 3) := by decide +kernel
theorem dX6_get__30 : decode cX6_get_ 30 = .ok (.iload_n 1, 1) := by decide +kernel
theorem dX6_get__31 : decode cX6_get_ 31 = .ok (.bipush 8, 2) := by decide +kernel
theorem dX6_get__33 : decode cX6_get_ 33 = .ok (.if_icmp .ge 12, 3) := by decide +kernel
theorem dX6_get__36 : decode cX6_get_ 36 = .ok (.aload_n 0, 1) := by decide +kernel
theorem dX6_get__37 : decode cX6_get_ 37 = .ok (.getfield 7, 3) := by decide +kernel
theorem dX6_get__40 : decode cX6_get_ 40 = .ok (.iload_n 1, 1) := by decide +kernel
theorem dX6_get__41 : decode cX6_get_ 41 = .ok (.iaload, 1) := by decide +kernel
theorem dX6_get__42 : decode cX6_get_ 42 = .ok (.goto 38, 3) := by decide +kernel
theorem dX6_get__45 : decode cX6_get_ 45 = .ok (.iload_n 1, 1) := by decide +kernel
theorem dX6_get__46 : decode cX6_get_ 46 = .ok (.bipush 12, 2) := by decide +kernel
theorem dX6_get__48 : decode cX6_get_ 48 = .ok (.if_icmp .ge 15, 3) := by decide +kernel
theorem dX6_get__51 : decode cX6_get_ 51 = .ok (.aload_n 0, 1) := by decide +kernel
theorem dX6_get__52 : decode cX6_get_ 52 = .ok (.getfield 13, 3) := by decide +kernel
theorem dX6_get__55 : decode cX6_get_ 55 = .ok (.iload_n 1, 1) := by decide +kernel
theorem dX6_get__56 : decode cX6_get_ 56 = .ok (.bipush 8, 2) := by decide +kernel
theorem dX6_get__58 : decode cX6_get_ 58 = .ok (.isub, 1) := by decide +kernel
theorem dX6_get__59 : decode cX6_get_ 59 = .ok (.iaload, 1) := by decide +kernel
theorem dX6_get__60 : decode cX6_get_ 60 = .ok (.goto 20, 3) := by decide +kernel
theorem dX6_get__63 : decode cX6_get_ 63 = .ok (.iload_n 1, 1) := by decide +kernel
theorem dX6_get__64 : decode cX6_get_ 64 = .ok (.bipush 12, 2) := by decide +kernel
theorem dX6_get__66 : decode cX6_get_ 66 = .ok (.if_icmp .ne 10, 3) := by decide +kernel
theorem dX6_get__69 : decode cX6_get_ 69 = .ok (.aload_n 0, 1) := by decide +kernel
theorem dX6_get__70 : decode cX6_get_ 70 = .ok (.getfield 170, 3) := by decide +kernel
theorem dX6_get__73 : decode cX6_get_ 73 = .ok (.goto 7, 3) := by decide +kernel
theorem dX6_get__76 : decode cX6_get_ 76 = .ok (.aload_n 0, 1) := by decide +kernel
theorem dX6_get__77 : decode cX6_get_ 77 = .ok (.getfield 54, 3) := by decide +kernel
