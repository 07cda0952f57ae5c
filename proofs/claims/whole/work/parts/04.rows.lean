theorem dX0_init_0 : decode cX0_init 0 = .ok (.aload_n 0, 1) := by decide +kernel
theorem dX0_init_1 : decode cX0_init 1 = .ok (.invokespecial 3, 3) := by decide +kernel
theorem dX0_init_4 : decode cX0_init 4 = .ok (.return_, 1) := by decide +kernel
theorem dX0_has_0 : decode cX0_has 0 = .ok (.aload_n 0, 1) := by decide +kernel
theorem dX0_has_1 : decode cX0_has 1 = .ok (.getfield 9, 3) := by decide +kernel
theorem dX0_has_4 : decode cX0_has 4 = .ok (.iload_n 1, 1) := by decide +kernel
theorem dX0_has_5 : decode cX0_has 5 = .ok (.iand, 1) := by decide +kernel
theorem dX0_has_6 : decode cX0_has 6 = .ok (.ifCond .eq 7, 3) := by decide +kernel
theorem dX0_has_9 : decode cX0_has 9 = .ok (.iconst 1, 1) := by decide +kernel
theorem dX0_has_10 : decode cX0_has 10 = .ok (.goto 4, 3) := by decide +kernel
theorem dX0_has_13 : decode cX0_has 13 = .ok (.iconst 0, 1) := by decide +kernel
theorem dX0_has_14 : decode cX0_has 14 = .ok (.ireturn, 1) := by decide +kernel
theorem dX0_mark_0 : decode cX0_mark 0 = .ok (.aload_n 0, 1) := by decide +kernel
theorem dX0_mark_1 : decode cX0_mark 1 = .ok (.iload_n 2, 1) := by decide +kernel
theorem dX0_mark_2 : decode cX0_mark 2 = .ok (.ifCond .eq 12, 3) := by decide +kernel
theorem dX0_mark_5 : decode cX0_mark 5 = .ok (.aload_n 0, 1) := by decide +kernel
theorem dX0_mark_6 : decode cX0_mark 6 = .ok (.getfield 9, 3) := by decide +kernel
theorem dX0_mark_9 : decode cX0_mark 9 = .ok (.iload_n 1, 1) := by decide +kernel
theorem dX0_mark_10 : decode cX0_mark 10 = .ok (.ior, 1) := by decide +kernel
theorem dX0_mark_11 : decode cX0_mark 11 = .ok (.goto 11, 3) := by decide +kernel
theorem dX0_mark_14 : decode cX0_mark 14 = .ok (.aload_n 0, 1) := by decide +kernel
theorem dX0_mark_15 : decode cX0_mark 15 = .ok (.getfield 9, 3) := by decide +kernel
theorem dX0_mark_18 : decode cX0_mark 18 = .ok (.iload_n 1, 1) := by decide +kernel
theorem dX0_mark_19 : decode cX0_mark 19 = .ok (.iconst (-1), 1) := by decide +kernel
theorem dX0_mark_20 : decode cX0_mark 20 = .ok (.ixor, 1) := by decide +kernel
theorem dX0_mark_21 : decode cX0_mark 21 = .ok (.iand, 1) := by decide +kernel
theorem dX0_mark_22 : decode cX0_mark 22 = .ok (.putfield 9, 3) := by decide +kernel
theorem dX0_mark_25 : decode cX0_mark 25 = .ok (.return_, 1) := by decide +kernel
theorem dX0_keep_0 : decode cX0_keep 0 = .ok (.aload_n 0, 1) := by decide +kernel
theorem dX0_keep_1 : decode cX0_keep 1 = .ok (.iload_n 1, 1) := by decide +kernel
theorem dX0_keep_2 : decode cX0_keep 2 = .ok (.sipush 4053, 3) := by decide +kernel
theorem dX0_keep_5 : decode cX0_keep 5 = .ok (.iand, 1) := by decide +kernel
theorem dX0_keep_6 : decode cX0_keep 6 = .ok (.putfield 9, 3) := by decide +kernel
theorem dX0_keep_9 : decode cX0_keep 9 = .ok (.return_, 1) := by decide +kernel
theorem dX0_mask_0 : decode cX0_mask 0 = .ok (.iload_n 0, 1) := by decide +kernel
theorem dX0_mask_1 : decode cX0_mask 1 = .ok (.ifCond .eq 8, 3) := by decide +kernel
theorem dX0_mask_4 : decode cX0_mask 4 = .ok (.ldc 13, 2) := by decide +kernel
theorem dX0_mask_6 : decode cX0_mask 6 = .ok (.goto 6, 3) := by decide +kernel
theorem dX0_mask_9 : decode cX0_mask 9 = .ok (.sipush 255, 3) := by decide +kernel
theorem dX0_mask_12 : decode cX0_mask 12 = .ok (.ireturn, 1) := by decide +kernel
theorem dX0_highest_0 : decode cX0_highest 0 = .ok (.iload_n 0, 1) := by decide +kernel
theorem dX0_highest_1 : decode cX0_highest 1 = .ok (.ifCond .eq 8, 3) := by decide +kernel
theorem dX0_highest_4 : decode cX0_highest 4 = .ok (.ldc 14, 2) := by decide +kernel
theorem dX0_highest_6 : decode cX0_highest 6 = .ok (.goto 6, 3) := by decide +kernel
theorem dX0_highest_9 : decode cX0_highest 9 = .ok (.sipush 128, 3) := by decide +kernel
theorem dX0_highest_12 : decode cX0_highest 12 = .ok (.ireturn, 1) := by decide +kernel
theorem dX0_signed_0 : decode cX0_signed 0 = .ok (.iload_n 1, 1) := by decide +kernel
theorem dX0_signed_1 : decode cX0_signed 1 = .ok (.ifCond .eq 8, 3) := by decide +kernel
theorem dX0_signed_4 : decode cX0_signed 4 = .ok (.iload_n 0, 1) := by decide +kernel
theorem dX0_signed_5 : decode cX0_signed 5 = .ok (.i2s, 1) := by decide +kernel
theorem dX0_signed_6 : decode cX0_signed 6 = .ok (.goto 5, 3) := by decide +kernel
theorem dX0_signed_9 : decode cX0_signed 9 = .ok (.iload_n 0, 1) := by decide +kernel
theorem dX0_signed_10 : decode cX0_signed 10 = .ok (.i2b, 1) := by decide +kernel
theorem dX0_signed_11 : decode cX0_signed 11 = .ok (.ireturn, 1) := by decide +kernel
set_option maxRecDepth 20000 in
theorem ggX0_byAnswer_X0_highest : GoodIn wsX0_byAnswer wsX0_highest := goodIn_r _ [5, 6] (by decide +kernel) (by decide +kernel)
set_option maxRecDepth 20000 in
theorem gX0_byAnswer_X0_highest : GoodIn wsX0_byAnswer (va_wsS RX0 15 yX0_highest wsX0_highest) := goodIn_app (goodIn_of _ (by decide +kernel)) ggX0_byAnswer_X0_highest
set_option maxRecDepth 20000 in
theorem ggX0_byAnswer_J6_bitCount_0f7a4 : GoodIn wsX0_byAnswer wsJ6_bitCount_0f7a4 := goodIn_r _ [10, 11, 12, 13] (by decide +kernel) (by decide +kernel)
set_option maxRecDepth 20000 in
theorem gX0_byAnswer_J6_bitCount_0f7a4 : GoodIn wsX0_byAnswer (va_wsS RX0 19 yJ6_bitCount_0f7a4 wsJ6_bitCount_0f7a4) := goodIn_app (goodIn_of _ (by decide +kernel)) ggX0_byAnswer_J6_bitCount_0f7a4
theorem dX0_byAnswer_0 : decode cX0_byAnswer 0 = .ok (.aload_n 0, 1) := by decide +kernel
theorem dX0_byAnswer_1 : decode cX0_byAnswer 1 = .ok (.dup, 1) := by decide +kernel
theorem dX0_byAnswer_2 : decode cX0_byAnswer 2 = .ok (.getfield 9, 3) := by decide +kernel
theorem dX0_byAnswer_5 : decode cX0_byAnswer 5 = .ok (.sipush (-197), 3) := by decide +kernel
theorem dX0_byAnswer_8 : decode cX0_byAnswer 8 = .ok (.iand, 1) := by decide +kernel
theorem dX0_byAnswer_9 : decode cX0_byAnswer 9 = .ok (.putfield 9, 3) := by decide +kernel
theorem dX0_byAnswer_12 : decode cX0_byAnswer 12 = .ok (.aload_n 0, 1) := by decide +kernel
theorem dX0_byAnswer_13 : decode cX0_byAnswer 13 = .ok (.dup, 1) := by decide +kernel
theorem dX0_byAnswer_14 : decode cX0_byAnswer 14 = .ok (.getfield 9, 3) := by decide +kernel
theorem dX0_byAnswer_17 : decode cX0_byAnswer 17 = .ok (.iload_n 1, 1) := by decide +kernel
theorem dX0_byAnswer_18 : decode cX0_byAnswer 18 = .ok (.ifCond .ne 8, 3) := by decide +kernel
theorem dX0_byAnswer_21 : decode cX0_byAnswer 21 = .ok (.bipush 64, 2) := by decide +kernel
theorem dX0_byAnswer_23 : decode cX0_byAnswer 23 = .ok (.goto 4, 3) := by decide +kernel
theorem dX0_byAnswer_26 : decode cX0_byAnswer 26 = .ok (.iconst 0, 1) := by decide +kernel
theorem dX0_byAnswer_27 : decode cX0_byAnswer 27 = .ok (.ior, 1) := by decide +kernel
theorem dX0_byAnswer_28 : decode cX0_byAnswer 28 = .ok (.putfield 9, 3) := by decide +kernel
theorem dX0_byAnswer_31 : decode cX0_byAnswer 31 = .ok (.aload_n 0, 1) := by decide +kernel
theorem dX0_byAnswer_32 : decode cX0_byAnswer 32 = .ok (.dup, 1) := by decide +kernel
theorem dX0_byAnswer_33 : decode cX0_byAnswer 33 = .ok (.getfield 9, 3) := by decide +kernel
theorem dX0_byAnswer_36 : decode cX0_byAnswer 36 = .ok (.iload_n 1, 1) := by decide +kernel
theorem dX0_byAnswer_37 : decode cX0_byAnswer 37 = .ok (.iload_n 2, 1) := by decide +kernel
theorem dX0_byAnswer_38 : decode cX0_byAnswer 38 = .ok (.invokestatic 15, 3) := by decide +kernel
theorem dX0_byAnswer_41 : decode cX0_byAnswer 41 = .ok (.iand, 1) := by decide +kernel
theorem dX0_byAnswer_42 : decode cX0_byAnswer 42 = .ok (.ifCond .eq 9, 3) := by decide +kernel
theorem dX0_byAnswer_45 : decode cX0_byAnswer 45 = .ok (.sipush 128, 3) := by decide +kernel
theorem dX0_byAnswer_48 : decode cX0_byAnswer 48 = .ok (.goto 4, 3) := by decide +kernel
theorem dX0_byAnswer_51 : decode cX0_byAnswer 51 = .ok (.iconst 0, 1) := by decide +kernel
theorem dX0_byAnswer_52 : decode cX0_byAnswer 52 = .ok (.ior, 1) := by decide +kernel
theorem dX0_byAnswer_53 : decode cX0_byAnswer 53 = .ok (.putfield 9, 3) := by decide +kernel
theorem dX0_byAnswer_56 : decode cX0_byAnswer 56 = .ok (.aload_n 0, 1) := by decide +kernel
theorem dX0_byAnswer_57 : decode cX0_byAnswer 57 = .ok (.dup, 1) := by decide +kernel
theorem dX0_byAnswer_58 : decode cX0_byAnswer 58 = .ok (.getfield 9, 3) := by decide +kernel
theorem dX0_byAnswer_61 : decode cX0_byAnswer 61 = .ok (.iload_n 1, 1) := by decide +kernel
theorem dX0_byAnswer_62 : decode cX0_byAnswer 62 = .ok (.sipush 255, 3) := by decide +kernel
theorem dX0_byAnswer_65 : decode cX0_byAnswer 65 = .ok (.iand, 1) := by decide +kernel
theorem dX0_byAnswer_66 : decode cX0_byAnswer 66 = .ok (.invokestatic 19, 3) := by decide +kernel
theorem dX0_byAnswer_69 : decode cX0_byAnswer 69 = .ok (.iconst 1, 1) := by decide +kernel
theorem dX0_byAnswer_70 : decode cX0_byAnswer 70 = .ok (.iand, 1) := by decide +kernel
theorem dX0_byAnswer_71 : decode cX0_byAnswer 71 = .ok (.ifCond .ne 7, 3) := by decide +kernel
theorem dX0_byAnswer_74 : decode cX0_byAnswer 74 = .ok (.iconst 4, 1) := by decide +kernel
theorem dX0_byAnswer_75 : decode cX0_byAnswer 75 = .ok (.goto 4, 3) := by decide +kernel
theorem dX0_byAnswer_78 : decode cX0_byAnswer 78 = .ok (.iconst 0, 1) := by decide +kernel
theorem dX0_byAnswer_79 : decode cX0_byAnswer 79 = .ok (.ior, 1) := by decide +kernel
theorem dX0_byAnswer_80 : decode cX0_byAnswer 80 = .ok (.putfield 9, 3) := by decide +kernel
theorem dX0_byAnswer_83 : decode cX0_byAnswer 83 = .ok (.iload_n 1, 1) := by decide +kernel
theorem dX0_byAnswer_84 : decode cX0_byAnswer 84 = .ok (.ireturn, 1) := by decide +kernel
set_option maxRecDepth 20000 in
theorem ggX0_operation_X0_sum : GoodIn wsX0_operation wsX0_sum := goodIn_r _ [6, 7, 8, 5, 9, 10, 11, 12, 13, 14, 15, 16, 17, 18, 19, 20, 21, 1, 22, 23, 24, 25, 26, 27, 28, 29, 30, 31, 32, 33, 34, 35, 36, 45] (by decide +kernel) (by decide +kernel)
set_option maxRecDepth 20000 in
theorem gX0_operation_X0_sum : GoodIn wsX0_operation (wsV RX0 25 RX0 yX0_sum wsX0_sum) := goodIn_app (goodIn_of _ (by decide +kernel)) ggX0_operation_X0_sum
set_option maxRecDepth 20000 in
theorem ggX0_operation_X0_bits : GoodIn wsX0_operation wsX0_bits := goodIn_r _ [40, 1, 22, 23, 24, 5, 25, 26, 27, 28, 29, 30, 31, 32, 33, 34, 35, 36, 45] (by decide +kernel) (by decide +kernel)
set_option maxRecDepth 20000 in
theorem gX0_operation_X0_bits : GoodIn wsX0_operation (wsV RX0 29 RX0 yX0_bits wsX0_bits) := goodIn_app (goodIn_of _ (by decide +kernel)) ggX0_operation_X0_bits
set_option maxRecDepth 20000 in
theorem ggX0_operation_X0_difference : GoodIn wsX0_operation wsX0_difference := goodIn_r _ [44, 7, 8, 5, 9, 10, 11, 12, 13, 14, 15, 16, 17, 18, 19, 20, 21, 1, 22, 23, 24, 25, 26, 27, 28, 29, 30, 31, 32, 33, 34, 35, 36, 45] (by decide +kernel) (by decide +kernel)
set_option maxRecDepth 20000 in
theorem gX0_operation_X0_difference : GoodIn wsX0_operation (wsV RX0 33 RX0 yX0_difference wsX0_difference) := goodIn_app (goodIn_of _ (by decide +kernel)) ggX0_operation_X0_difference
set_option maxRecDepth 20000 in
theorem ggX0_operation_X0_mask : GoodIn wsX0_operation wsX0_mask := goodIn_r _ [16, 17] (by decide +kernel) (by decide +kernel)
set_option maxRecDepth 20000 in
theorem gX0_operation_X0_mask : GoodIn wsX0_operation (va_wsS RX0 36 yX0_mask wsX0_mask) := goodIn_app (goodIn_of _ (by decide +kernel)) ggX0_operation_X0_mask
theorem dX0_operation_0 : decode cX0_operation 0 = .ok (.iload_n 1, 1) := by decide +kernel
theorem dX0_operation_1 : decode cX0_operation 1 = .ok (.tableswitch 177 0 11 #[63, 73, 83, 98, 113, 123, 133, 143, 155, 177, 177, 167], 63) := by decide +kernel
theorem dX0_operation_64 : decode cX0_operation 64 = .ok (.aload_n 0, 1) := by decide +kernel
theorem dX0_operation_65 : decode cX0_operation 65 = .ok (.iload_n 2, 1) := by decide +kernel
theorem dX0_operation_66 : decode cX0_operation 66 = .ok (.iload_n 3, 1) := by decide +kernel
theorem dX0_operation_67 : decode cX0_operation 67 = .ok (.iconst 0, 1) := by decide +kernel
theorem dX0_operation_68 : decode cX0_operation 68 = .ok (.iload 4, 2) := by decide +kernel
theorem dX0_operation_70 : decode cX0_operation 70 = .ok (.invokevirtual 25, 3) := by decide +kernel
theorem dX0_operation_73 : decode cX0_operation 73 = .ok (.ireturn, 1) := by decide +kernel
theorem dX0_operation_74 : decode cX0_operation 74 = .ok (.aload_n 0, 1) := by decide +kernel
theorem dX0_operation_75 : decode cX0_operation 75 = .ok (.iload_n 2, 1) := by decide +kernel
theorem dX0_operation_76 : decode cX0_operation 76 = .ok (.iload_n 3, 1) := by decide +kernel
theorem dX0_operation_77 : decode cX0_operation 77 = .ok (.ior, 1) := by decide +kernel
theorem dX0_operation_78 : decode cX0_operation 78 = .ok (.iload 4, 2) := by decide +kernel
theorem dX0_operation_80 : decode cX0_operation 80 = .ok (.invokevirtual 29, 3) := by decide +kernel
theorem dX0_operation_83 : decode cX0_operation 83 = .ok (.ireturn, 1) := by decide +kernel
theorem dX0_operation_84 : decode cX0_operation 84 = .ok (.aload_n 0, 1) := by decide +kernel
theorem dX0_operation_85 : decode cX0_operation 85 = .ok (.iload_n 2, 1) := by decide +kernel
theorem dX0_operation_86 : decode cX0_operation 86 = .ok (.iload_n 3, 1) := by decide +kernel
theorem dX0_operation_87 : decode cX0_operation 87 = .ok (.aload_n 0, 1) := by decide +kernel
theorem dX0_operation_88 : decode cX0_operation 88 = .ok (.getfield 9, 3) := by decide +kernel
theorem dX0_operation_91 : decode cX0_operation 91 = .ok (.iconst 1, 1) := by decide +kernel
theorem dX0_operation_92 : decode cX0_operation 92 = .ok (.iand, 1) := by decide +kernel
theorem dX0_operation_93 : decode cX0_operation 93 = .ok (.iload 4, 2) := by decide +kernel
theorem dX0_operation_95 : decode cX0_operation 95 = .ok (.invokevirtual 25, 3) := by decide +kernel
theorem dX0_operation_98 : decode cX0_operation 98 = .ok (.ireturn, 1) := by decide +kernel
theorem dX0_operation_99 : decode cX0_operation 99 = .ok (.aload_n 0, 1) := by decide +kernel
theorem dX0_operation_100 : decode cX0_operation 100 = .ok (.iload_n 2, 1) := by decide +kernel
theorem dX0_operation_101 : decode cX0_operation 101 = .ok (.iload_n 3, 1) := by decide +kernel
theorem dX0_operation_102 : decode cX0_operation 102 = .ok (.aload_n 0, 1) := by decide +kernel
theorem dX0_operation_103 : decode cX0_operation 103 = .ok (.getfield 9, 3) := by decide +kernel
theorem dX0_operation_106 : decode cX0_operation 106 = .ok (.iconst 1, 1) := by decide +kernel
theorem dX0_operation_107 : decode cX0_operation 107 = .ok (.iand, 1) := by decide +kernel
theorem dX0_operation_108 : decode cX0_operation 108 = .ok (.iload 4, 2) := by decide +kernel
theorem dX0_operation_110 : decode cX0_operation 110 = .ok (.invokevirtual 33, 3) := by decide +kernel
theorem dX0_operation_113 : decode cX0_operation 113 = .ok (.ireturn, 1) := by decide +kernel
theorem dX0_operation_114 : decode cX0_operation 114 = .ok (.aload_n 0, 1) := by decide +kernel
theorem dX0_operation_115 : decode cX0_operation 115 = .ok (.iload_n 2, 1) := by decide +kernel
theorem dX0_operation_116 : decode cX0_operation 116 = .ok (.iload_n 3, 1) := by decide +kernel
theorem dX0_operation_117 : decode cX0_operation 117 = .ok (.iand, 1) := by decide +kernel
theorem dX0_operation_118 : decode cX0_operation 118 = .ok (.iload 4, 2) := by decide +kernel
theorem dX0_operation_120 : decode cX0_operation 120 = .ok (.invokevirtual 29, 3) := by decide +kernel
theorem dX0_operation_123 : decode cX0_operation 123 = .ok (.ireturn, 1) := by decide +kernel
theorem dX0_operation_124 : decode cX0_operation 124 = .ok (.aload_n 0, 1) := by decide +kernel
theorem dX0_operation_125 : decode cX0_operation 125 = .ok (.iload_n 2, 1) := by decide +kernel
theorem dX0_operation_126 : decode cX0_operation 126 = .ok (.iload_n 3, 1) := by decide +kernel
theorem dX0_operation_127 : decode cX0_operation 127 = .ok (.iconst 0, 1) := by decide +kernel
theorem dX0_operation_128 : decode cX0_operation 128 = .ok (.iload 4, 2) := by decide +kernel
theorem dX0_operation_130 : decode cX0_operation 130 = .ok (.invokevirtual 33, 3) := by decide +kernel
theorem dX0_operation_133 : decode cX0_operation 133 = .ok (.ireturn, 1) := by decide +kernel
theorem dX0_operation_134 : decode cX0_operation 134 = .ok (.aload_n 0, 1) := by decide +kernel
theorem dX0_operation_135 : decode cX0_operation 135 = .ok (.iload_n 2, 1) := by decide +kernel
theorem dX0_operation_136 : decode cX0_operation 136 = .ok (.iload_n 3, 1) := by decide +kernel
theorem dX0_operation_137 : decode cX0_operation 137 = .ok (.ixor, 1) := by decide +kernel
theorem dX0_operation_138 : decode cX0_operation 138 = .ok (.iload 4, 2) := by decide +kernel
theorem dX0_operation_140 : decode cX0_operation 140 = .ok (.invokevirtual 29, 3) := by decide +kernel
theorem dX0_operation_143 : decode cX0_operation 143 = .ok (.ireturn, 1) := by decide +kernel
theorem dX0_operation_144 : decode cX0_operation 144 = .ok (.aload_n 0, 1) := by decide +kernel
theorem dX0_operation_145 : decode cX0_operation 145 = .ok (.iload_n 2, 1) := by decide +kernel
theorem dX0_operation_146 : decode cX0_operation 146 = .ok (.iload_n 3, 1) := by decide +kernel
theorem dX0_operation_147 : decode cX0_operation 147 = .ok (.iconst 0, 1) := by decide +kernel
theorem dX0_operation_148 : decode cX0_operation 148 = .ok (.iload 4, 2) := by decide +kernel
theorem dX0_operation_150 : decode cX0_operation 150 = .ok (.invokevirtual 33, 3) := by decide +kernel
theorem dX0_operation_153 : decode cX0_operation 153 = .ok (.pop, 1) := by decide +kernel
theorem dX0_operation_154 : decode cX0_operation 154 = .ok (.iload_n 2, 1) := by decide +kernel
theorem dX0_operation_155 : decode cX0_operation 155 = .ok (.ireturn, 1) := by decide +kernel
theorem dX0_operation_156 : decode cX0_operation 156 = .ok (.aload_n 0, 1) := by decide +kernel
theorem dX0_operation_157 : decode cX0_operation 157 = .ok (.iload_n 2, 1) := by decide +kernel
theorem dX0_operation_158 : decode cX0_operation 158 = .ok (.iload_n 3, 1) := by decide +kernel
theorem dX0_operation_159 : decode cX0_operation 159 = .ok (.iand, 1) := by decide +kernel
theorem dX0_operation_160 : decode cX0_operation 160 = .ok (.iload 4, 2) := by decide +kernel
theorem dX0_operation_162 : decode cX0_operation 162 = .ok (.invokevirtual 29, 3) := by decide +kernel
theorem dX0_operation_165 : decode cX0_operation 165 = .ok (.pop, 1) := by decide +kernel
theorem dX0_operation_166 : decode cX0_operation 166 = .ok (.iload_n 2, 1) := by decide +kernel
theorem dX0_operation_167 : decode cX0_operation 167 = .ok (.ireturn, 1) := by decide +kernel
theorem dX0_operation_168 : decode cX0_operation 168 = .ok (.aload_n 0, 1) := by decide +kernel
theorem dX0_operation_169 : decode cX0_operation 169 = .ok (.iconst 0, 1) := by decide +kernel
theorem dX0_operation_170 : decode cX0_operation 170 = .ok (.iload_n 2, 1) := by decide +kernel
theorem dX0_operation_171 : decode cX0_operation 171 = .ok (.iconst 0, 1) := by decide +kernel
theorem dX0_operation_172 : decode cX0_operation 172 = .ok (.iload 4, 2) := by decide +kernel
theorem dX0_operation_174 : decode cX0_operation 174 = .ok (.invokevirtual 33, 3) := by decide +kernel
theorem dX0_operation_177 : decode cX0_operation 177 = .ok (.ireturn, 1) := by decide +kernel
theorem dX0_operation_178 : decode cX0_operation 178 = .ok (.iload_n 2, 1) := by decide +kernel
theorem dX0_operation_179 : decode cX0_operation 179 = .ok (.iconst (-1), 1) := by decide +kernel
theorem dX0_operation_180 : decode cX0_operation 180 = .ok (.ixor, 1) := by decide +kernel
theorem dX0_operation_181 : decode cX0_operation 181 = .ok (.iload 4, 2) := by decide +kernel
theorem dX0_operation_183 : decode cX0_operation 183 = .ok (.invokestatic 36, 3) := by decide +kernel
theorem dX0_operation_186 : decode cX0_operation 186 = .ok (.iand, 1) := by decide +kernel
theorem dX0_operation_187 : decode cX0_operation 187 = .ok (.ireturn, 1) := by decide +kernel
set_option maxRecDepth 20000 in
theorem ggX0_compare_X0_difference : GoodIn wsX0_compare wsX0_difference := goodIn_r _ [5, 6, 7, 4, 8, 9, 10, 11, 12, 13, 14, 15, 16, 17, 18, 19, 20, 21, 22, 23, 24, 25, 26, 27, 28, 29, 30, 31, 32, 33, 34, 35, 36, 37] (by decide +kernel) (by decide +kernel)
set_option maxRecDepth 20000 in
theorem gX0_compare_X0_difference : GoodIn wsX0_compare (wsV RX0 33 RX0 yX0_difference wsX0_difference) := goodIn_app (goodIn_of _ (by decide +kernel)) ggX0_compare_X0_difference
theorem dX0_compare_0 : decode cX0_compare 0 = .ok (.aload_n 0, 1) := by decide +kernel
theorem dX0_compare_1 : decode cX0_compare 1 = .ok (.iload_n 1, 1) := by decide +kernel
theorem dX0_compare_2 : decode cX0_compare 2 = .ok (.iload_n 2, 1) := by decide +kernel
theorem dX0_compare_3 : decode cX0_compare 3 = .ok (.iconst 0, 1) := by decide +kernel
theorem dX0_compare_4 : decode cX0_compare 4 = .ok (.iload_n 3, 1) := by decide +kernel
theorem dX0_compare_5 : decode cX0_compare 5 = .ok (.invokevirtual 33, 3) := by decide +kernel
theorem dX0_compare_8 : decode cX0_compare 8 = .ok (.pop, 1) := by decide +kernel
theorem dX0_compare_9 : decode cX0_compare 9 = .ok (.return_, 1) := by decide +kernel
set_option maxRecDepth 20000 in
theorem ggX0_byOne_X0_difference : GoodIn wsX0_byOne wsX0_difference := goodIn_r _ [6, 7, 8, 5, 9, 10, 11, 12, 13, 14, 15, 16, 17, 18, 19, 20, 21, 1, 22, 23, 24, 25, 26, 27, 28, 29, 30, 31, 32, 33, 34, 35, 36, 41] (by decide +kernel) (by decide +kernel)
set_option maxRecDepth 20000 in
theorem gX0_byOne_X0_difference : GoodIn wsX0_byOne (wsV RX0 33 RX0 yX0_difference wsX0_difference) := goodIn_app (goodIn_of _ (by decide +kernel)) ggX0_byOne_X0_difference
set_option maxRecDepth 20000 in
theorem ggX0_byOne_X0_sum : GoodIn wsX0_byOne wsX0_sum := goodIn_r _ [40, 7, 8, 5, 9, 10, 11, 12, 13, 14, 15, 16, 17, 18, 19, 20, 21, 1, 22, 23, 24, 25, 26, 27, 28, 29, 30, 31, 32, 33, 34, 35, 36, 41] (by decide +kernel) (by decide +kernel)
set_option maxRecDepth 20000 in
theorem gX0_byOne_X0_sum : GoodIn wsX0_byOne (wsV RX0 25 RX0 yX0_sum wsX0_sum) := goodIn_app (goodIn_of _ (by decide +kernel)) ggX0_byOne_X0_sum
theorem dX0_byOne_0 : decode cX0_byOne 0 = .ok (.aload_n 0, 1) := by decide +kernel
theorem dX0_byOne_1 : decode cX0_byOne 1 = .ok (.getfield 9, 3) := by decide +kernel
theorem dX0_byOne_4 : decode cX0_byOne 4 = .ok (.iconst 1, 1) := by decide +kernel
theorem dX0_byOne_5 : decode cX0_byOne 5 = .ok (.iand, 1) := by decide +kernel
theorem dX0_byOne_6 : decode cX0_byOne 6 = .ok (.istore 4, 2) := by decide +kernel
theorem dX0_byOne_8 : decode cX0_byOne 8 = .ok (.iload_n 2, 1) := by decide +kernel
theorem dX0_byOne_9 : decode cX0_byOne 9 = .ok (.ifCond .eq 14, 3) := by decide +kernel
theorem dX0_byOne_12 : decode cX0_byOne 12 = .ok (.aload_n 0, 1) := by decide +kernel
theorem dX0_byOne_13 : decode cX0_byOne 13 = .ok (.iload_n 1, 1) := by decide +kernel
theorem dX0_byOne_14 : decode cX0_byOne 14 = .ok (.iconst 1, 1) := by decide +kernel
theorem dX0_byOne_15 : decode cX0_byOne 15 = .ok (.iconst 0, 1) := by decide +kernel
theorem dX0_byOne_16 : decode cX0_byOne 16 = .ok (.iload_n 3, 1) := by decide +kernel
theorem dX0_byOne_17 : decode cX0_byOne 17 = .ok (.invokevirtual 33, 3) := by decide +kernel
theorem dX0_byOne_20 : decode cX0_byOne 20 = .ok (.goto 11, 3) := by decide +kernel
theorem dX0_byOne_23 : decode cX0_byOne 23 = .ok (.aload_n 0, 1) := by decide +kernel
theorem dX0_byOne_24 : decode cX0_byOne 24 = .ok (.iload_n 1, 1) := by decide +kernel
theorem dX0_byOne_25 : decode cX0_byOne 25 = .ok (.iconst 1, 1) := by decide +kernel
theorem dX0_byOne_26 : decode cX0_byOne 26 = .ok (.iconst 0, 1) := by decide +kernel
theorem dX0_byOne_27 : decode cX0_byOne 27 = .ok (.iload_n 3, 1) := by decide +kernel
theorem dX0_byOne_28 : decode cX0_byOne 28 = .ok (.invokevirtual 25, 3) := by decide +kernel
theorem dX0_byOne_31 : decode cX0_byOne 31 = .ok (.istore 5, 2) := by decide +kernel
theorem dX0_byOne_33 : decode cX0_byOne 33 = .ok (.aload_n 0, 1) := by decide +kernel
theorem dX0_byOne_34 : decode cX0_byOne 34 = .ok (.aload_n 0, 1) := by decide +kernel
theorem dX0_byOne_35 : decode cX0_byOne 35 = .ok (.getfield 9, 3) := by decide +kernel
theorem dX0_byOne_38 : decode cX0_byOne 38 = .ok (.bipush (-2), 2) := by decide +kernel
theorem dX0_byOne_40 : decode cX0_byOne 40 = .ok (.iand, 1) := by decide +kernel
theorem dX0_byOne_41 : decode cX0_byOne 41 = .ok (.iload 4, 2) := by decide +kernel
theorem dX0_byOne_43 : decode cX0_byOne 43 = .ok (.ior, 1) := by decide +kernel
theorem dX0_byOne_44 : decode cX0_byOne 44 = .ok (.putfield 9, 3) := by decide +kernel
theorem dX0_byOne_47 : decode cX0_byOne 47 = .ok (.iload 5, 2) := by decide +kernel
theorem dX0_byOne_49 : decode cX0_byOne 49 = .ok (.ireturn, 1) := by decide +kernel
set_option maxRecDepth 20000 in
theorem ggX0_sum_X0_signed : GoodIn wsX0_sum wsX0_signed := goodIn_r _ [4] (by decide +kernel) (by decide +kernel)
set_option maxRecDepth 20000 in
theorem gX0_sum_X0_signed : GoodIn wsX0_sum (va_wsS RX0 39 yX0_signed wsX0_signed) := goodIn_app (goodIn_of _ (by decide +kernel)) ggX0_sum_X0_signed
set_option maxRecDepth 20000 in
theorem ggX0_sum_X0_settle : GoodIn wsX0_sum wsX0_settle := goodIn_r _ [8, 9, 10, 3, 11, 12, 13, 14, 15, 16, 17, 1, 2, 4, 33] (by decide +kernel) (by decide +kernel)
set_option maxRecDepth 20000 in
theorem gX0_sum_X0_settle : GoodIn wsX0_sum (wsV RX0 42 RX0 yX0_settle wsX0_settle) := goodIn_app (goodIn_of _ (by decide +kernel)) ggX0_sum_X0_settle
set_option maxRecDepth 20000 in
theorem ggX0_sum_X0_byAnswer : GoodIn wsX0_sum wsX0_byAnswer := goodIn_r _ [21, 17, 22, 23, 3, 24, 25, 26, 27, 28, 29, 30, 31, 32, 33] (by decide +kernel) (by decide +kernel)
set_option maxRecDepth 20000 in
theorem gX0_sum_X0_byAnswer : GoodIn wsX0_sum (wsV RX0 45 RX0 yX0_byAnswer wsX0_byAnswer) := goodIn_app (goodIn_of _ (by decide +kernel)) ggX0_sum_X0_byAnswer
theorem dX0_sum_0 : decode cX0_sum 0 = .ok (.iload_n 1, 1) := by decide +kernel
theorem dX0_sum_1 : decode cX0_sum 1 = .ok (.iload 4, 2) := by decide +kernel
theorem dX0_sum_3 : decode cX0_sum 3 = .ok (.invokestatic 39, 3) := by decide +kernel
theorem dX0_sum_6 : decode cX0_sum 6 = .ok (.iload_n 2, 1) := by decide +kernel
theorem dX0_sum_7 : decode cX0_sum 7 = .ok (.iload 4, 2) := by decide +kernel
theorem dX0_sum_9 : decode cX0_sum 9 = .ok (.invokestatic 39, 3) := by decide +kernel
theorem dX0_sum_12 : decode cX0_sum 12 = .ok (.iadd, 1) := by decide +kernel
theorem dX0_sum_13 : decode cX0_sum 13 = .ok (.iload_n 3, 1) := by decide +kernel
theorem dX0_sum_14 : decode cX0_sum 14 = .ok (.iadd, 1) := by decide +kernel
theorem dX0_sum_15 : decode cX0_sum 15 = .ok (.istore 5, 2) := by decide +kernel
theorem dX0_sum_17 : decode cX0_sum 17 = .ok (.aload_n 0, 1) := by decide +kernel
theorem dX0_sum_18 : decode cX0_sum 18 = .ok (.aload_n 0, 1) := by decide +kernel
theorem dX0_sum_19 : decode cX0_sum 19 = .ok (.iload_n 1, 1) := by decide +kernel
theorem dX0_sum_20 : decode cX0_sum 20 = .ok (.iload_n 2, 1) := by decide +kernel
theorem dX0_sum_21 : decode cX0_sum 21 = .ok (.iadd, 1) := by decide +kernel
theorem dX0_sum_22 : decode cX0_sum 22 = .ok (.iload_n 3, 1) := by decide +kernel
theorem dX0_sum_23 : decode cX0_sum 23 = .ok (.iadd, 1) := by decide +kernel
theorem dX0_sum_24 : decode cX0_sum 24 = .ok (.iload 5, 2) := by decide +kernel
theorem dX0_sum_26 : decode cX0_sum 26 = .ok (.iload_n 1, 1) := by decide +kernel
theorem dX0_sum_27 : decode cX0_sum 27 = .ok (.bipush 15, 2) := by decide +kernel
theorem dX0_sum_29 : decode cX0_sum 29 = .ok (.iand, 1) := by decide +kernel
theorem dX0_sum_30 : decode cX0_sum 30 = .ok (.iload_n 2, 1) := by decide +kernel
theorem dX0_sum_31 : decode cX0_sum 31 = .ok (.bipush 15, 2) := by decide +kernel
theorem dX0_sum_33 : decode cX0_sum 33 = .ok (.iand, 1) := by decide +kernel
theorem dX0_sum_34 : decode cX0_sum 34 = .ok (.iadd, 1) := by decide +kernel
theorem dX0_sum_35 : decode cX0_sum 35 = .ok (.iload_n 3, 1) := by decide +kernel
theorem dX0_sum_36 : decode cX0_sum 36 = .ok (.iadd, 1) := by decide +kernel
theorem dX0_sum_37 : decode cX0_sum 37 = .ok (.iload 4, 2) := by decide +kernel
theorem dX0_sum_39 : decode cX0_sum 39 = .ok (.invokevirtual 42, 3) := by decide +kernel
theorem dX0_sum_42 : decode cX0_sum 42 = .ok (.iload 4, 2) := by decide +kernel
theorem dX0_sum_44 : decode cX0_sum 44 = .ok (.invokevirtual 45, 3) := by decide +kernel
theorem dX0_sum_47 : decode cX0_sum 47 = .ok (.ireturn, 1) := by decide +kernel
set_option maxRecDepth 20000 in
theorem ggX0_difference_X0_signed : GoodIn wsX0_difference wsX0_signed := goodIn_r _ [4] (by decide +kernel) (by decide +kernel)
set_option maxRecDepth 20000 in
theorem gX0_difference_X0_signed : GoodIn wsX0_difference (va_wsS RX0 39 yX0_signed wsX0_signed) := goodIn_app (goodIn_of _ (by decide +kernel)) ggX0_difference_X0_signed
set_option maxRecDepth 20000 in
theorem ggX0_difference_X0_settle : GoodIn wsX0_difference wsX0_settle := goodIn_r _ [8, 9, 10, 3, 11, 12, 13, 14, 15, 16, 17, 1, 2, 4, 33] (by decide +kernel) (by decide +kernel)
set_option maxRecDepth 20000 in
theorem gX0_difference_X0_settle : GoodIn wsX0_difference (wsV RX0 42 RX0 yX0_settle wsX0_settle) := goodIn_app (goodIn_of _ (by decide +kernel)) ggX0_difference_X0_settle
set_option maxRecDepth 20000 in
theorem ggX0_difference_X0_byAnswer : GoodIn wsX0_difference wsX0_byAnswer := goodIn_r _ [21, 17, 22, 23, 3, 24, 25, 26, 27, 28, 29, 30, 31, 32, 33] (by decide +kernel) (by decide +kernel)
set_option maxRecDepth 20000 in
theorem gX0_difference_X0_byAnswer : GoodIn wsX0_difference (wsV RX0 45 RX0 yX0_byAnswer wsX0_byAnswer) := goodIn_app (goodIn_of _ (by decide +kernel)) ggX0_difference_X0_byAnswer
theorem dX0_difference_0 : decode cX0_difference 0 = .ok (.iload_n 1, 1) := by decide +kernel
theorem dX0_difference_1 : decode cX0_difference 1 = .ok (.iload 4, 2) := by decide +kernel
theorem dX0_difference_3 : decode cX0_difference 3 = .ok (.invokestatic 39, 3) := by decide +kernel
theorem dX0_difference_6 : decode cX0_difference 6 = .ok (.iload_n 2, 1) := by decide +kernel
theorem dX0_difference_7 : decode cX0_difference 7 = .ok (.iload 4, 2) := by decide +kernel
theorem dX0_difference_9 : decode cX0_difference 9 = .ok (.invokestatic 39, 3) := by decide +kernel
theorem dX0_difference_12 : decode cX0_difference 12 = .ok (.isub, 1) := by decide +kernel
theorem dX0_difference_13 : decode cX0_difference 13 = .ok (.iload_n 3, 1) := by decide +kernel
theorem dX0_difference_14 : decode cX0_difference 14 = .ok (.isub, 1) := by decide +kernel
theorem dX0_difference_15 : decode cX0_difference 15 = .ok (.istore 5, 2) := by decide +kernel
theorem dX0_difference_17 : decode cX0_difference 17 = .ok (.aload_n 0, 1) := by decide +kernel
theorem dX0_difference_18 : decode cX0_difference 18 = .ok (.aload_n 0, 1) := by decide +kernel
theorem dX0_difference_19 : decode cX0_difference 19 = .ok (.iload_n 1, 1) := by decide +kernel
theorem dX0_difference_20 : decode cX0_difference 20 = .ok (.iload_n 2, 1) := by decide +kernel
theorem dX0_difference_21 : decode cX0_difference 21 = .ok (.isub, 1) := by decide +kernel
theorem dX0_difference_22 : decode cX0_difference 22 = .ok (.iload_n 3, 1) := by decide +kernel
theorem dX0_difference_23 : decode cX0_difference 23 = .ok (.isub, 1) := by decide +kernel
theorem dX0_difference_24 : decode cX0_difference 24 = .ok (.iload 5, 2) := by decide +kernel
theorem dX0_difference_26 : decode cX0_difference 26 = .ok (.iload_n 1, 1) := by decide +kernel
theorem dX0_difference_27 : decode cX0_difference 27 = .ok (.bipush 15, 2) := by decide +kernel
theorem dX0_difference_29 : decode cX0_difference 29 = .ok (.iand, 1) := by decide +kernel
theorem dX0_difference_30 : decode cX0_difference 30 = .ok (.iload_n 2, 1) := by decide +kernel
theorem dX0_difference_31 : decode cX0_difference 31 = .ok (.bipush 15, 2) := by decide +kernel
theorem dX0_difference_33 : decode cX0_difference 33 = .ok (.iand, 1) := by decide +kernel
theorem dX0_difference_34 : decode cX0_difference 34 = .ok (.isub, 1) := by decide +kernel
theorem dX0_difference_35 : decode cX0_difference 35 = .ok (.iload_n 3, 1) := by decide +kernel
theorem dX0_difference_36 : decode cX0_difference 36 = .ok (.isub, 1) := by decide +kernel
theorem dX0_difference_37 : decode cX0_difference 37 = .ok (.iload 4, 2) := by decide +kernel
theorem dX0_difference_39 : decode cX0_difference 39 = .ok (.invokevirtual 42, 3) := by decide +kernel
theorem dX0_difference_42 : decode cX0_difference 42 = .ok (.iload 4, 2) := by decide +kernel
theorem dX0_difference_44 : decode cX0_difference 44 = .ok (.invokevirtual 45, 3) := by decide +kernel
theorem dX0_difference_47 : decode cX0_difference 47 = .ok (.ireturn, 1) := by decide +kernel
set_option maxRecDepth 20000 in
theorem ggX0_settle_X0_mask : GoodIn wsX0_settle wsX0_mask := goodIn_r _ [4, 5] (by decide +kernel) (by decide +kernel)
set_option maxRecDepth 20000 in
theorem gX0_settle_X0_mask : GoodIn wsX0_settle (va_wsS RX0 36 yX0_mask wsX0_mask) := goodIn_app (goodIn_of _ (by decide +kernel)) ggX0_settle_X0_mask
set_option maxRecDepth 20000 in
theorem ggX0_settle_X0_mark : GoodIn wsX0_settle wsX0_mark := goodIn_r _ [9, 10, 14] (by decide +kernel) (by decide +kernel)
set_option maxRecDepth 20000 in
theorem gX0_settle_X0_mark : GoodIn wsX0_settle (wsV RX0 48 RX0 yX0_mark wsX0_mark) := goodIn_app (goodIn_of _ (by decide +kernel)) ggX0_settle_X0_mark
set_option maxRecDepth 20000 in
theorem ggX0_settle_X0_signed : GoodIn wsX0_settle wsX0_signed := goodIn_r _ [13] (by decide +kernel) (by decide +kernel)
set_option maxRecDepth 20000 in
theorem gX0_settle_X0_signed : GoodIn wsX0_settle (va_wsS RX0 39 yX0_signed wsX0_signed) := goodIn_app (goodIn_of _ (by decide +kernel)) ggX0_settle_X0_signed
theorem dX0_settle_0 : decode cX0_settle 0 = .ok (.iload_n 1, 1) := by decide +kernel
theorem dX0_settle_1 : decode cX0_settle 1 = .ok (.iload 4, 2) := by decide +kernel
theorem dX0_settle_3 : decode cX0_settle 3 = .ok (.invokestatic 36, 3) := by decide +kernel
theorem dX0_settle_6 : decode cX0_settle 6 = .ok (.iand, 1) := by decide +kernel
theorem dX0_settle_7 : decode cX0_settle 7 = .ok (.istore 5, 2) := by decide +kernel
theorem dX0_settle_9 : decode cX0_settle 9 = .ok (.aload_n 0, 1) := by decide +kernel
theorem dX0_settle_10 : decode cX0_settle 10 = .ok (.iconst 1, 1) := by decide +kernel
theorem dX0_settle_11 : decode cX0_settle 11 = .ok (.iload_n 1, 1) := by decide +kernel
theorem dX0_settle_12 : decode cX0_settle 12 = .ok (.iload 5, 2) := by decide +kernel
theorem dX0_settle_14 : decode cX0_settle 14 = .ok (.if_icmp .eq 7, 3) := by decide +kernel
theorem dX0_settle_17 : decode cX0_settle 17 = .ok (.iconst 1, 1) := by decide +kernel
theorem dX0_settle_18 : decode cX0_settle 18 = .ok (.goto 4, 3) := by decide +kernel
theorem dX0_settle_21 : decode cX0_settle 21 = .ok (.iconst 0, 1) := by decide +kernel
theorem dX0_settle_22 : decode cX0_settle 22 = .ok (.invokevirtual 48, 3) := by decide +kernel
theorem dX0_settle_25 : decode cX0_settle 25 = .ok (.aload_n 0, 1) := by decide +kernel
theorem dX0_settle_26 : decode cX0_settle 26 = .ok (.bipush 16, 2) := by decide +kernel
theorem dX0_settle_28 : decode cX0_settle 28 = .ok (.iload_n 3, 1) := by decide +kernel
theorem dX0_settle_29 : decode cX0_settle 29 = .ok (.bipush 15, 2) := by decide +kernel
theorem dX0_settle_31 : decode cX0_settle 31 = .ok (.iand, 1) := by decide +kernel
theorem dX0_settle_32 : decode cX0_settle 32 = .ok (.iload_n 3, 1) := by decide +kernel
theorem dX0_settle_33 : decode cX0_settle 33 = .ok (.if_icmp .eq 7, 3) := by decide +kernel
theorem dX0_settle_36 : decode cX0_settle 36 = .ok (.iconst 1, 1) := by decide +kernel
theorem dX0_settle_37 : decode cX0_settle 37 = .ok (.goto 4, 3) := by decide +kernel
theorem dX0_settle_40 : decode cX0_settle 40 = .ok (.iconst 0, 1) := by decide +kernel
theorem dX0_settle_41 : decode cX0_settle 41 = .ok (.invokevirtual 48, 3) := by decide +kernel
theorem dX0_settle_44 : decode cX0_settle 44 = .ok (.aload_n 0, 1) := by decide +kernel
theorem dX0_settle_45 : decode cX0_settle 45 = .ok (.sipush 2048, 3) := by decide +kernel
theorem dX0_settle_48 : decode cX0_settle 48 = .ok (.iload_n 2, 1) := by decide +kernel
theorem dX0_settle_49 : decode cX0_settle 49 = .ok (.iload 5, 2) := by decide +kernel
theorem dX0_settle_51 : decode cX0_settle 51 = .ok (.iload 4, 2) := by decide +kernel
theorem dX0_settle_53 : decode cX0_settle 53 = .ok (.invokestatic 39, 3) := by decide +kernel
theorem dX0_settle_56 : decode cX0_settle 56 = .ok (.if_icmp .eq 7, 3) := by decide +kernel
theorem dX0_settle_59 : decode cX0_settle 59 = .ok (.iconst 1, 1) := by decide +kernel
theorem dX0_settle_60 : decode cX0_settle 60 = .ok (.goto 4, 3) := by decide +kernel
theorem dX0_settle_63 : decode cX0_settle 63 = .ok (.iconst 0, 1) := by decide +kernel
theorem dX0_settle_64 : decode cX0_settle 64 = .ok (.invokevirtual 48, 3) := by decide +kernel
theorem dX0_settle_67 : decode cX0_settle 67 = .ok (.iload 5, 2) := by decide +kernel
theorem dX0_settle_69 : decode cX0_settle 69 = .ok (.ireturn, 1) := by decide +kernel
set_option maxRecDepth 20000 in
theorem ggX0_bits_X0_byAnswer : GoodIn wsX0_bits wsX0_byAnswer := goodIn_r _ [6, 1, 7, 8, 5, 9, 10, 11, 12, 13, 14, 15, 16, 17, 18] (by decide +kernel) (by decide +kernel)
set_option maxRecDepth 20000 in
theorem gX0_bits_X0_byAnswer : GoodIn wsX0_bits (wsV RX0 45 RX0 yX0_byAnswer wsX0_byAnswer) := goodIn_app (goodIn_of _ (by decide +kernel)) ggX0_bits_X0_byAnswer
theorem dX0_bits_0 : decode cX0_bits 0 = .ok (.aload_n 0, 1) := by decide +kernel
theorem dX0_bits_1 : decode cX0_bits 1 = .ok (.dup, 1) := by decide +kernel
theorem dX0_bits_2 : decode cX0_bits 2 = .ok (.getfield 9, 3) := by decide +kernel
theorem dX0_bits_5 : decode cX0_bits 5 = .ok (.sipush (-2066), 3) := by decide +kernel
theorem dX0_bits_8 : decode cX0_bits 8 = .ok (.iand, 1) := by decide +kernel
theorem dX0_bits_9 : decode cX0_bits 9 = .ok (.putfield 9, 3) := by decide +kernel
theorem dX0_bits_12 : decode cX0_bits 12 = .ok (.aload_n 0, 1) := by decide +kernel
theorem dX0_bits_13 : decode cX0_bits 13 = .ok (.iload_n 1, 1) := by decide +kernel
theorem dX0_bits_14 : decode cX0_bits 14 = .ok (.iload_n 2, 1) := by decide +kernel
theorem dX0_bits_15 : decode cX0_bits 15 = .ok (.invokevirtual 45, 3) := by decide +kernel
theorem dX0_bits_18 : decode cX0_bits 18 = .ok (.ireturn, 1) := by decide +kernel
set_option maxRecDepth 20000 in
theorem ggX0_shift_X0_shiftOnce : GoodIn wsX0_shift wsX0_shiftOnce := goodIn_r _ [5, 6, 7, 4, 8, 9, 10, 11, 12, 13, 14, 15, 16, 17, 18, 19, 20, 21, 22, 23, 24, 25, 26, 27, 28, 29, 30, 31, 32, 33, 34, 35, 36, 37, 38, 39, 40, 41, 42] (by decide +kernel) (by decide +kernel)
set_option maxRecDepth 20000 in
theorem gX0_shift_X0_shiftOnce : GoodIn wsX0_shift (wsV RX0 52 RX0 yX0_shiftOnce wsX0_shiftOnce) := goodIn_app (goodIn_of _ (by decide +kernel)) ggX0_shift_X0_shiftOnce
theorem dX0_shift_0 : decode cX0_shift 0 = .ok (.iload_n 2, 1) := by decide +kernel
theorem dX0_shift_1 : decode cX0_shift 1 = .ok (.istore 5, 2) := by decide +kernel
theorem dX0_shift_3 : decode cX0_shift 3 = .ok (.iconst 0, 1) := by decide +kernel
theorem dX0_shift_4 : decode cX0_shift 4 = .ok (.istore 6, 2) := by decide +kernel
theorem dX0_shift_6 : decode cX0_shift 6 = .ok (.iload 6, 2) := by decide +kernel
theorem dX0_shift_8 : decode cX0_shift 8 = .ok (.iload_n 3, 1) := by decide +kernel
theorem dX0_shift_9 : decode cX0_shift 9 = .ok (.if_icmp .ge 20, 3) := by decide +kernel
theorem dX0_shift_12 : decode cX0_shift 12 = .ok (.aload_n 0, 1) := by decide +kernel
theorem dX0_shift_13 : decode cX0_shift 13 = .ok (.iload_n 1, 1) := by decide +kernel
theorem dX0_shift_14 : decode cX0_shift 14 = .ok (.iload 5, 2) := by decide +kernel
theorem dX0_shift_16 : decode cX0_shift 16 = .ok (.iload 4, 2) := by decide +kernel
theorem dX0_shift_18 : decode cX0_shift 18 = .ok (.invokevirtual 52, 3) := by decide +kernel
theorem dX0_shift_21 : decode cX0_shift 21 = .ok (.istore 5, 2) := by decide +kernel
theorem dX0_shift_23 : decode cX0_shift 23 = .ok (.iinc 6 1, 3) := by decide +kernel
theorem dX0_shift_26 : decode cX0_shift 26 = .ok (.goto (-20), 3) := by decide +kernel
theorem dX0_shift_29 : decode cX0_shift 29 = .ok (.iload 5, 2) := by decide +kernel
theorem dX0_shift_31 : decode cX0_shift 31 = .ok (.ireturn, 1) := by decide +kernel
set_option maxRecDepth 20000 in
theorem ggX0_shiftOnce_X0_highest : GoodIn wsX0_shiftOnce wsX0_highest := goodIn_r _ [4, 5] (by decide +kernel) (by decide +kernel)
set_option maxRecDepth 20000 in
theorem gX0_shiftOnce_X0_highest : GoodIn wsX0_shiftOnce (va_wsS RX0 15 yX0_highest wsX0_highest) := goodIn_app (goodIn_of _ (by decide +kernel)) ggX0_shiftOnce_X0_highest
set_option maxRecDepth 20000 in
theorem ggX0_shiftOnce_X0_comesIn : GoodIn wsX0_shiftOnce wsX0_comesIn := goodIn_r _ [9, 10, 11, 12, 3, 13, 14, 38] (by decide +kernel) (by decide +kernel)
set_option maxRecDepth 20000 in
theorem gX0_shiftOnce_X0_comesIn : GoodIn wsX0_shiftOnce (wsV RX0 56 RX0 yX0_comesIn wsX0_comesIn) := goodIn_app (goodIn_of _ (by decide +kernel)) ggX0_shiftOnce_X0_comesIn
set_option maxRecDepth 20000 in
theorem ggX0_shiftOnce_X0_mask : GoodIn wsX0_shiftOnce wsX0_mask := goodIn_r _ [17, 18] (by decide +kernel) (by decide +kernel)
set_option maxRecDepth 20000 in
theorem gX0_shiftOnce_X0_mask : GoodIn wsX0_shiftOnce (va_wsS RX0 36 yX0_mask wsX0_mask) := goodIn_app (goodIn_of _ (by decide +kernel)) ggX0_shiftOnce_X0_mask
set_option maxRecDepth 20000 in
theorem ggX0_shiftOnce_X0_mark : GoodIn wsX0_shiftOnce wsX0_mark := goodIn_r _ [22, 14, 38] (by decide +kernel) (by decide +kernel)
set_option maxRecDepth 20000 in
theorem gX0_shiftOnce_X0_mark : GoodIn wsX0_shiftOnce (wsV RX0 48 RX0 yX0_mark wsX0_mark) := goodIn_app (goodIn_of _ (by decide +kernel)) ggX0_shiftOnce_X0_mark
set_option maxRecDepth 20000 in
theorem ggX0_shiftOnce_X0_shiftOverflows : GoodIn wsX0_shiftOnce wsX0_shiftOverflows := goodIn_r _ [26, 10, 11, 12, 3, 13, 14, 38] (by decide +kernel) (by decide +kernel)
set_option maxRecDepth 20000 in
theorem gX0_shiftOnce_X0_shiftOverflows : GoodIn wsX0_shiftOnce (wsV RX0 60 RX0 yX0_shiftOverflows wsX0_shiftOverflows) := goodIn_app (goodIn_of _ (by decide +kernel)) ggX0_shiftOnce_X0_shiftOverflows
set_option maxRecDepth 20000 in
theorem ggX0_shiftOnce_X0_byAnswer : GoodIn wsX0_shiftOnce wsX0_byAnswer := goodIn_r _ [30, 14, 1, 2, 3, 4, 5, 31, 32, 33, 34, 35, 36, 37, 38] (by decide +kernel) (by decide +kernel)
set_option maxRecDepth 20000 in
theorem gX0_shiftOnce_X0_byAnswer : GoodIn wsX0_shiftOnce (wsV RX0 45 RX0 yX0_byAnswer wsX0_byAnswer) := goodIn_app (goodIn_of _ (by decide +kernel)) ggX0_shiftOnce_X0_byAnswer
theorem dX0_shiftOnce_0 : decode cX0_shiftOnce 0 = .ok (.iload_n 3, 1) := by decide +kernel
theorem dX0_shiftOnce_1 : decode cX0_shiftOnce 1 = .ok (.invokestatic 15, 3) := by decide +kernel
theorem dX0_shiftOnce_4 : decode cX0_shiftOnce 4 = .ok (.istore 4, 2) := by decide +kernel
theorem dX0_shiftOnce_6 : decode cX0_shiftOnce 6 = .ok (.iload_n 1, 1) := by decide +kernel
theorem dX0_shiftOnce_7 : decode cX0_shiftOnce 7 = .ok (.iconst 1, 1) := by decide +kernel
theorem dX0_shiftOnce_8 : decode cX0_shiftOnce 8 = .ok (.iand, 1) := by decide +kernel
theorem dX0_shiftOnce_9 : decode cX0_shiftOnce 9 = .ok (.ifCond .ne 7, 3) := by decide +kernel
theorem dX0_shiftOnce_12 : decode cX0_shiftOnce 12 = .ok (.iconst 1, 1) := by decide +kernel
theorem dX0_shiftOnce_13 : decode cX0_shiftOnce 13 = .ok (.goto 4, 3) := by decide +kernel
theorem dX0_shiftOnce_16 : decode cX0_shiftOnce 16 = .ok (.iconst 0, 1) := by decide +kernel
theorem dX0_shiftOnce_17 : decode cX0_shiftOnce 17 = .ok (.istore 5, 2) := by decide +kernel
theorem dX0_shiftOnce_19 : decode cX0_shiftOnce 19 = .ok (.iload_n 2, 1) := by decide +kernel
theorem dX0_shiftOnce_20 : decode cX0_shiftOnce 20 = .ok (.iload 5, 2) := by decide +kernel
theorem dX0_shiftOnce_22 : decode cX0_shiftOnce 22 = .ok (.ifCond .eq 8, 3) := by decide +kernel
theorem dX0_shiftOnce_25 : decode cX0_shiftOnce 25 = .ok (.iload 4, 2) := by decide +kernel
theorem dX0_shiftOnce_27 : decode cX0_shiftOnce 27 = .ok (.goto 4, 3) := by decide +kernel
theorem dX0_shiftOnce_30 : decode cX0_shiftOnce 30 = .ok (.iconst 1, 1) := by decide +kernel
theorem dX0_shiftOnce_31 : decode cX0_shiftOnce 31 = .ok (.iand, 1) := by decide +kernel
theorem dX0_shiftOnce_32 : decode cX0_shiftOnce 32 = .ok (.ifCond .eq 7, 3) := by decide +kernel
theorem dX0_shiftOnce_35 : decode cX0_shiftOnce 35 = .ok (.iconst 1, 1) := by decide +kernel
theorem dX0_shiftOnce_36 : decode cX0_shiftOnce 36 = .ok (.goto 4, 3) := by decide +kernel
theorem dX0_shiftOnce_39 : decode cX0_shiftOnce 39 = .ok (.iconst 0, 1) := by decide +kernel
theorem dX0_shiftOnce_40 : decode cX0_shiftOnce 40 = .ok (.istore 6, 2) := by decide +kernel
theorem dX0_shiftOnce_42 : decode cX0_shiftOnce 42 = .ok (.aload_n 0, 1) := by decide +kernel
theorem dX0_shiftOnce_43 : decode cX0_shiftOnce 43 = .ok (.iload_n 1, 1) := by decide +kernel
theorem dX0_shiftOnce_44 : decode cX0_shiftOnce 44 = .ok (.iload 6, 2) := by decide +kernel
theorem dX0_shiftOnce_46 : decode cX0_shiftOnce 46 = .ok (.iload_n 2, 1) := by decide +kernel
theorem dX0_shiftOnce_47 : decode cX0_shiftOnce 47 = .ok (.iload 4, 2) := by decide +kernel
theorem dX0_shiftOnce_49 : decode cX0_shiftOnce 49 = .ok (.iand, 1) := by decide +kernel
theorem dX0_shiftOnce_50 : decode cX0_shiftOnce 50 = .ok (.ifCond .eq 7, 3) := by decide +kernel
theorem dX0_shiftOnce_53 : decode cX0_shiftOnce 53 = .ok (.iconst 1, 1) := by decide +kernel
theorem dX0_shiftOnce_54 : decode cX0_shiftOnce 54 = .ok (.goto 4, 3) := by decide +kernel
theorem dX0_shiftOnce_57 : decode cX0_shiftOnce 57 = .ok (.iconst 0, 1) := by decide +kernel
theorem dX0_shiftOnce_58 : decode cX0_shiftOnce 58 = .ok (.invokevirtual 56, 3) := by decide +kernel
theorem dX0_shiftOnce_61 : decode cX0_shiftOnce 61 = .ok (.istore 7, 2) := by decide +kernel
theorem dX0_shiftOnce_63 : decode cX0_shiftOnce 63 = .ok (.iload 5, 2) := by decide +kernel
theorem dX0_shiftOnce_65 : decode cX0_shiftOnce 65 = .ok (.ifCond .eq 25, 3) := by decide +kernel
theorem dX0_shiftOnce_68 : decode cX0_shiftOnce 68 = .ok (.iload_n 2, 1) := by decide +kernel
theorem dX0_shiftOnce_69 : decode cX0_shiftOnce 69 = .ok (.iconst 1, 1) := by decide +kernel
theorem dX0_shiftOnce_70 : decode cX0_shiftOnce 70 = .ok (.ishl, 1) := by decide +kernel
theorem dX0_shiftOnce_71 : decode cX0_shiftOnce 71 = .ok (.iload_n 3, 1) := by decide +kernel
theorem dX0_shiftOnce_72 : decode cX0_shiftOnce 72 = .ok (.invokestatic 36, 3) := by decide +kernel
theorem dX0_shiftOnce_75 : decode cX0_shiftOnce 75 = .ok (.iand, 1) := by decide +kernel
theorem dX0_shiftOnce_76 : decode cX0_shiftOnce 76 = .ok (.iload 7, 2) := by decide +kernel
theorem dX0_shiftOnce_78 : decode cX0_shiftOnce 78 = .ok (.ifCond .eq 7, 3) := by decide +kernel
theorem dX0_shiftOnce_81 : decode cX0_shiftOnce 81 = .ok (.iconst 1, 1) := by decide +kernel
theorem dX0_shiftOnce_82 : decode cX0_shiftOnce 82 = .ok (.goto 4, 3) := by decide +kernel
theorem dX0_shiftOnce_85 : decode cX0_shiftOnce 85 = .ok (.iconst 0, 1) := by decide +kernel
theorem dX0_shiftOnce_86 : decode cX0_shiftOnce 86 = .ok (.ior, 1) := by decide +kernel
theorem dX0_shiftOnce_87 : decode cX0_shiftOnce 87 = .ok (.goto 18, 3) := by decide +kernel
theorem dX0_shiftOnce_90 : decode cX0_shiftOnce 90 = .ok (.iload_n 2, 1) := by decide +kernel
theorem dX0_shiftOnce_91 : decode cX0_shiftOnce 91 = .ok (.iconst 1, 1) := by decide +kernel
theorem dX0_shiftOnce_92 : decode cX0_shiftOnce 92 = .ok (.ishr, 1) := by decide +kernel
theorem dX0_shiftOnce_93 : decode cX0_shiftOnce 93 = .ok (.iload 7, 2) := by decide +kernel
theorem dX0_shiftOnce_95 : decode cX0_shiftOnce 95 = .ok (.ifCond .eq 8, 3) := by decide +kernel
theorem dX0_shiftOnce_98 : decode cX0_shiftOnce 98 = .ok (.iload 4, 2) := by decide +kernel
theorem dX0_shiftOnce_100 : decode cX0_shiftOnce 100 = .ok (.goto 4, 3) := by decide +kernel
theorem dX0_shiftOnce_103 : decode cX0_shiftOnce 103 = .ok (.iconst 0, 1) := by decide +kernel
theorem dX0_shiftOnce_104 : decode cX0_shiftOnce 104 = .ok (.ior, 1) := by decide +kernel
theorem dX0_shiftOnce_105 : decode cX0_shiftOnce 105 = .ok (.istore 8, 2) := by decide +kernel
theorem dX0_shiftOnce_107 : decode cX0_shiftOnce 107 = .ok (.aload_n 0, 1) := by decide +kernel
theorem dX0_shiftOnce_108 : decode cX0_shiftOnce 108 = .ok (.iconst 1, 1) := by decide +kernel
theorem dX0_shiftOnce_109 : decode cX0_shiftOnce 109 = .ok (.iload 6, 2) := by decide +kernel
theorem dX0_shiftOnce_111 : decode cX0_shiftOnce 111 = .ok (.invokevirtual 48, 3) := by decide +kernel
theorem dX0_shiftOnce_114 : decode cX0_shiftOnce 114 = .ok (.aload_n 0, 1) := by decide +kernel
theorem dX0_shiftOnce_115 : decode cX0_shiftOnce 115 = .ok (.sipush 2048, 3) := by decide +kernel
theorem dX0_shiftOnce_118 : decode cX0_shiftOnce 118 = .ok (.aload_n 0, 1) := by decide +kernel
theorem dX0_shiftOnce_119 : decode cX0_shiftOnce 119 = .ok (.iload_n 1, 1) := by decide +kernel
theorem dX0_shiftOnce_120 : decode cX0_shiftOnce 120 = .ok (.iload_n 2, 1) := by decide +kernel
theorem dX0_shiftOnce_121 : decode cX0_shiftOnce 121 = .ok (.iload 8, 2) := by decide +kernel
theorem dX0_shiftOnce_123 : decode cX0_shiftOnce 123 = .ok (.iload 4, 2) := by decide +kernel
theorem dX0_shiftOnce_125 : decode cX0_shiftOnce 125 = .ok (.invokevirtual 60, 3) := by decide +kernel
theorem dX0_shiftOnce_128 : decode cX0_shiftOnce 128 = .ok (.invokevirtual 48, 3) := by decide +kernel
theorem dX0_shiftOnce_131 : decode cX0_shiftOnce 131 = .ok (.iload_n 1, 1) := by decide +kernel
theorem dX0_shiftOnce_132 : decode cX0_shiftOnce 132 = .ok (.iconst 4, 1) := by decide +kernel
theorem dX0_shiftOnce_133 : decode cX0_shiftOnce 133 = .ok (.if_icmp .lt 11, 3) := by decide +kernel
theorem dX0_shiftOnce_136 : decode cX0_shiftOnce 136 = .ok (.aload_n 0, 1) := by decide +kernel
theorem dX0_shiftOnce_137 : decode cX0_shiftOnce 137 = .ok (.iload 8, 2) := by decide +kernel
theorem dX0_shiftOnce_139 : decode cX0_shiftOnce 139 = .ok (.iload_n 3, 1) := by decide +kernel
theorem dX0_shiftOnce_140 : decode cX0_shiftOnce 140 = .ok (.invokevirtual 45, 3) := by decide +kernel
theorem dX0_shiftOnce_143 : decode cX0_shiftOnce 143 = .ok (.pop, 1) := by decide +kernel
theorem dX0_shiftOnce_144 : decode cX0_shiftOnce 144 = .ok (.iload 8, 2) := by decide +kernel
theorem dX0_shiftOnce_146 : decode cX0_shiftOnce 146 = .ok (.ireturn, 1) := by decide +kernel
set_option maxRecDepth 20000 in
theorem ggX0_comesIn_X0_has : GoodIn wsX0_comesIn wsX0_has := goodIn_r _ [5, 6, 7] (by decide +kernel) (by decide +kernel)
set_option maxRecDepth 20000 in
theorem gX0_comesIn_X0_has : GoodIn wsX0_comesIn (wsV RX0 64 RX0 yX0_has wsX0_has) := goodIn_app (goodIn_of _ (by decide +kernel)) ggX0_comesIn_X0_has
theorem dX0_comesIn_0 : decode cX0_comesIn 0 = .ok (.iload_n 1, 1) := by decide +kernel
theorem dX0_comesIn_1 : decode cX0_comesIn 1 = .ok (.tableswitch 57 0 7 #[47, 47, 49, 49, 57, 57, 57, 55], 47) := by decide +kernel
theorem dX0_comesIn_48 : decode cX0_comesIn 48 = .ok (.iload_n 2, 1) := by decide +kernel
theorem dX0_comesIn_49 : decode cX0_comesIn 49 = .ok (.ireturn, 1) := by decide +kernel
theorem dX0_comesIn_50 : decode cX0_comesIn 50 = .ok (.aload_n 0, 1) := by decide +kernel
theorem dX0_comesIn_51 : decode cX0_comesIn 51 = .ok (.iconst 1, 1) := by decide +kernel
theorem dX0_comesIn_52 : decode cX0_comesIn 52 = .ok (.invokevirtual 64, 3) := by decide +kernel
theorem dX0_comesIn_55 : decode cX0_comesIn 55 = .ok (.ireturn, 1) := by decide +kernel
theorem dX0_comesIn_56 : decode cX0_comesIn 56 = .ok (.iload_n 3, 1) := by decide +kernel
theorem dX0_comesIn_57 : decode cX0_comesIn 57 = .ok (.ireturn, 1) := by decide +kernel
theorem dX0_comesIn_58 : decode cX0_comesIn 58 = .ok (.iconst 0, 1) := by decide +kernel
theorem dX0_comesIn_59 : decode cX0_comesIn 59 = .ok (.ireturn, 1) := by decide +kernel
set_option maxRecDepth 20000 in
theorem ggX0_shiftOverflows_X0_has : GoodIn wsX0_shiftOverflows wsX0_has := goodIn_r _ [5, 6, 7] (by decide +kernel) (by decide +kernel)
set_option maxRecDepth 20000 in
theorem gX0_shiftOverflows_X0_has : GoodIn wsX0_shiftOverflows (wsV RX0 64 RX0 yX0_has wsX0_has) := goodIn_app (goodIn_of _ (by decide +kernel)) ggX0_shiftOverflows_X0_has
theorem dX0_shiftOverflows_0 : decode cX0_shiftOverflows 0 = .ok (.iload_n 1, 1) := by decide +kernel
theorem dX0_shiftOverflows_1 : decode cX0_shiftOverflows 1 = .ok (.tableswitch 75 1 7 #[43, 75, 43, 75, 60, 75, 73], 43) := by decide +kernel
theorem dX0_shiftOverflows_44 : decode cX0_shiftOverflows 44 = .ok (.iload_n 3, 1) := by decide +kernel
theorem dX0_shiftOverflows_45 : decode cX0_shiftOverflows 45 = .ok (.iload_n 3, 1) := by decide +kernel
theorem dX0_shiftOverflows_46 : decode cX0_shiftOverflows 46 = .ok (.iconst 1, 1) := by decide +kernel
theorem dX0_shiftOverflows_47 : decode cX0_shiftOverflows 47 = .ok (.ishl, 1) := by decide +kernel
theorem dX0_shiftOverflows_48 : decode cX0_shiftOverflows 48 = .ok (.ixor, 1) := by decide +kernel
theorem dX0_shiftOverflows_49 : decode cX0_shiftOverflows 49 = .ok (.iload 4, 2) := by decide +kernel
theorem dX0_shiftOverflows_51 : decode cX0_shiftOverflows 51 = .ok (.iand, 1) := by decide +kernel
theorem dX0_shiftOverflows_52 : decode cX0_shiftOverflows 52 = .ok (.ifCond .eq 7, 3) := by decide +kernel
theorem dX0_shiftOverflows_55 : decode cX0_shiftOverflows 55 = .ok (.iconst 1, 1) := by decide +kernel
theorem dX0_shiftOverflows_56 : decode cX0_shiftOverflows 56 = .ok (.goto 4, 3) := by decide +kernel
theorem dX0_shiftOverflows_59 : decode cX0_shiftOverflows 59 = .ok (.iconst 0, 1) := by decide +kernel
theorem dX0_shiftOverflows_60 : decode cX0_shiftOverflows 60 = .ok (.ireturn, 1) := by decide +kernel
theorem dX0_shiftOverflows_61 : decode cX0_shiftOverflows 61 = .ok (.iload_n 2, 1) := by decide +kernel
theorem dX0_shiftOverflows_62 : decode cX0_shiftOverflows 62 = .ok (.iload 4, 2) := by decide +kernel
theorem dX0_shiftOverflows_64 : decode cX0_shiftOverflows 64 = .ok (.iand, 1) := by decide +kernel
theorem dX0_shiftOverflows_65 : decode cX0_shiftOverflows 65 = .ok (.ifCond .eq 7, 3) := by decide +kernel
theorem dX0_shiftOverflows_68 : decode cX0_shiftOverflows 68 = .ok (.iconst 1, 1) := by decide +kernel
theorem dX0_shiftOverflows_69 : decode cX0_shiftOverflows 69 = .ok (.goto 4, 3) := by decide +kernel
theorem dX0_shiftOverflows_72 : decode cX0_shiftOverflows 72 = .ok (.iconst 0, 1) := by decide +kernel
theorem dX0_shiftOverflows_73 : decode cX0_shiftOverflows 73 = .ok (.ireturn, 1) := by decide +kernel
theorem dX0_shiftOverflows_74 : decode cX0_shiftOverflows 74 = .ok (.iconst 0, 1) := by decide +kernel
theorem dX0_shiftOverflows_75 : decode cX0_shiftOverflows 75 = .ok (.ireturn, 1) := by decide +kernel
theorem dX0_shiftOverflows_76 : decode cX0_shiftOverflows 76 = .ok (.aload_n 0, 1) := by decide +kernel
theorem dX0_shiftOverflows_77 : decode cX0_shiftOverflows 77 = .ok (.iconst 1, 1) := by decide +kernel
theorem dX0_shiftOverflows_78 : decode cX0_shiftOverflows 78 = .ok (.invokevirtual 64, 3) := by decide +kernel
theorem dX0_shiftOverflows_81 : decode cX0_shiftOverflows 81 = .ok (.iload_n 3, 1) := by decide +kernel
theorem dX0_shiftOverflows_82 : decode cX0_shiftOverflows 82 = .ok (.iload 4, 2) := by decide +kernel
theorem dX0_shiftOverflows_84 : decode cX0_shiftOverflows 84 = .ok (.iand, 1) := by decide +kernel
theorem dX0_shiftOverflows_85 : decode cX0_shiftOverflows 85 = .ok (.ifCond .eq 7, 3) := by decide +kernel
theorem dX0_shiftOverflows_88 : decode cX0_shiftOverflows 88 = .ok (.iconst 1, 1) := by decide +kernel
theorem dX0_shiftOverflows_89 : decode cX0_shiftOverflows 89 = .ok (.goto 4, 3) := by decide +kernel
theorem dX0_shiftOverflows_92 : decode cX0_shiftOverflows 92 = .ok (.iconst 0, 1) := by decide +kernel
theorem dX0_shiftOverflows_93 : decode cX0_shiftOverflows 93 = .ok (.if_icmp .eq 7, 3) := by decide +kernel
theorem dX0_shiftOverflows_96 : decode cX0_shiftOverflows 96 = .ok (.iconst 1, 1) := by decide +kernel
theorem dX0_shiftOverflows_97 : decode cX0_shiftOverflows 97 = .ok (.goto 4, 3) := by decide +kernel
theorem dX0_shiftOverflows_100 : decode cX0_shiftOverflows 100 = .ok (.iconst 0, 1) := by decide +kernel
theorem dX0_shiftOverflows_101 : decode cX0_shiftOverflows 101 = .ok (.ireturn, 1) := by decide +kernel
set_option maxRecDepth 20000 in
theorem ggX0_product_X0_signed : GoodIn wsX0_product wsX0_signed := goodIn_r _ [4] (by decide +kernel) (by decide +kernel)
set_option maxRecDepth 20000 in
theorem gX0_product_X0_signed : GoodIn wsX0_product (va_wsS RX0 39 yX0_signed wsX0_signed) := goodIn_app (goodIn_of _ (by decide +kernel)) ggX0_product_X0_signed
set_option maxRecDepth 20000 in
theorem ggX0_product_X0_mask : GoodIn wsX0_product wsX0_mask := goodIn_r _ [7, 8] (by decide +kernel) (by decide +kernel)
set_option maxRecDepth 20000 in
theorem gX0_product_X0_mask : GoodIn wsX0_product (va_wsS RX0 36 yX0_mask wsX0_mask) := goodIn_app (goodIn_of _ (by decide +kernel)) ggX0_product_X0_mask
set_option maxRecDepth 20000 in
theorem ggX0_product_X0_mark : GoodIn wsX0_product wsX0_mark := goodIn_r _ [12, 13, 14] (by decide +kernel) (by decide +kernel)
set_option maxRecDepth 20000 in
theorem gX0_product_X0_mark : GoodIn wsX0_product (wsV RX0 48 RX0 yX0_mark wsX0_mark) := goodIn_app (goodIn_of _ (by decide +kernel)) ggX0_product_X0_mark
theorem dX0_product_0 : decode cX0_product 0 = .ok (.iload 4, 2) := by decide +kernel
theorem dX0_product_2 : decode cX0_product 2 = .ok (.ifCond .eq 19, 3) := by decide +kernel
theorem dX0_product_5 : decode cX0_product 5 = .ok (.iload_n 1, 1) := by decide +kernel
theorem dX0_product_6 : decode cX0_product 6 = .ok (.iload_n 3, 1) := by decide +kernel
theorem dX0_product_7 : decode cX0_product 7 = .ok (.invokestatic 39, 3) := by decide +kernel
theorem dX0_product_10 : decode cX0_product 10 = .ok (.i2l, 1) := by decide +kernel
theorem dX0_product_11 : decode cX0_product 11 = .ok (.iload_n 2, 1) := by decide +kernel
theorem dX0_product_12 : decode cX0_product 12 = .ok (.iload_n 3, 1) := by decide +kernel
theorem dX0_product_13 : decode cX0_product 13 = .ok (.invokestatic 39, 3) := by decide +kernel
theorem dX0_product_16 : decode cX0_product 16 = .ok (.i2l, 1) := by decide +kernel
theorem dX0_product_17 : decode cX0_product 17 = .ok (.lmul, 1) := by decide +kernel
theorem dX0_product_18 : decode cX0_product 18 = .ok (.goto 8, 3) := by decide +kernel
theorem dX0_product_21 : decode cX0_product 21 = .ok (.iload_n 1, 1) := by decide +kernel
theorem dX0_product_22 : decode cX0_product 22 = .ok (.i2l, 1) := by decide +kernel
theorem dX0_product_23 : decode cX0_product 23 = .ok (.iload_n 2, 1) := by decide +kernel
theorem dX0_product_24 : decode cX0_product 24 = .ok (.i2l, 1) := by decide +kernel
theorem dX0_product_25 : decode cX0_product 25 = .ok (.lmul, 1) := by decide +kernel
theorem dX0_product_26 : decode cX0_product 26 = .ok (.lstore 5, 2) := by decide +kernel
theorem dX0_product_28 : decode cX0_product 28 = .ok (.lload 5, 2) := by decide +kernel
theorem dX0_product_30 : decode cX0_product 30 = .ok (.l2i, 1) := by decide +kernel
theorem dX0_product_31 : decode cX0_product 31 = .ok (.iload_n 3, 1) := by decide +kernel
theorem dX0_product_32 : decode cX0_product 32 = .ok (.invokestatic 36, 3) := by decide +kernel
theorem dX0_product_35 : decode cX0_product 35 = .ok (.iand, 1) := by decide +kernel
theorem dX0_product_36 : decode cX0_product 36 = .ok (.istore 7, 2) := by decide +kernel
theorem dX0_product_38 : decode cX0_product 38 = .ok (.lload 5, 2) := by decide +kernel
theorem dX0_product_40 : decode cX0_product 40 = .ok (.iload 4, 2) := by decide +kernel
theorem dX0_product_42 : decode cX0_product 42 = .ok (.ifCond .eq 12, 3) := by decide +kernel
theorem dX0_product_45 : decode cX0_product 45 = .ok (.iload 7, 2) := by decide +kernel
theorem dX0_product_47 : decode cX0_product 47 = .ok (.iload_n 3, 1) := by decide +kernel
theorem dX0_product_48 : decode cX0_product 48 = .ok (.invokestatic 39, 3) := by decide +kernel
theorem dX0_product_51 : decode cX0_product 51 = .ok (.goto 5, 3) := by decide +kernel
theorem dX0_product_54 : decode cX0_product 54 = .ok (.iload 7, 2) := by decide +kernel
theorem dX0_product_56 : decode cX0_product 56 = .ok (.i2l, 1) := by decide +kernel
theorem dX0_product_57 : decode cX0_product 57 = .ok (.lcmp, 1) := by decide +kernel
theorem dX0_product_58 : decode cX0_product 58 = .ok (.ifCond .eq 7, 3) := by decide +kernel
theorem dX0_product_61 : decode cX0_product 61 = .ok (.iconst 1, 1) := by decide +kernel
theorem dX0_product_62 : decode cX0_product 62 = .ok (.goto 4, 3) := by decide +kernel
theorem dX0_product_65 : decode cX0_product 65 = .ok (.iconst 0, 1) := by decide +kernel
theorem dX0_product_66 : decode cX0_product 66 = .ok (.istore 8, 2) := by decide +kernel
theorem dX0_product_68 : decode cX0_product 68 = .ok (.aload_n 0, 1) := by decide +kernel
theorem dX0_product_69 : decode cX0_product 69 = .ok (.iconst 1, 1) := by decide +kernel
theorem dX0_product_70 : decode cX0_product 70 = .ok (.iload 8, 2) := by decide +kernel
theorem dX0_product_72 : decode cX0_product 72 = .ok (.invokevirtual 48, 3) := by decide +kernel
theorem dX0_product_75 : decode cX0_product 75 = .ok (.aload_n 0, 1) := by decide +kernel
theorem dX0_product_76 : decode cX0_product 76 = .ok (.sipush 2048, 3) := by decide +kernel
theorem dX0_product_79 : decode cX0_product 79 = .ok (.iload 8, 2) := by decide +kernel
theorem dX0_product_81 : decode cX0_product 81 = .ok (.invokevirtual 48, 3) := by decide +kernel
theorem dX0_product_84 : decode cX0_product 84 = .ok (.lload 5, 2) := by decide +kernel
theorem dX0_product_86 : decode cX0_product 86 = .ok (.l2i, 1) := by decide +kernel
theorem dX0_product_87 : decode cX0_product 87 = .ok (.ireturn, 1) := by decide +kernel
set_option maxRecDepth 20000 in
theorem ggX0_fits_X0_highest : GoodIn wsX0_fits wsX0_highest := goodIn_r _ [4, 5] (by decide +kernel) (by decide +kernel)
set_option maxRecDepth 20000 in
theorem gX0_fits_X0_highest : GoodIn wsX0_fits (va_wsS RX0 15 yX0_highest wsX0_highest) := goodIn_app (goodIn_of _ (by decide +kernel)) ggX0_fits_X0_highest
set_option maxRecDepth 20000 in
theorem ggX0_fits_X0_mask : GoodIn wsX0_fits wsX0_mask := goodIn_r _ [8, 9] (by decide +kernel) (by decide +kernel)
set_option maxRecDepth 20000 in
theorem gX0_fits_X0_mask : GoodIn wsX0_fits (va_wsS RX0 36 yX0_mask wsX0_mask) := goodIn_app (goodIn_of _ (by decide +kernel)) ggX0_fits_X0_mask
theorem dX0_fits_0 : decode cX0_fits 0 = .ok (.iload_n 3, 1) := by decide +kernel
theorem dX0_fits_1 : decode cX0_fits 1 = .ok (.ifCond .eq 13, 3) := by decide +kernel
theorem dX0_fits_4 : decode cX0_fits 4 = .ok (.iload_n 2, 1) := by decide +kernel
theorem dX0_fits_5 : decode cX0_fits 5 = .ok (.invokestatic 15, 3) := by decide +kernel
theorem dX0_fits_8 : decode cX0_fits 8 = .ok (.iconst 1, 1) := by decide +kernel
theorem dX0_fits_9 : decode cX0_fits 9 = .ok (.isub, 1) := by decide +kernel
theorem dX0_fits_10 : decode cX0_fits 10 = .ok (.i2l, 1) := by decide +kernel
theorem dX0_fits_11 : decode cX0_fits 11 = .ok (.goto 8, 3) := by decide +kernel
theorem dX0_fits_14 : decode cX0_fits 14 = .ok (.iload_n 2, 1) := by decide +kernel
theorem dX0_fits_15 : decode cX0_fits 15 = .ok (.invokestatic 36, 3) := by decide +kernel
theorem dX0_fits_18 : decode cX0_fits 18 = .ok (.i2l, 1) := by decide +kernel
theorem dX0_fits_19 : decode cX0_fits 19 = .ok (.lstore 4, 2) := by decide +kernel
theorem dX0_fits_21 : decode cX0_fits 21 = .ok (.lload_n 0, 1) := by decide +kernel
theorem dX0_fits_22 : decode cX0_fits 22 = .ok (.lload 4, 2) := by decide +kernel
theorem dX0_fits_24 : decode cX0_fits 24 = .ok (.lcmp, 1) := by decide +kernel
theorem dX0_fits_25 : decode cX0_fits 25 = .ok (.ifCond .gt 23, 3) := by decide +kernel
theorem dX0_fits_28 : decode cX0_fits 28 = .ok (.lload_n 0, 1) := by decide +kernel
theorem dX0_fits_29 : decode cX0_fits 29 = .ok (.iload_n 3, 1) := by decide +kernel
theorem dX0_fits_30 : decode cX0_fits 30 = .ok (.ifCond .eq 9, 3) := by decide +kernel
theorem dX0_fits_33 : decode cX0_fits 33 = .ok (.lload 4, 2) := by decide +kernel
theorem dX0_fits_35 : decode cX0_fits 35 = .ok (.lneg, 1) := by decide +kernel
theorem dX0_fits_36 : decode cX0_fits 36 = .ok (.goto 4, 3) := by decide +kernel
theorem dX0_fits_39 : decode cX0_fits 39 = .ok (.lconst 0, 1) := by decide +kernel
theorem dX0_fits_40 : decode cX0_fits 40 = .ok (.lcmp, 1) := by decide +kernel
theorem dX0_fits_41 : decode cX0_fits 41 = .ok (.ifCond .lt 7, 3) := by decide +kernel
theorem dX0_fits_44 : decode cX0_fits 44 = .ok (.iconst 1, 1) := by decide +kernel
theorem dX0_fits_45 : decode cX0_fits 45 = .ok (.goto 4, 3) := by decide +kernel
theorem dX0_fits_48 : decode cX0_fits 48 = .ok (.iconst 0, 1) := by decide +kernel
theorem dX0_fits_49 : decode cX0_fits 49 = .ok (.ireturn, 1) := by decide +kernel
set_option maxRecDepth 20000 in
theorem ggX0_adjustment_X0_decimal : GoodIn wsX0_adjustment wsX0_decimal := goodIn_r _ [5, 6, 7, 8, 9, 4, 10, 11, 12, 13, 14, 15, 16, 17, 18, 19, 20, 21, 22, 23, 24, 25, 26, 27, 28, 29, 30, 43] (by decide +kernel) (by decide +kernel)
set_option maxRecDepth 20000 in
theorem gX0_adjustment_X0_decimal : GoodIn wsX0_adjustment (wsV RX0 68 RX0 yX0_decimal wsX0_decimal) := goodIn_app (goodIn_of _ (by decide +kernel)) ggX0_adjustment_X0_decimal
set_option maxRecDepth 20000 in
theorem ggX0_adjustment_X0_unpacked : GoodIn wsX0_adjustment wsX0_unpacked := goodIn_r _ [34, 7, 8, 9, 4, 10, 11, 12, 13, 14, 15, 43] (by decide +kernel) (by decide +kernel)
set_option maxRecDepth 20000 in
theorem gX0_adjustment_X0_unpacked : GoodIn wsX0_adjustment (wsV RX0 72 RX0 yX0_unpacked wsX0_unpacked) := goodIn_app (goodIn_of _ (by decide +kernel)) ggX0_adjustment_X0_unpacked
set_option maxRecDepth 20000 in
theorem ggX0_adjustment_X0_parts : GoodIn wsX0_adjustment wsX0_parts := goodIn_r _ [38, 16, 17, 18, 4, 19, 11, 20, 21, 22, 23, 24, 25, 26, 27, 28, 29, 30, 43] (by decide +kernel) (by decide +kernel)
set_option maxRecDepth 20000 in
theorem gX0_adjustment_X0_parts : GoodIn wsX0_adjustment (wsV RX0 75 RX0 yX0_parts wsX0_parts) := goodIn_app (goodIn_of _ (by decide +kernel)) ggX0_adjustment_X0_parts
set_option maxRecDepth 20000 in
theorem ggX0_adjustment_X0_whole : GoodIn wsX0_adjustment wsX0_whole := goodIn_r _ [42, 16, 17, 18, 4, 19, 11, 20, 21, 22, 23, 24, 25, 26, 27, 28, 29, 30, 43] (by decide +kernel) (by decide +kernel)
set_option maxRecDepth 20000 in
theorem gX0_adjustment_X0_whole : GoodIn wsX0_adjustment (wsV RX0 78 RX0 yX0_whole wsX0_whole) := goodIn_app (goodIn_of _ (by decide +kernel)) ggX0_adjustment_X0_whole
theorem dX0_adjustment_0 : decode cX0_adjustment 0 = .ok (.iload_n 1, 1) := by decide +kernel
theorem dX0_adjustment_1 : decode cX0_adjustment 1 = .ok (.tableswitch 74 0 4 #[35, 42, 49, 56, 63], 35) := by decide +kernel
theorem dX0_adjustment_36 : decode cX0_adjustment 36 = .ok (.aload_n 0, 1) := by decide +kernel
theorem dX0_adjustment_37 : decode cX0_adjustment 37 = .ok (.iload_n 2, 1) := by decide +kernel
theorem dX0_adjustment_38 : decode cX0_adjustment 38 = .ok (.iconst 1, 1) := by decide +kernel
theorem dX0_adjustment_39 : decode cX0_adjustment 39 = .ok (.invokevirtual 68, 3) := by decide +kernel
theorem dX0_adjustment_42 : decode cX0_adjustment 42 = .ok (.ireturn, 1) := by decide +kernel
theorem dX0_adjustment_43 : decode cX0_adjustment 43 = .ok (.aload_n 0, 1) := by decide +kernel
theorem dX0_adjustment_44 : decode cX0_adjustment 44 = .ok (.iload_n 2, 1) := by decide +kernel
theorem dX0_adjustment_45 : decode cX0_adjustment 45 = .ok (.iconst (-1), 1) := by decide +kernel
theorem dX0_adjustment_46 : decode cX0_adjustment 46 = .ok (.invokevirtual 68, 3) := by decide +kernel
theorem dX0_adjustment_49 : decode cX0_adjustment 49 = .ok (.ireturn, 1) := by decide +kernel
theorem dX0_adjustment_50 : decode cX0_adjustment 50 = .ok (.aload_n 0, 1) := by decide +kernel
theorem dX0_adjustment_51 : decode cX0_adjustment 51 = .ok (.iload_n 2, 1) := by decide +kernel
theorem dX0_adjustment_52 : decode cX0_adjustment 52 = .ok (.iconst 1, 1) := by decide +kernel
theorem dX0_adjustment_53 : decode cX0_adjustment 53 = .ok (.invokevirtual 72, 3) := by decide +kernel
theorem dX0_adjustment_56 : decode cX0_adjustment 56 = .ok (.ireturn, 1) := by decide +kernel
theorem dX0_adjustment_57 : decode cX0_adjustment 57 = .ok (.aload_n 0, 1) := by decide +kernel
theorem dX0_adjustment_58 : decode cX0_adjustment 58 = .ok (.iload_n 2, 1) := by decide +kernel
theorem dX0_adjustment_59 : decode cX0_adjustment 59 = .ok (.iconst (-1), 1) := by decide +kernel
theorem dX0_adjustment_60 : decode cX0_adjustment 60 = .ok (.invokevirtual 72, 3) := by decide +kernel
theorem dX0_adjustment_63 : decode cX0_adjustment 63 = .ok (.ireturn, 1) := by decide +kernel
theorem dX0_adjustment_64 : decode cX0_adjustment 64 = .ok (.aload_n 0, 1) := by decide +kernel
theorem dX0_adjustment_65 : decode cX0_adjustment 65 = .ok (.iload_n 2, 1) := by decide +kernel
theorem dX0_adjustment_66 : decode cX0_adjustment 66 = .ok (.sipush 255, 3) := by decide +kernel
theorem dX0_adjustment_69 : decode cX0_adjustment 69 = .ok (.iand, 1) := by decide +kernel
theorem dX0_adjustment_70 : decode cX0_adjustment 70 = .ok (.iload_n 3, 1) := by decide +kernel
theorem dX0_adjustment_71 : decode cX0_adjustment 71 = .ok (.invokevirtual 75, 3) := by decide +kernel
theorem dX0_adjustment_74 : decode cX0_adjustment 74 = .ok (.ireturn, 1) := by decide +kernel
theorem dX0_adjustment_75 : decode cX0_adjustment 75 = .ok (.aload_n 0, 1) := by decide +kernel
theorem dX0_adjustment_76 : decode cX0_adjustment 76 = .ok (.iload_n 2, 1) := by decide +kernel
theorem dX0_adjustment_77 : decode cX0_adjustment 77 = .ok (.iload_n 3, 1) := by decide +kernel
theorem dX0_adjustment_78 : decode cX0_adjustment 78 = .ok (.invokevirtual 78, 3) := by decide +kernel
theorem dX0_adjustment_81 : decode cX0_adjustment 81 = .ok (.ireturn, 1) := by decide +kernel
set_option maxRecDepth 20000 in
theorem ggX0_decimal_X0_has : GoodIn wsX0_decimal wsX0_has := goodIn_r _ [6, 7, 27] (by decide +kernel) (by decide +kernel)
set_option maxRecDepth 20000 in
theorem gX0_decimal_X0_has : GoodIn wsX0_decimal (wsV RX0 64 RX0 yX0_has wsX0_has) := goodIn_app (goodIn_of _ (by decide +kernel)) ggX0_decimal_X0_has
set_option maxRecDepth 20000 in
theorem ggX0_decimal_X0_mark : GoodIn wsX0_decimal wsX0_mark := goodIn_r _ [11, 7, 27] (by decide +kernel) (by decide +kernel)
set_option maxRecDepth 20000 in
theorem gX0_decimal_X0_mark : GoodIn wsX0_decimal (wsV RX0 48 RX0 yX0_mark wsX0_mark) := goodIn_app (goodIn_of _ (by decide +kernel)) ggX0_decimal_X0_mark
set_option maxRecDepth 20000 in
theorem ggX0_decimal_X0_byAnswer : GoodIn wsX0_decimal wsX0_byAnswer := goodIn_r _ [15, 7, 16, 17, 5, 18, 19, 20, 21, 22, 23, 24, 25, 26, 27] (by decide +kernel) (by decide +kernel)
set_option maxRecDepth 20000 in
theorem gX0_decimal_X0_byAnswer : GoodIn wsX0_decimal (wsV RX0 45 RX0 yX0_byAnswer wsX0_byAnswer) := goodIn_app (goodIn_of _ (by decide +kernel)) ggX0_decimal_X0_byAnswer
theorem dX0_decimal_0 : decode cX0_decimal 0 = .ok (.iload_n 1, 1) := by decide +kernel
theorem dX0_decimal_1 : decode cX0_decimal 1 = .ok (.sipush 255, 3) := by decide +kernel
theorem dX0_decimal_4 : decode cX0_decimal 4 = .ok (.iand, 1) := by decide +kernel
theorem dX0_decimal_5 : decode cX0_decimal 5 = .ok (.istore_n 3, 1) := by decide +kernel
theorem dX0_decimal_6 : decode cX0_decimal 6 = .ok (.iload_n 3, 1) := by decide +kernel
theorem dX0_decimal_7 : decode cX0_decimal 7 = .ok (.bipush 15, 2) := by decide +kernel
theorem dX0_decimal_9 : decode cX0_decimal 9 = .ok (.iand, 1) := by decide +kernel
theorem dX0_decimal_10 : decode cX0_decimal 10 = .ok (.bipush 9, 2) := by decide +kernel
theorem dX0_decimal_12 : decode cX0_decimal 12 = .ok (.if_icmp .gt 12, 3) := by decide +kernel
theorem dX0_decimal_15 : decode cX0_decimal 15 = .ok (.aload_n 0, 1) := by decide +kernel
theorem dX0_decimal_16 : decode cX0_decimal 16 = .ok (.bipush 16, 2) := by decide +kernel
theorem dX0_decimal_18 : decode cX0_decimal 18 = .ok (.invokevirtual 64, 3) := by decide +kernel
theorem dX0_decimal_21 : decode cX0_decimal 21 = .ok (.ifCond .eq 7, 3) := by decide +kernel
theorem dX0_decimal_24 : decode cX0_decimal 24 = .ok (.iconst 1, 1) := by decide +kernel
theorem dX0_decimal_25 : decode cX0_decimal 25 = .ok (.goto 4, 3) := by decide +kernel
theorem dX0_decimal_28 : decode cX0_decimal 28 = .ok (.iconst 0, 1) := by decide +kernel
theorem dX0_decimal_29 : decode cX0_decimal 29 = .ok (.istore 4, 2) := by decide +kernel
theorem dX0_decimal_31 : decode cX0_decimal 31 = .ok (.iload_n 3, 1) := by decide +kernel
theorem dX0_decimal_32 : decode cX0_decimal 32 = .ok (.sipush 153, 3) := by decide +kernel
theorem dX0_decimal_35 : decode cX0_decimal 35 = .ok (.if_icmp .gt 11, 3) := by decide +kernel
theorem dX0_decimal_38 : decode cX0_decimal 38 = .ok (.aload_n 0, 1) := by decide +kernel
theorem dX0_decimal_39 : decode cX0_decimal 39 = .ok (.iconst 1, 1) := by decide +kernel
theorem dX0_decimal_40 : decode cX0_decimal 40 = .ok (.invokevirtual 64, 3) := by decide +kernel
theorem dX0_decimal_43 : decode cX0_decimal 43 = .ok (.ifCond .eq 7, 3) := by decide +kernel
theorem dX0_decimal_46 : decode cX0_decimal 46 = .ok (.iconst 1, 1) := by decide +kernel
theorem dX0_decimal_47 : decode cX0_decimal 47 = .ok (.goto 4, 3) := by decide +kernel
theorem dX0_decimal_50 : decode cX0_decimal 50 = .ok (.iconst 0, 1) := by decide +kernel
theorem dX0_decimal_51 : decode cX0_decimal 51 = .ok (.istore 5, 2) := by decide +kernel
theorem dX0_decimal_53 : decode cX0_decimal 53 = .ok (.iload_n 2, 1) := by decide +kernel
theorem dX0_decimal_54 : decode cX0_decimal 54 = .ok (.ifCond .ge 18, 3) := by decide +kernel
theorem dX0_decimal_57 : decode cX0_decimal 57 = .ok (.iload 4, 2) := by decide +kernel
theorem dX0_decimal_59 : decode cX0_decimal 59 = .ok (.ifCond .eq 13, 3) := by decide +kernel
theorem dX0_decimal_62 : decode cX0_decimal 62 = .ok (.iload_n 3, 1) := by decide +kernel
theorem dX0_decimal_63 : decode cX0_decimal 63 = .ok (.bipush 6, 2) := by decide +kernel
theorem dX0_decimal_65 : decode cX0_decimal 65 = .ok (.if_icmp .ge 7, 3) := by decide +kernel
theorem dX0_decimal_68 : decode cX0_decimal 68 = .ok (.iconst 1, 1) := by decide +kernel
theorem dX0_decimal_69 : decode cX0_decimal 69 = .ok (.goto 4, 3) := by decide +kernel
theorem dX0_decimal_72 : decode cX0_decimal 72 = .ok (.iconst 0, 1) := by decide +kernel
theorem dX0_decimal_73 : decode cX0_decimal 73 = .ok (.istore 6, 2) := by decide +kernel
theorem dX0_decimal_75 : decode cX0_decimal 75 = .ok (.iload_n 3, 1) := by decide +kernel
theorem dX0_decimal_76 : decode cX0_decimal 76 = .ok (.iload_n 2, 1) := by decide +kernel
theorem dX0_decimal_77 : decode cX0_decimal 77 = .ok (.iload 4, 2) := by decide +kernel
theorem dX0_decimal_79 : decode cX0_decimal 79 = .ok (.ifCond .eq 8, 3) := by decide +kernel
theorem dX0_decimal_82 : decode cX0_decimal 82 = .ok (.bipush 6, 2) := by decide +kernel
theorem dX0_decimal_84 : decode cX0_decimal 84 = .ok (.goto 4, 3) := by decide +kernel
theorem dX0_decimal_87 : decode cX0_decimal 87 = .ok (.iconst 0, 1) := by decide +kernel
theorem dX0_decimal_88 : decode cX0_decimal 88 = .ok (.iload 5, 2) := by decide +kernel
theorem dX0_decimal_90 : decode cX0_decimal 90 = .ok (.ifCond .eq 8, 3) := by decide +kernel
theorem dX0_decimal_93 : decode cX0_decimal 93 = .ok (.bipush 96, 2) := by decide +kernel
theorem dX0_decimal_95 : decode cX0_decimal 95 = .ok (.goto 4, 3) := by decide +kernel
theorem dX0_decimal_98 : decode cX0_decimal 98 = .ok (.iconst 0, 1) := by decide +kernel
theorem dX0_decimal_99 : decode cX0_decimal 99 = .ok (.iadd, 1) := by decide +kernel
theorem dX0_decimal_100 : decode cX0_decimal 100 = .ok (.imul, 1) := by decide +kernel
theorem dX0_decimal_101 : decode cX0_decimal 101 = .ok (.iadd, 1) := by decide +kernel
theorem dX0_decimal_102 : decode cX0_decimal 102 = .ok (.sipush 255, 3) := by decide +kernel
theorem dX0_decimal_105 : decode cX0_decimal 105 = .ok (.iand, 1) := by decide +kernel
theorem dX0_decimal_106 : decode cX0_decimal 106 = .ok (.istore 7, 2) := by decide +kernel
theorem dX0_decimal_108 : decode cX0_decimal 108 = .ok (.aload_n 0, 1) := by decide +kernel
theorem dX0_decimal_109 : decode cX0_decimal 109 = .ok (.bipush 16, 2) := by decide +kernel
theorem dX0_decimal_111 : decode cX0_decimal 111 = .ok (.iload 4, 2) := by decide +kernel
theorem dX0_decimal_113 : decode cX0_decimal 113 = .ok (.invokevirtual 48, 3) := by decide +kernel
theorem dX0_decimal_116 : decode cX0_decimal 116 = .ok (.aload_n 0, 1) := by decide +kernel
theorem dX0_decimal_117 : decode cX0_decimal 117 = .ok (.iconst 1, 1) := by decide +kernel
theorem dX0_decimal_118 : decode cX0_decimal 118 = .ok (.iload 5, 2) := by decide +kernel
theorem dX0_decimal_120 : decode cX0_decimal 120 = .ok (.ifCond .ne 8, 3) := by decide +kernel
theorem dX0_decimal_123 : decode cX0_decimal 123 = .ok (.iload 6, 2) := by decide +kernel
theorem dX0_decimal_125 : decode cX0_decimal 125 = .ok (.ifCond .eq 7, 3) := by decide +kernel
theorem dX0_decimal_128 : decode cX0_decimal 128 = .ok (.iconst 1, 1) := by decide +kernel
theorem dX0_decimal_129 : decode cX0_decimal 129 = .ok (.goto 4, 3) := by decide +kernel
theorem dX0_decimal_132 : decode cX0_decimal 132 = .ok (.iconst 0, 1) := by decide +kernel
theorem dX0_decimal_133 : decode cX0_decimal 133 = .ok (.invokevirtual 48, 3) := by decide +kernel
theorem dX0_decimal_136 : decode cX0_decimal 136 = .ok (.aload_n 0, 1) := by decide +kernel
theorem dX0_decimal_137 : decode cX0_decimal 137 = .ok (.iload 7, 2) := by decide +kernel
theorem dX0_decimal_139 : decode cX0_decimal 139 = .ok (.iconst 0, 1) := by decide +kernel
theorem dX0_decimal_140 : decode cX0_decimal 140 = .ok (.invokevirtual 45, 3) := by decide +kernel
theorem dX0_decimal_143 : decode cX0_decimal 143 = .ok (.pop, 1) := by decide +kernel
theorem dX0_decimal_144 : decode cX0_decimal 144 = .ok (.iload_n 1, 1) := by decide +kernel
theorem dX0_decimal_145 : decode cX0_decimal 145 = .ok (.ldc 81, 2) := by decide +kernel
theorem dX0_decimal_147 : decode cX0_decimal 147 = .ok (.iand, 1) := by decide +kernel
theorem dX0_decimal_148 : decode cX0_decimal 148 = .ok (.iload 7, 2) := by decide +kernel
theorem dX0_decimal_150 : decode cX0_decimal 150 = .ok (.ior, 1) := by decide +kernel
theorem dX0_decimal_151 : decode cX0_decimal 151 = .ok (.ireturn, 1) := by decide +kernel
set_option maxRecDepth 20000 in
theorem ggX0_unpacked_X0_has : GoodIn wsX0_unpacked wsX0_has := goodIn_r _ [5, 6, 11] (by decide +kernel) (by decide +kernel)
set_option maxRecDepth 20000 in
theorem gX0_unpacked_X0_has : GoodIn wsX0_unpacked (wsV RX0 64 RX0 yX0_has wsX0_has) := goodIn_app (goodIn_of _ (by decide +kernel)) ggX0_unpacked_X0_has
set_option maxRecDepth 20000 in
theorem ggX0_unpacked_X0_mark : GoodIn wsX0_unpacked wsX0_mark := goodIn_r _ [10, 6, 11] (by decide +kernel) (by decide +kernel)
set_option maxRecDepth 20000 in
theorem gX0_unpacked_X0_mark : GoodIn wsX0_unpacked (wsV RX0 48 RX0 yX0_mark wsX0_mark) := goodIn_app (goodIn_of _ (by decide +kernel)) ggX0_unpacked_X0_mark
theorem dX0_unpacked_0 : decode cX0_unpacked 0 = .ok (.iload_n 1, 1) := by decide +kernel
theorem dX0_unpacked_1 : decode cX0_unpacked 1 = .ok (.bipush 15, 2) := by decide +kernel
theorem dX0_unpacked_3 : decode cX0_unpacked 3 = .ok (.iand, 1) := by decide +kernel
theorem dX0_unpacked_4 : decode cX0_unpacked 4 = .ok (.bipush 9, 2) := by decide +kernel
theorem dX0_unpacked_6 : decode cX0_unpacked 6 = .ok (.if_icmp .gt 12, 3) := by decide +kernel
theorem dX0_unpacked_9 : decode cX0_unpacked 9 = .ok (.aload_n 0, 1) := by decide +kernel
theorem dX0_unpacked_10 : decode cX0_unpacked 10 = .ok (.bipush 16, 2) := by decide +kernel
theorem dX0_unpacked_12 : decode cX0_unpacked 12 = .ok (.invokevirtual 64, 3) := by decide +kernel
theorem dX0_unpacked_15 : decode cX0_unpacked 15 = .ok (.ifCond .eq 7, 3) := by decide +kernel
theorem dX0_unpacked_18 : decode cX0_unpacked 18 = .ok (.iconst 1, 1) := by decide +kernel
theorem dX0_unpacked_19 : decode cX0_unpacked 19 = .ok (.goto 4, 3) := by decide +kernel
theorem dX0_unpacked_22 : decode cX0_unpacked 22 = .ok (.iconst 0, 1) := by decide +kernel
theorem dX0_unpacked_23 : decode cX0_unpacked 23 = .ok (.istore_n 3, 1) := by decide +kernel
theorem dX0_unpacked_24 : decode cX0_unpacked 24 = .ok (.iload_n 1, 1) := by decide +kernel
theorem dX0_unpacked_25 : decode cX0_unpacked 25 = .ok (.iload_n 3, 1) := by decide +kernel
theorem dX0_unpacked_26 : decode cX0_unpacked 26 = .ok (.ifCond .eq 10, 3) := by decide +kernel
theorem dX0_unpacked_29 : decode cX0_unpacked 29 = .ok (.bipush 6, 2) := by decide +kernel
theorem dX0_unpacked_31 : decode cX0_unpacked 31 = .ok (.iload_n 2, 1) := by decide +kernel
theorem dX0_unpacked_32 : decode cX0_unpacked 32 = .ok (.imul, 1) := by decide +kernel
theorem dX0_unpacked_33 : decode cX0_unpacked 33 = .ok (.goto 4, 3) := by decide +kernel
theorem dX0_unpacked_36 : decode cX0_unpacked 36 = .ok (.iconst 0, 1) := by decide +kernel
theorem dX0_unpacked_37 : decode cX0_unpacked 37 = .ok (.iadd, 1) := by decide +kernel
theorem dX0_unpacked_38 : decode cX0_unpacked 38 = .ok (.bipush 15, 2) := by decide +kernel
theorem dX0_unpacked_40 : decode cX0_unpacked 40 = .ok (.iand, 1) := by decide +kernel
theorem dX0_unpacked_41 : decode cX0_unpacked 41 = .ok (.istore 4, 2) := by decide +kernel
theorem dX0_unpacked_43 : decode cX0_unpacked 43 = .ok (.iload_n 1, 1) := by decide +kernel
theorem dX0_unpacked_44 : decode cX0_unpacked 44 = .ok (.bipush 8, 2) := by decide +kernel
theorem dX0_unpacked_46 : decode cX0_unpacked 46 = .ok (.ishr, 1) := by decide +kernel
theorem dX0_unpacked_47 : decode cX0_unpacked 47 = .ok (.iload_n 3, 1) := by decide +kernel
theorem dX0_unpacked_48 : decode cX0_unpacked 48 = .ok (.ifCond .eq 7, 3) := by decide +kernel
theorem dX0_unpacked_51 : decode cX0_unpacked 51 = .ok (.iload_n 2, 1) := by decide +kernel
theorem dX0_unpacked_52 : decode cX0_unpacked 52 = .ok (.goto 4, 3) := by decide +kernel
theorem dX0_unpacked_55 : decode cX0_unpacked 55 = .ok (.iconst 0, 1) := by decide +kernel
theorem dX0_unpacked_56 : decode cX0_unpacked 56 = .ok (.iadd, 1) := by decide +kernel
theorem dX0_unpacked_57 : decode cX0_unpacked 57 = .ok (.sipush 255, 3) := by decide +kernel
theorem dX0_unpacked_60 : decode cX0_unpacked 60 = .ok (.iand, 1) := by decide +kernel
theorem dX0_unpacked_61 : decode cX0_unpacked 61 = .ok (.istore 5, 2) := by decide +kernel
theorem dX0_unpacked_63 : decode cX0_unpacked 63 = .ok (.aload_n 0, 1) := by decide +kernel
theorem dX0_unpacked_64 : decode cX0_unpacked 64 = .ok (.bipush 16, 2) := by decide +kernel
theorem dX0_unpacked_66 : decode cX0_unpacked 66 = .ok (.iload_n 3, 1) := by decide +kernel
theorem dX0_unpacked_67 : decode cX0_unpacked 67 = .ok (.invokevirtual 48, 3) := by decide +kernel
theorem dX0_unpacked_70 : decode cX0_unpacked 70 = .ok (.aload_n 0, 1) := by decide +kernel
theorem dX0_unpacked_71 : decode cX0_unpacked 71 = .ok (.iconst 1, 1) := by decide +kernel
theorem dX0_unpacked_72 : decode cX0_unpacked 72 = .ok (.iload_n 3, 1) := by decide +kernel
theorem dX0_unpacked_73 : decode cX0_unpacked 73 = .ok (.invokevirtual 48, 3) := by decide +kernel
theorem dX0_unpacked_76 : decode cX0_unpacked 76 = .ok (.iload 5, 2) := by decide +kernel
theorem dX0_unpacked_78 : decode cX0_unpacked 78 = .ok (.bipush 8, 2) := by decide +kernel
theorem dX0_unpacked_80 : decode cX0_unpacked 80 = .ok (.ishl, 1) := by decide +kernel
theorem dX0_unpacked_81 : decode cX0_unpacked 81 = .ok (.iload 4, 2) := by decide +kernel
theorem dX0_unpacked_83 : decode cX0_unpacked 83 = .ok (.ior, 1) := by decide +kernel
theorem dX0_unpacked_84 : decode cX0_unpacked 84 = .ok (.ireturn, 1) := by decide +kernel
set_option maxRecDepth 20000 in
theorem ggX0_parts_X0_byAnswer : GoodIn wsX0_parts wsX0_byAnswer := goodIn_r _ [5, 6, 7, 8, 4, 9, 10, 11, 12, 13, 14, 15, 16, 17, 18] (by decide +kernel) (by decide +kernel)
set_option maxRecDepth 20000 in
theorem gX0_parts_X0_byAnswer : GoodIn wsX0_parts (wsV RX0 45 RX0 yX0_byAnswer wsX0_byAnswer) := goodIn_app (goodIn_of _ (by decide +kernel)) ggX0_parts_X0_byAnswer
theorem dX0_parts_0 : decode cX0_parts 0 = .ok (.iload_n 2, 1) := by decide +kernel
theorem dX0_parts_1 : decode cX0_parts 1 = .ok (.ifCond .ne 5, 3) := by decide +kernel
theorem dX0_parts_4 : decode cX0_parts 4 = .ok (.iload_n 1, 1) := by decide +kernel
theorem dX0_parts_5 : decode cX0_parts 5 = .ok (.ireturn, 1) := by decide +kernel
theorem dX0_parts_6 : decode cX0_parts 6 = .ok (.aload_n 0, 1) := by decide +kernel
theorem dX0_parts_7 : decode cX0_parts 7 = .ok (.iload_n 1, 1) := by decide +kernel
theorem dX0_parts_8 : decode cX0_parts 8 = .ok (.iload_n 2, 1) := by decide +kernel
theorem dX0_parts_9 : decode cX0_parts 9 = .ok (.irem, 1) := by decide +kernel
theorem dX0_parts_10 : decode cX0_parts 10 = .ok (.iconst 0, 1) := by decide +kernel
theorem dX0_parts_11 : decode cX0_parts 11 = .ok (.invokevirtual 45, 3) := by decide +kernel
theorem dX0_parts_14 : decode cX0_parts 14 = .ok (.pop, 1) := by decide +kernel
theorem dX0_parts_15 : decode cX0_parts 15 = .ok (.iload_n 1, 1) := by decide +kernel
theorem dX0_parts_16 : decode cX0_parts 16 = .ok (.iload_n 2, 1) := by decide +kernel
theorem dX0_parts_17 : decode cX0_parts 17 = .ok (.idiv, 1) := by decide +kernel
theorem dX0_parts_18 : decode cX0_parts 18 = .ok (.bipush 8, 2) := by decide +kernel
theorem dX0_parts_20 : decode cX0_parts 20 = .ok (.ishl, 1) := by decide +kernel
theorem dX0_parts_21 : decode cX0_parts 21 = .ok (.iload_n 1, 1) := by decide +kernel
theorem dX0_parts_22 : decode cX0_parts 22 = .ok (.iload_n 2, 1) := by decide +kernel
theorem dX0_parts_23 : decode cX0_parts 23 = .ok (.irem, 1) := by decide +kernel
theorem dX0_parts_24 : decode cX0_parts 24 = .ok (.ior, 1) := by decide +kernel
theorem dX0_parts_25 : decode cX0_parts 25 = .ok (.ireturn, 1) := by decide +kernel
set_option maxRecDepth 20000 in
theorem ggX0_whole_X0_byAnswer : GoodIn wsX0_whole wsX0_byAnswer := goodIn_r _ [5, 6, 7, 8, 4, 9, 10, 11, 12, 13, 14, 15, 16, 17, 18] (by decide +kernel) (by decide +kernel)
set_option maxRecDepth 20000 in
theorem gX0_whole_X0_byAnswer : GoodIn wsX0_whole (wsV RX0 45 RX0 yX0_byAnswer wsX0_byAnswer) := goodIn_app (goodIn_of _ (by decide +kernel)) ggX0_whole_X0_byAnswer
theorem dX0_whole_0 : decode cX0_whole 0 = .ok (.iload_n 1, 1) := by decide +kernel
theorem dX0_whole_1 : decode cX0_whole 1 = .ok (.bipush 8, 2) := by decide +kernel
theorem dX0_whole_3 : decode cX0_whole 3 = .ok (.ishr, 1) := by decide +kernel
theorem dX0_whole_4 : decode cX0_whole 4 = .ok (.iload_n 2, 1) := by decide +kernel
theorem dX0_whole_5 : decode cX0_whole 5 = .ok (.imul, 1) := by decide +kernel
theorem dX0_whole_6 : decode cX0_whole 6 = .ok (.iload_n 1, 1) := by decide +kernel
theorem dX0_whole_7 : decode cX0_whole 7 = .ok (.iadd, 1) := by decide +kernel
theorem dX0_whole_8 : decode cX0_whole 8 = .ok (.sipush 255, 3) := by decide +kernel
theorem dX0_whole_11 : decode cX0_whole 11 = .ok (.iand, 1) := by decide +kernel
theorem dX0_whole_12 : decode cX0_whole 12 = .ok (.istore_n 3, 1) := by decide +kernel
theorem dX0_whole_13 : decode cX0_whole 13 = .ok (.aload_n 0, 1) := by decide +kernel
theorem dX0_whole_14 : decode cX0_whole 14 = .ok (.iload_n 3, 1) := by decide +kernel
theorem dX0_whole_15 : decode cX0_whole 15 = .ok (.iconst 0, 1) := by decide +kernel
theorem dX0_whole_16 : decode cX0_whole 16 = .ok (.invokevirtual 45, 3) := by decide +kernel
theorem dX0_whole_19 : decode cX0_whole 19 = .ok (.pop, 1) := by decide +kernel
theorem dX0_whole_20 : decode cX0_whole 20 = .ok (.iload_n 3, 1) := by decide +kernel
theorem dX0_whole_21 : decode cX0_whole 21 = .ok (.ireturn, 1) := by decide +kernel
set_option maxRecDepth 20000 in
theorem ggX0_holds_X0_pairHolds : GoodIn wsX0_holds wsX0_pairHolds := goodIn_r _ [5, 6, 7, 8, 4, 9, 10, 11] (by decide +kernel) (by decide +kernel)
set_option maxRecDepth 20000 in
theorem gX0_holds_X0_pairHolds : GoodIn wsX0_holds (wsV RX0 82 RX0 yX0_pairHolds wsX0_pairHolds) := goodIn_app (goodIn_of _ (by decide +kernel)) ggX0_holds_X0_pairHolds
theorem dX0_holds_0 : decode cX0_holds 0 = .ok (.iload_n 1, 1) := by decide +kernel
theorem dX0_holds_1 : decode cX0_holds 1 = .ok (.iconst 1, 1) := by decide +kernel
theorem dX0_holds_2 : decode cX0_holds 2 = .ok (.iand, 1) := by decide +kernel
theorem dX0_holds_3 : decode cX0_holds 3 = .ok (.ifCond .eq 7, 3) := by decide +kernel
theorem dX0_holds_6 : decode cX0_holds 6 = .ok (.iconst 1, 1) := by decide +kernel
theorem dX0_holds_7 : decode cX0_holds 7 = .ok (.goto 4, 3) := by decide +kernel
theorem dX0_holds_10 : decode cX0_holds 10 = .ok (.iconst 0, 1) := by decide +kernel
theorem dX0_holds_11 : decode cX0_holds 11 = .ok (.istore_n 2, 1) := by decide +kernel
theorem dX0_holds_12 : decode cX0_holds 12 = .ok (.aload_n 0, 1) := by decide +kernel
theorem dX0_holds_13 : decode cX0_holds 13 = .ok (.iload_n 1, 1) := by decide +kernel
theorem dX0_holds_14 : decode cX0_holds 14 = .ok (.iconst 1, 1) := by decide +kernel
theorem dX0_holds_15 : decode cX0_holds 15 = .ok (.ishr, 1) := by decide +kernel
theorem dX0_holds_16 : decode cX0_holds 16 = .ok (.invokevirtual 82, 3) := by decide +kernel
theorem dX0_holds_19 : decode cX0_holds 19 = .ok (.iload_n 2, 1) := by decide +kernel
theorem dX0_holds_20 : decode cX0_holds 20 = .ok (.if_icmp .eq 7, 3) := by decide +kernel
theorem dX0_holds_23 : decode cX0_holds 23 = .ok (.iconst 1, 1) := by decide +kernel
theorem dX0_holds_24 : decode cX0_holds 24 = .ok (.goto 4, 3) := by decide +kernel
theorem dX0_holds_27 : decode cX0_holds 27 = .ok (.iconst 0, 1) := by decide +kernel
theorem dX0_holds_28 : decode cX0_holds 28 = .ok (.ireturn, 1) := by decide +kernel
set_option maxRecDepth 20000 in
theorem ggX0_pairHolds_X0_has : GoodIn wsX0_pairHolds wsX0_has := goodIn_r _ [5, 6, 7] (by decide +kernel) (by decide +kernel)
set_option maxRecDepth 20000 in
theorem gX0_pairHolds_X0_has : GoodIn wsX0_pairHolds (wsV RX0 64 RX0 yX0_has wsX0_has) := goodIn_app (goodIn_of _ (by decide +kernel)) ggX0_pairHolds_X0_has
theorem dX0_pairHolds_0 : decode cX0_pairHolds 0 = .ok (.aload_n 0, 1) := by decide +kernel
theorem dX0_pairHolds_1 : decode cX0_pairHolds 1 = .ok (.sipush 128, 3) := by decide +kernel
theorem dX0_pairHolds_4 : decode cX0_pairHolds 4 = .ok (.invokevirtual 64, 3) := by decide +kernel
theorem dX0_pairHolds_7 : decode cX0_pairHolds 7 = .ok (.aload_n 0, 1) := by decide +kernel
theorem dX0_pairHolds_8 : decode cX0_pairHolds 8 = .ok (.sipush 2048, 3) := by decide +kernel
theorem dX0_pairHolds_11 : decode cX0_pairHolds 11 = .ok (.invokevirtual 64, 3) := by decide +kernel
theorem dX0_pairHolds_14 : decode cX0_pairHolds 14 = .ok (.if_icmp .eq 7, 3) := by decide +kernel
theorem dX0_pairHolds_17 : decode cX0_pairHolds 17 = .ok (.iconst 1, 1) := by decide +kernel
theorem dX0_pairHolds_18 : decode cX0_pairHolds 18 = .ok (.goto 4, 3) := by decide +kernel
theorem dX0_pairHolds_21 : decode cX0_pairHolds 21 = .ok (.iconst 0, 1) := by decide +kernel
theorem dX0_pairHolds_22 : decode cX0_pairHolds 22 = .ok (.istore_n 2, 1) := by decide +kernel
theorem dX0_pairHolds_23 : decode cX0_pairHolds 23 = .ok (.iload_n 1, 1) := by decide +kernel
theorem dX0_pairHolds_24 : decode cX0_pairHolds 24 = .ok (.tableswitch 104 0 6 #[44, 52, 58, 65, 88, 96, 102], 44) := by decide +kernel
theorem dX0_pairHolds_68 : decode cX0_pairHolds 68 = .ok (.aload_n 0, 1) := by decide +kernel
theorem dX0_pairHolds_69 : decode cX0_pairHolds 69 = .ok (.sipush 2048, 3) := by decide +kernel
theorem dX0_pairHolds_72 : decode cX0_pairHolds 72 = .ok (.invokevirtual 64, 3) := by decide +kernel
theorem dX0_pairHolds_75 : decode cX0_pairHolds 75 = .ok (.ireturn, 1) := by decide +kernel
theorem dX0_pairHolds_76 : decode cX0_pairHolds 76 = .ok (.aload_n 0, 1) := by decide +kernel
theorem dX0_pairHolds_77 : decode cX0_pairHolds 77 = .ok (.iconst 1, 1) := by decide +kernel
theorem dX0_pairHolds_78 : decode cX0_pairHolds 78 = .ok (.invokevirtual 64, 3) := by decide +kernel
theorem dX0_pairHolds_81 : decode cX0_pairHolds 81 = .ok (.ireturn, 1) := by decide +kernel
theorem dX0_pairHolds_82 : decode cX0_pairHolds 82 = .ok (.aload_n 0, 1) := by decide +kernel
theorem dX0_pairHolds_83 : decode cX0_pairHolds 83 = .ok (.bipush 64, 2) := by decide +kernel
theorem dX0_pairHolds_85 : decode cX0_pairHolds 85 = .ok (.invokevirtual 64, 3) := by decide +kernel
theorem dX0_pairHolds_88 : decode cX0_pairHolds 88 = .ok (.ireturn, 1) := by decide +kernel
theorem dX0_pairHolds_89 : decode cX0_pairHolds 89 = .ok (.aload_n 0, 1) := by decide +kernel
theorem dX0_pairHolds_90 : decode cX0_pairHolds 90 = .ok (.iconst 1, 1) := by decide +kernel
theorem dX0_pairHolds_91 : decode cX0_pairHolds 91 = .ok (.invokevirtual 64, 3) := by decide +kernel
theorem dX0_pairHolds_94 : decode cX0_pairHolds 94 = .ok (.ifCond .ne 12, 3) := by decide +kernel
theorem dX0_pairHolds_97 : decode cX0_pairHolds 97 = .ok (.aload_n 0, 1) := by decide +kernel
theorem dX0_pairHolds_98 : decode cX0_pairHolds 98 = .ok (.bipush 64, 2) := by decide +kernel
theorem dX0_pairHolds_100 : decode cX0_pairHolds 100 = .ok (.invokevirtual 64, 3) := by decide +kernel
theorem dX0_pairHolds_103 : decode cX0_pairHolds 103 = .ok (.ifCond .eq 7, 3) := by decide +kernel
theorem dX0_pairHolds_106 : decode cX0_pairHolds 106 = .ok (.iconst 1, 1) := by decide +kernel
theorem dX0_pairHolds_107 : decode cX0_pairHolds 107 = .ok (.goto 4, 3) := by decide +kernel
theorem dX0_pairHolds_110 : decode cX0_pairHolds 110 = .ok (.iconst 0, 1) := by decide +kernel
theorem dX0_pairHolds_111 : decode cX0_pairHolds 111 = .ok (.ireturn, 1) := by decide +kernel
theorem dX0_pairHolds_112 : decode cX0_pairHolds 112 = .ok (.aload_n 0, 1) := by decide +kernel
theorem dX0_pairHolds_113 : decode cX0_pairHolds 113 = .ok (.sipush 128, 3) := by decide +kernel
theorem dX0_pairHolds_116 : decode cX0_pairHolds 116 = .ok (.invokevirtual 64, 3) := by decide +kernel
theorem dX0_pairHolds_119 : decode cX0_pairHolds 119 = .ok (.ireturn, 1) := by decide +kernel
theorem dX0_pairHolds_120 : decode cX0_pairHolds 120 = .ok (.aload_n 0, 1) := by decide +kernel
theorem dX0_pairHolds_121 : decode cX0_pairHolds 121 = .ok (.iconst 4, 1) := by decide +kernel
theorem dX0_pairHolds_122 : decode cX0_pairHolds 122 = .ok (.invokevirtual 64, 3) := by decide +kernel
theorem dX0_pairHolds_125 : decode cX0_pairHolds 125 = .ok (.ireturn, 1) := by decide +kernel
theorem dX0_pairHolds_126 : decode cX0_pairHolds 126 = .ok (.iload_n 2, 1) := by decide +kernel
theorem dX0_pairHolds_127 : decode cX0_pairHolds 127 = .ok (.ireturn, 1) := by decide +kernel
theorem dX0_pairHolds_128 : decode cX0_pairHolds 128 = .ok (.iload_n 2, 1) := by decide +kernel
theorem dX0_pairHolds_129 : decode cX0_pairHolds 129 = .ok (.ifCond .ne 12, 3) := by decide +kernel
theorem dX0_pairHolds_132 : decode cX0_pairHolds 132 = .ok (.aload_n 0, 1) := by decide +kernel
theorem dX0_pairHolds_133 : decode cX0_pairHolds 133 = .ok (.bipush 64, 2) := by decide +kernel
theorem dX0_pairHolds_135 : decode cX0_pairHolds 135 = .ok (.invokevirtual 64, 3) := by decide +kernel
theorem dX0_pairHolds_138 : decode cX0_pairHolds 138 = .ok (.ifCond .eq 7, 3) := by decide +kernel
theorem dX0_pairHolds_141 : decode cX0_pairHolds 141 = .ok (.iconst 1, 1) := by decide +kernel
theorem dX0_pairHolds_142 : decode cX0_pairHolds 142 = .ok (.goto 4, 3) := by decide +kernel
theorem dX0_pairHolds_145 : decode cX0_pairHolds 145 = .ok (.iconst 0, 1) := by decide +kernel
theorem dX0_pairHolds_146 : decode cX0_pairHolds 146 = .ok (.ireturn, 1) := by decide +kernel
theorem dX1_init_0 : decode cX1_init 0 = .ok (.aload_n 0, 1) := by decide +kernel
theorem dX1_init_1 : decode cX1_init 1 = .ok (.invokespecial 3, 3) := by decide +kernel
theorem dX1_init_4 : decode cX1_init 4 = .ok (.return_, 1) := by decide +kernel
theorem dX1_wide_0 : decode cX1_wide 0 = .ok (.aload_n 0, 1) := by decide +kernel
theorem dX1_wide_1 : decode cX1_wide 1 = .ok (.getfield 9, 3) := by decide +kernel
theorem dX1_wide_4 : decode cX1_wide 4 = .ok (.iconst 1, 1) := by decide +kernel
theorem dX1_wide_5 : decode cX1_wide 5 = .ok (.iand, 1) := by decide +kernel
theorem dX1_wide_6 : decode cX1_wide 6 = .ok (.ifCond .eq 7, 3) := by decide +kernel
theorem dX1_wide_9 : decode cX1_wide 9 = .ok (.iconst 1, 1) := by decide +kernel
theorem dX1_wide_10 : decode cX1_wide 10 = .ok (.goto 4, 3) := by decide +kernel
theorem dX1_wide_13 : decode cX1_wide 13 = .ok (.iconst 0, 1) := by decide +kernel
theorem dX1_wide_14 : decode cX1_wide 14 = .ok (.ireturn, 1) := by decide +kernel
theorem dX1_givesSegment_0 : decode cX1_givesSegment 0 = .ok (.aload_n 0, 1) := by decide +kernel
theorem dX1_givesSegment_1 : decode cX1_givesSegment 1 = .ok (.getfield 9, 3) := by decide +kernel
theorem dX1_givesSegment_4 : decode cX1_givesSegment 4 = .ok (.sipush 231, 3) := by decide +kernel
theorem dX1_givesSegment_7 : decode cX1_givesSegment 7 = .ok (.iand, 1) := by decide +kernel
theorem dX1_givesSegment_8 : decode cX1_givesSegment 8 = .ok (.bipush 7, 2) := by decide +kernel
theorem dX1_givesSegment_10 : decode cX1_givesSegment 10 = .ok (.if_icmp .eq 13, 3) := by decide +kernel
theorem dX1_givesSegment_13 : decode cX1_givesSegment 13 = .ok (.aload_n 0, 1) := by decide +kernel
theorem dX1_givesSegment_14 : decode cX1_givesSegment 14 = .ok (.getfield 9, 3) := by decide +kernel
theorem dX1_givesSegment_17 : decode cX1_givesSegment 17 = .ok (.sipush 142, 3) := by decide +kernel
theorem dX1_givesSegment_20 : decode cX1_givesSegment 20 = .ok (.if_icmp .ne 7, 3) := by decide +kernel
theorem dX1_givesSegment_23 : decode cX1_givesSegment 23 = .ok (.iconst 1, 1) := by decide +kernel
theorem dX1_givesSegment_24 : decode cX1_givesSegment 24 = .ok (.goto 4, 3) := by decide +kernel
theorem dX1_givesSegment_27 : decode cX1_givesSegment 27 = .ok (.iconst 0, 1) := by decide +kernel
theorem dX1_givesSegment_28 : decode cX1_givesSegment 28 = .ok (.ireturn, 1) := by decide +kernel
theorem dX1_isString_0 : decode cX1_isString 0 = .ok (.aload_n 0, 1) := by decide +kernel
theorem dX1_isString_1 : decode cX1_isString 1 = .ok (.getfield 9, 3) := by decide +kernel
theorem dX1_isString_4 : decode cX1_isString 4 = .ok (.sipush 164, 3) := by decide +kernel
theorem dX1_isString_7 : decode cX1_isString 7 = .ok (.if_icmp .lt 37, 3) := by decide +kernel
theorem dX1_isString_10 : decode cX1_isString 10 = .ok (.aload_n 0, 1) := by decide +kernel
theorem dX1_isString_11 : decode cX1_isString 11 = .ok (.getfield 9, 3) := by decide +kernel
theorem dX1_isString_14 : decode cX1_isString 14 = .ok (.sipush 175, 3) := by decide +kernel
theorem dX1_isString_17 : decode cX1_isString 17 = .ok (.if_icmp .gt 27, 3) := by decide +kernel
theorem dX1_isString_20 : decode cX1_isString 20 = .ok (.aload_n 0, 1) := by decide +kernel
theorem dX1_isString_21 : decode cX1_isString 21 = .ok (.getfield 9, 3) := by decide +kernel
theorem dX1_isString_24 : decode cX1_isString 24 = .ok (.sipush 168, 3) := by decide +kernel
theorem dX1_isString_27 : decode cX1_isString 27 = .ok (.if_icmp .eq 17, 3) := by decide +kernel
theorem dX1_isString_30 : decode cX1_isString 30 = .ok (.aload_n 0, 1) := by decide +kernel
theorem dX1_isString_31 : decode cX1_isString 31 = .ok (.getfield 9, 3) := by decide +kernel
theorem dX1_isString_34 : decode cX1_isString 34 = .ok (.sipush 169, 3) := by decide +kernel
theorem dX1_isString_37 : decode cX1_isString 37 = .ok (.if_icmp .eq 7, 3) := by decide +kernel
theorem dX1_isString_40 : decode cX1_isString 40 = .ok (.iconst 1, 1) := by decide +kernel
theorem dX1_isString_41 : decode cX1_isString 41 = .ok (.goto 4, 3) := by decide +kernel
theorem dX1_isString_44 : decode cX1_isString 44 = .ok (.iconst 0, 1) := by decide +kernel
theorem dX1_isString_45 : decode cX1_isString 45 = .ok (.ireturn, 1) := by decide +kernel
theorem dX1_compares_0 : decode cX1_compares 0 = .ok (.aload_n 0, 1) := by decide +kernel
theorem dX1_compares_1 : decode cX1_compares 1 = .ok (.getfield 9, 3) := by decide +kernel
theorem dX1_compares_4 : decode cX1_compares 4 = .ok (.bipush 6, 2) := by decide +kernel
theorem dX1_compares_6 : decode cX1_compares 6 = .ok (.iand, 1) := by decide +kernel
theorem dX1_compares_7 : decode cX1_compares 7 = .ok (.bipush 6, 2) := by decide +kernel
theorem dX1_compares_9 : decode cX1_compares 9 = .ok (.if_icmp .ne 7, 3) := by decide +kernel
theorem dX1_compares_12 : decode cX1_compares 12 = .ok (.iconst 1, 1) := by decide +kernel
theorem dX1_compares_13 : decode cX1_compares 13 = .ok (.goto 4, 3) := by decide +kernel
theorem dX1_compares_16 : decode cX1_compares 16 = .ok (.iconst 0, 1) := by decide +kernel
theorem dX1_compares_17 : decode cX1_compares 17 = .ok (.ireturn, 1) := by decide +kernel
theorem dX1_inRegister_0 : decode cX1_inRegister 0 = .ok (.aload_n 0, 1) := by decide +kernel
theorem dX1_inRegister_1 : decode cX1_inRegister 1 = .ok (.getfield 15, 3) := by decide +kernel
theorem dX1_inRegister_4 : decode cX1_inRegister 4 = .ok (.iconst 3, 1) := by decide +kernel
theorem dX1_inRegister_5 : decode cX1_inRegister 5 = .ok (.if_icmp .ne 7, 3) := by decide +kernel
theorem dX1_inRegister_8 : decode cX1_inRegister 8 = .ok (.iconst 1, 1) := by decide +kernel
theorem dX1_inRegister_9 : decode cX1_inRegister 9 = .ok (.goto 4, 3) := by decide +kernel
theorem dX1_inRegister_12 : decode cX1_inRegister 12 = .ok (.iconst 0, 1) := by decide +kernel
theorem dX1_inRegister_13 : decode cX1_inRegister 13 = .ok (.ireturn, 1) := by decide +kernel
theorem dX1_segmentOr_0 : decode cX1_segmentOr 0 = .ok (.aload_n 0, 1) := by decide +kernel
theorem dX1_segmentOr_1 : decode cX1_segmentOr 1 = .ok (.getfield 18, 3) := by decide +kernel
theorem dX1_segmentOr_4 : decode cX1_segmentOr 4 = .ok (.iconst (-1), 1) := by decide +kernel
theorem dX1_segmentOr_5 : decode cX1_segmentOr 5 = .ok (.if_icmp .ne 7, 3) := by decide +kernel
theorem dX1_segmentOr_8 : decode cX1_segmentOr 8 = .ok (.iload_n 1, 1) := by decide +kernel
theorem dX1_segmentOr_9 : decode cX1_segmentOr 9 = .ok (.goto 7, 3) := by decide +kernel
theorem dX1_segmentOr_12 : decode cX1_segmentOr 12 = .ok (.aload_n 0, 1) := by decide +kernel
theorem dX1_segmentOr_13 : decode cX1_segmentOr 13 = .ok (.getfield 18, 3) := by decide +kernel
theorem dX1_segmentOr_16 : decode cX1_segmentOr 16 = .ok (.ireturn, 1) := by decide +kernel
set_option maxRecDepth 20000 in
theorem ggX1_find_X1_fetchNumber : GoodIn wsX1_find wsX1_fetchNumber := goodIn_r _ [11, 6, 12, 13, 14, 10, 15, 1, 3, 16, 17, 18, 19, 20, 21, 22, 23, 24, 25, 26, 27, 28, 29, 30, 31, 32, 33, 34, 35, 36, 37, 38, 39, 40, 41, 42, 43, 44, 45, 46, 47, 48, 49, 50, 51, 4, 5, 103, 104, 105, 106, 107, 108, 109, 110, 111, 112, 113, 114, 100, 101, 102, 115, 116, 117, 118] (by decide +kernel) (by decide +kernel)
set_option maxRecDepth 20000 in
theorem gX1_find_X1_fetchNumber : GoodIn wsX1_find (wsV RX1 35 RX1 yX1_fetchNumber wsX1_fetchNumber) := goodIn_app (goodIn_of _ (by decide +kernel)) ggX1_find_X1_fetchNumber
set_option maxRecDepth 20000 in
theorem ggX1_find_X1_fetchRest : GoodIn wsX1_find wsX1_fetchRest := goodIn_r _ [55, 6, 56, 57, 58, 44, 45, 10, 46, 47, 59, 60, 61, 62, 63, 64, 65, 66, 67, 68, 69, 70, 12, 13, 14, 15, 1, 3, 16, 17, 18, 19, 20, 21, 22, 23, 24, 25, 26, 27, 28, 29, 30, 31, 32, 33, 34, 35, 36, 37, 38, 39, 40, 41, 42, 43, 71, 72, 73, 74, 4, 75, 76, 77, 78, 79, 80, 81, 82, 83, 84, 85, 86, 87, 88, 89, 90, 91, 103, 104, 105, 106, 107, 108, 109, 110, 111, 112, 113, 114, 100, 101, 102, 115, 116, 117, 118] (by decide +kernel) (by decide +kernel)
set_option maxRecDepth 20000 in
theorem gX1_find_X1_fetchRest : GoodIn wsX1_find (wsV RX1 39 RX1 yX1_fetchRest wsX1_fetchRest) := goodIn_app (goodIn_of _ (by decide +kernel)) ggX1_find_X1_fetchRest
set_option maxRecDepth 20000 in
theorem ggX1_find_X1_formOf : GoodIn wsX1_find wsX1_formOf := goodIn_r _ [46, 47] (by decide +kernel) (by decide +kernel)
set_option maxRecDepth 20000 in
theorem gX1_find_X1_formOf : GoodIn wsX1_find (va_wsS RX1 42 yX1_formOf wsX1_formOf) := goodIn_app (goodIn_of _ (by decide +kernel)) ggX1_find_X1_formOf
set_option maxRecDepth 20000 in
theorem ggX1_find_X1_isCode : GoodIn wsX1_find wsX1_isCode := goodIn_r _ [95, 6, 56, 96, 97, 98, 10, 99, 66, 103, 104, 105, 106, 107, 108, 109, 110, 111, 112, 113, 114] (by decide +kernel) (by decide +kernel)
set_option maxRecDepth 20000 in
theorem gX1_find_X1_isCode : GoodIn wsX1_find (wsV RX1 46 RX1 yX1_isCode wsX1_isCode) := goodIn_app (goodIn_of _ (by decide +kernel)) ggX1_find_X1_isCode
set_option maxRecDepth 20000 in
theorem ggX1_find_X4_moveTo : GoodIn wsX1_find wsX4_moveTo := goodIn_r _ [41, 42, 43, 100, 101, 102] (by decide +kernel) (by decide +kernel)
set_option maxRecDepth 20000 in
theorem gX1_find_X4_moveTo : GoodIn wsX1_find (wsV RX1 50 RX4 yX4_moveTo wsX4_moveTo) := goodIn_app (goodIn_of _ (by decide +kernel)) ggX1_find_X4_moveTo
theorem dX1_find_0 : decode cX1_find 0 = .ok (.aload_n 0, 1) := by decide +kernel
theorem dX1_find_1 : decode cX1_find 1 = .ok (.aload_n 2, 1) := by decide +kernel
theorem dX1_find_2 : decode cX1_find 2 = .ok (.getfield 21, 3) := by decide +kernel
theorem dX1_find_5 : decode cX1_find 5 = .ok (.putfield 26, 3) := by decide +kernel
theorem dX1_find_8 : decode cX1_find 8 = .ok (.aload_n 0, 1) := by decide +kernel
theorem dX1_find_9 : decode cX1_find 9 = .ok (.iconst 0, 1) := by decide +kernel
theorem dX1_find_10 : decode cX1_find 10 = .ok (.putfield 29, 3) := by decide +kernel
theorem dX1_find_13 : decode cX1_find 13 = .ok (.aload_n 0, 1) := by decide +kernel
theorem dX1_find_14 : decode cX1_find 14 = .ok (.iconst (-1), 1) := by decide +kernel
theorem dX1_find_15 : decode cX1_find 15 = .ok (.putfield 18, 3) := by decide +kernel
theorem dX1_find_18 : decode cX1_find 18 = .ok (.aload_n 0, 1) := by decide +kernel
theorem dX1_find_19 : decode cX1_find 19 = .ok (.iconst (-1), 1) := by decide +kernel
theorem dX1_find_20 : decode cX1_find 20 = .ok (.putfield 32, 3) := by decide +kernel
theorem dX1_find_23 : decode cX1_find 23 = .ok (.aload_n 0, 1) := by decide +kernel
theorem dX1_find_24 : decode cX1_find 24 = .ok (.aload_n 1, 1) := by decide +kernel
theorem dX1_find_25 : decode cX1_find 25 = .ok (.aload_n 2, 1) := by decide +kernel
theorem dX1_find_26 : decode cX1_find 26 = .ok (.invokevirtual 35, 3) := by decide +kernel
theorem dX1_find_29 : decode cX1_find 29 = .ok (.aload_n 0, 1) := by decide +kernel
theorem dX1_find_30 : decode cX1_find 30 = .ok (.aload_n 1, 1) := by decide +kernel
theorem dX1_find_31 : decode cX1_find 31 = .ok (.aload_n 2, 1) := by decide +kernel
theorem dX1_find_32 : decode cX1_find 32 = .ok (.invokevirtual 39, 3) := by decide +kernel
theorem dX1_find_35 : decode cX1_find 35 = .ok (.aload_n 0, 1) := by decide +kernel
theorem dX1_find_36 : decode cX1_find 36 = .ok (.getfield 29, 3) := by decide +kernel
theorem dX1_find_39 : decode cX1_find 39 = .ok (.bipush 15, 2) := by decide +kernel
theorem dX1_find_41 : decode cX1_find 41 = .ok (.if_icmp .gt 26, 3) := by decide +kernel
theorem dX1_find_44 : decode cX1_find 44 = .ok (.aload_n 0, 1) := by decide +kernel
theorem dX1_find_45 : decode cX1_find 45 = .ok (.getfield 9, 3) := by decide +kernel
theorem dX1_find_48 : decode cX1_find 48 = .ok (.invokestatic 42, 3) := by decide +kernel
theorem dX1_find_51 : decode cX1_find 51 = .ok (.bipush 9, 2) := by decide +kernel
theorem dX1_find_53 : decode cX1_find 53 = .ok (.if_icmp .eq 14, 3) := by decide +kernel
theorem dX1_find_56 : decode cX1_find 56 = .ok (.aload_n 0, 1) := by decide +kernel
theorem dX1_find_57 : decode cX1_find 57 = .ok (.invokevirtual 46, 3) := by decide +kernel
theorem dX1_find_60 : decode cX1_find 60 = .ok (.ifCond .eq 7, 3) := by decide +kernel
theorem dX1_find_63 : decode cX1_find 63 = .ok (.iconst 1, 1) := by decide +kernel
theorem dX1_find_64 : decode cX1_find 64 = .ok (.goto 4, 3) := by decide +kernel
theorem dX1_find_67 : decode cX1_find 67 = .ok (.iconst 0, 1) := by decide +kernel
theorem dX1_find_68 : decode cX1_find 68 = .ok (.istore_n 3, 1) := by decide +kernel
theorem dX1_find_69 : decode cX1_find 69 = .ok (.iload_n 3, 1) := by decide +kernel
theorem dX1_find_70 : decode cX1_find 70 = .ok (.ifCond .ne 11, 3) := by decide +kernel
theorem dX1_find_73 : decode cX1_find 73 = .ok (.aload_n 2, 1) := by decide +kernel
theorem dX1_find_74 : decode cX1_find 74 = .ok (.aload_n 0, 1) := by decide +kernel
theorem dX1_find_75 : decode cX1_find 75 = .ok (.getfield 26, 3) := by decide +kernel
theorem dX1_find_78 : decode cX1_find 78 = .ok (.invokevirtual 50, 3) := by decide +kernel
theorem dX1_find_81 : decode cX1_find 81 = .ok (.iload_n 3, 1) := by decide +kernel
theorem dX1_find_82 : decode cX1_find 82 = .ok (.ireturn, 1) := by decide +kernel
theorem dX1_formOf_0 : decode cX1_formOf 0 = .ok (.getstatic 54, 3) := by decide +kernel
theorem dX1_formOf_3 : decode cX1_formOf 3 = .ok (.iload_n 0, 1) := by decide +kernel
theorem dX1_formOf_4 : decode cX1_formOf 4 = .ok (.sipush 255, 3) := by decide +kernel
theorem dX1_formOf_7 : decode cX1_formOf 7 = .ok (.iand, 1) := by decide +kernel
theorem dX1_formOf_8 : decode cX1_formOf 8 = .ok (.iaload, 1) := by decide +kernel
theorem dX1_formOf_9 : decode cX1_formOf 9 = .ok (.ireturn, 1) := by decide +kernel
set_option maxRecDepth 20000 in
theorem ggX1_fetch_X4_segment : GoodIn wsX1_fetch wsX4_segment := goodIn_r _ [7, 8, 31, 32, 33] (by decide +kernel) (by decide +kernel)
set_option maxRecDepth 20000 in
theorem gX1_fetch_X4_segment : GoodIn wsX1_fetch (wsV RX1 58 RX4 yX4_segment wsX4_segment) := goodIn_app (goodIn_of _ (by decide +kernel)) ggX1_fetch_X4_segment
set_option maxRecDepth 20000 in
theorem ggX1_fetch_X2_load : GoodIn wsX1_fetch wsX2_load := goodIn_r _ [13, 14, 15, 12, 16, 17, 18, 19, 20, 21, 22, 23, 24, 46, 47, 48, 49] (by decide +kernel) (by decide +kernel)
set_option maxRecDepth 20000 in
theorem gX1_fetch_X2_load : GoodIn wsX1_fetch (wsV RX1 61 RX2 yX2_load wsX2_load) := goodIn_app (goodIn_of _ (by decide +kernel)) ggX1_fetch_X2_load
set_option maxRecDepth 20000 in
theorem ggX1_fetch_X4_moveTo : GoodIn wsX1_fetch wsX4_moveTo := goodIn_r _ [28, 29, 30, 31, 32, 33] (by decide +kernel) (by decide +kernel)
set_option maxRecDepth 20000 in
theorem gX1_fetch_X4_moveTo : GoodIn wsX1_fetch (wsV RX1 50 RX4 yX4_moveTo wsX4_moveTo) := goodIn_app (goodIn_of _ (by decide +kernel)) ggX1_fetch_X4_moveTo
theorem dX1_fetch_0 : decode cX1_fetch 0 = .ok (.aload_n 1, 1) := by decide +kernel
theorem dX1_fetch_1 : decode cX1_fetch 1 = .ok (.aload_n 2, 1) := by decide +kernel
theorem dX1_fetch_2 : decode cX1_fetch 2 = .ok (.iconst 1, 1) := by decide +kernel
theorem dX1_fetch_3 : decode cX1_fetch 3 = .ok (.invokevirtual 58, 3) := by decide +kernel
theorem dX1_fetch_6 : decode cX1_fetch 6 = .ok (.aload_n 2, 1) := by decide +kernel
theorem dX1_fetch_7 : decode cX1_fetch 7 = .ok (.getfield 21, 3) := by decide +kernel
theorem dX1_fetch_10 : decode cX1_fetch 10 = .ok (.iconst 0, 1) := by decide +kernel
theorem dX1_fetch_11 : decode cX1_fetch 11 = .ok (.invokevirtual 61, 3) := by decide +kernel
theorem dX1_fetch_14 : decode cX1_fetch 14 = .ok (.istore_n 3, 1) := by decide +kernel
theorem dX1_fetch_15 : decode cX1_fetch 15 = .ok (.aload_n 2, 1) := by decide +kernel
theorem dX1_fetch_16 : decode cX1_fetch 16 = .ok (.aload_n 2, 1) := by decide +kernel
theorem dX1_fetch_17 : decode cX1_fetch 17 = .ok (.getfield 21, 3) := by decide +kernel
theorem dX1_fetch_20 : decode cX1_fetch 20 = .ok (.iconst 1, 1) := by decide +kernel
theorem dX1_fetch_21 : decode cX1_fetch 21 = .ok (.iadd, 1) := by decide +kernel
theorem dX1_fetch_22 : decode cX1_fetch 22 = .ok (.invokevirtual 50, 3) := by decide +kernel
theorem dX1_fetch_25 : decode cX1_fetch 25 = .ok (.aload_n 0, 1) := by decide +kernel
theorem dX1_fetch_26 : decode cX1_fetch 26 = .ok (.dup, 1) := by decide +kernel
theorem dX1_fetch_27 : decode cX1_fetch 27 = .ok (.getfield 29, 3) := by decide +kernel
theorem dX1_fetch_30 : decode cX1_fetch 30 = .ok (.iconst 1, 1) := by decide +kernel
theorem dX1_fetch_31 : decode cX1_fetch 31 = .ok (.iadd, 1) := by decide +kernel
theorem dX1_fetch_32 : decode cX1_fetch 32 = .ok (.putfield 29, 3) := by decide +kernel
theorem dX1_fetch_35 : decode cX1_fetch 35 = .ok (.iload_n 3, 1) := by decide +kernel
theorem dX1_fetch_36 : decode cX1_fetch 36 = .ok (.ireturn, 1) := by decide +kernel
set_option maxRecDepth 20000 in
theorem ggX1_fetchWord_X1_fetch : GoodIn wsX1_fetchWord wsX1_fetch := goodIn_r _ [5, 6, 7, 8, 9, 10, 11, 12, 13, 14, 15, 16, 17, 18, 19, 20, 21, 22, 23, 24, 25, 26, 27, 28, 29, 30, 31, 32, 33, 34, 35, 36, 37, 38, 39, 40, 41, 42, 43, 44, 45, 46, 47, 48, 49, 50, 51, 52, 53, 54] (by decide +kernel) (by decide +kernel)
set_option maxRecDepth 20000 in
theorem gX1_fetchWord_X1_fetch : GoodIn wsX1_fetchWord (wsV RX1 67 RX1 yX1_fetch wsX1_fetch) := goodIn_app (goodIn_of _ (by decide +kernel)) ggX1_fetchWord_X1_fetch
theorem dX1_fetchWord_0 : decode cX1_fetchWord 0 = .ok (.aload_n 0, 1) := by decide +kernel
theorem dX1_fetchWord_1 : decode cX1_fetchWord 1 = .ok (.aload_n 1, 1) := by decide +kernel
theorem dX1_fetchWord_2 : decode cX1_fetchWord 2 = .ok (.aload_n 2, 1) := by decide +kernel
theorem dX1_fetchWord_3 : decode cX1_fetchWord 3 = .ok (.invokevirtual 67, 3) := by decide +kernel
theorem dX1_fetchWord_6 : decode cX1_fetchWord 6 = .ok (.istore_n 3, 1) := by decide +kernel
theorem dX1_fetchWord_7 : decode cX1_fetchWord 7 = .ok (.iload_n 3, 1) := by decide +kernel
theorem dX1_fetchWord_8 : decode cX1_fetchWord 8 = .ok (.aload_n 0, 1) := by decide +kernel
theorem dX1_fetchWord_9 : decode cX1_fetchWord 9 = .ok (.aload_n 1, 1) := by decide +kernel
theorem dX1_fetchWord_10 : decode cX1_fetchWord 10 = .ok (.aload_n 2, 1) := by decide +kernel
theorem dX1_fetchWord_11 : decode cX1_fetchWord 11 = .ok (.invokevirtual 67, 3) := by decide +kernel
theorem dX1_fetchWord_14 : decode cX1_fetchWord 14 = .ok (.bipush 8, 2) := by decide +kernel
theorem dX1_fetchWord_16 : decode cX1_fetchWord 16 = .ok (.ishl, 1) := by decide +kernel
theorem dX1_fetchWord_17 : decode cX1_fetchWord 17 = .ok (.ior, 1) := by decide +kernel
theorem dX1_fetchWord_18 : decode cX1_fetchWord 18 = .ok (.ireturn, 1) := by decide +kernel
set_option maxRecDepth 20000 in
theorem ggX1_fetchNumber_X1_fetch : GoodIn wsX1_fetchNumber wsX1_fetch := goodIn_r _ [6, 7, 8, 9, 10, 11, 12, 13, 14, 15, 16, 17, 18, 19, 20, 21, 22, 23, 24, 25, 26, 27, 28, 29, 30, 31, 32, 33, 34, 35, 36, 59, 60, 61, 47, 48, 49, 50, 51, 52, 53, 54, 55, 56, 57, 58, 62, 63, 64, 65] (by decide +kernel) (by decide +kernel)
set_option maxRecDepth 20000 in
theorem gX1_fetchNumber_X1_fetch : GoodIn wsX1_fetchNumber (wsV RX1 67 RX1 yX1_fetch wsX1_fetch) := goodIn_app (goodIn_of _ (by decide +kernel)) ggX1_fetchNumber_X1_fetch
set_option maxRecDepth 20000 in
theorem ggX1_fetchNumber_X1_formOf : GoodIn wsX1_fetchNumber wsX1_formOf := goodIn_r _ [39, 40] (by decide +kernel) (by decide +kernel)
set_option maxRecDepth 20000 in
theorem gX1_fetchNumber_X1_formOf : GoodIn wsX1_fetchNumber (va_wsS RX1 42 yX1_formOf wsX1_formOf) := goodIn_app (goodIn_of _ (by decide +kernel)) ggX1_fetchNumber_X1_formOf
set_option maxRecDepth 20000 in
theorem ggX1_fetchNumber_X1_keepPrefix : GoodIn wsX1_fetchNumber wsX1_keepPrefix := goodIn_r _ [44, 1, 45, 46, 47, 48, 49, 50, 51, 52, 53, 54, 55, 56, 57, 58] (by decide +kernel) (by decide +kernel)
set_option maxRecDepth 20000 in
theorem gX1_fetchNumber_X1_keepPrefix : GoodIn wsX1_fetchNumber (wsV RX1 71 RX1 yX1_keepPrefix wsX1_keepPrefix) := goodIn_app (goodIn_of _ (by decide +kernel)) ggX1_fetchNumber_X1_keepPrefix
theorem dX1_fetchNumber_0 : decode cX1_fetchNumber 0 = .ok (.aload_n 0, 1) := by decide +kernel
theorem dX1_fetchNumber_1 : decode cX1_fetchNumber 1 = .ok (.aload_n 0, 1) := by decide +kernel
theorem dX1_fetchNumber_2 : decode cX1_fetchNumber 2 = .ok (.aload_n 1, 1) := by decide +kernel
theorem dX1_fetchNumber_3 : decode cX1_fetchNumber 3 = .ok (.aload_n 2, 1) := by decide +kernel
theorem dX1_fetchNumber_4 : decode cX1_fetchNumber 4 = .ok (.invokevirtual 67, 3) := by decide +kernel
theorem dX1_fetchNumber_7 : decode cX1_fetchNumber 7 = .ok (.putfield 9, 3) := by decide +kernel
theorem dX1_fetchNumber_10 : decode cX1_fetchNumber 10 = .ok (.iconst 1, 1) := by decide +kernel
theorem dX1_fetchNumber_11 : decode cX1_fetchNumber 11 = .ok (.istore_n 3, 1) := by decide +kernel
theorem dX1_fetchNumber_12 : decode cX1_fetchNumber 12 = .ok (.iload_n 3, 1) := by decide +kernel
theorem dX1_fetchNumber_13 : decode cX1_fetchNumber 13 = .ok (.bipush 15, 2) := by decide +kernel
theorem dX1_fetchNumber_15 : decode cX1_fetchNumber 15 = .ok (.if_icmp .ge 35, 3) := by decide +kernel
theorem dX1_fetchNumber_18 : decode cX1_fetchNumber 18 = .ok (.aload_n 0, 1) := by decide +kernel
theorem dX1_fetchNumber_19 : decode cX1_fetchNumber 19 = .ok (.getfield 9, 3) := by decide +kernel
theorem dX1_fetchNumber_22 : decode cX1_fetchNumber 22 = .ok (.invokestatic 42, 3) := by decide +kernel
theorem dX1_fetchNumber_25 : decode cX1_fetchNumber 25 = .ok (.bipush 9, 2) := by decide +kernel
theorem dX1_fetchNumber_27 : decode cX1_fetchNumber 27 = .ok (.if_icmp .ne 23, 3) := by decide +kernel
theorem dX1_fetchNumber_30 : decode cX1_fetchNumber 30 = .ok (.aload_n 0, 1) := by decide +kernel
theorem dX1_fetchNumber_31 : decode cX1_fetchNumber 31 = .ok (.invokevirtual 71, 3) := by decide +kernel
theorem dX1_fetchNumber_34 : decode cX1_fetchNumber 34 = .ok (.aload_n 0, 1) := by decide +kernel
theorem dX1_fetchNumber_35 : decode cX1_fetchNumber 35 = .ok (.aload_n 0, 1) := by decide +kernel
theorem dX1_fetchNumber_36 : decode cX1_fetchNumber 36 = .ok (.aload_n 1, 1) := by decide +kernel
theorem dX1_fetchNumber_37 : decode cX1_fetchNumber 37 = .ok (.aload_n 2, 1) := by decide +kernel
theorem dX1_fetchNumber_38 : decode cX1_fetchNumber 38 = .ok (.invokevirtual 67, 3) := by decide +kernel
theorem dX1_fetchNumber_41 : decode cX1_fetchNumber 41 = .ok (.putfield 9, 3) := by decide +kernel
theorem dX1_fetchNumber_44 : decode cX1_fetchNumber 44 = .ok (.iinc 3 1, 3) := by decide +kernel
theorem dX1_fetchNumber_47 : decode cX1_fetchNumber 47 = .ok (.goto (-35), 3) := by decide +kernel
theorem dX1_fetchNumber_50 : decode cX1_fetchNumber 50 = .ok (.return_, 1) := by decide +kernel
theorem dX1_keepPrefix_0 : decode cX1_keepPrefix 0 = .ok (.aload_n 0, 1) := by decide +kernel
theorem dX1_keepPrefix_1 : decode cX1_keepPrefix 1 = .ok (.getfield 9, 3) := by decide +kernel
theorem dX1_keepPrefix_4 : decode cX1_keepPrefix 4 = .ok (.bipush 64, 2) := by decide +kernel
theorem dX1_keepPrefix_6 : decode cX1_keepPrefix 6 = .ok (.if_icmp .ge 18, 3) := by decide +kernel
theorem dX1_keepPrefix_9 : decode cX1_keepPrefix 9 = .ok (.aload_n 0, 1) := by decide +kernel
theorem dX1_keepPrefix_10 : decode cX1_keepPrefix 10 = .ok (.aload_n 0, 1) := by decide +kernel
theorem dX1_keepPrefix_11 : decode cX1_keepPrefix 11 = .ok (.getfield 9, 3) := by decide +kernel
theorem dX1_keepPrefix_14 : decode cX1_keepPrefix 14 = .ok (.iconst 3, 1) := by decide +kernel
theorem dX1_keepPrefix_15 : decode cX1_keepPrefix 15 = .ok (.ishr, 1) := by decide +kernel
theorem dX1_keepPrefix_16 : decode cX1_keepPrefix 16 = .ok (.iconst 3, 1) := by decide +kernel
theorem dX1_keepPrefix_17 : decode cX1_keepPrefix 17 = .ok (.iand, 1) := by decide +kernel
theorem dX1_keepPrefix_18 : decode cX1_keepPrefix 18 = .ok (.putfield 18, 3) := by decide +kernel
theorem dX1_keepPrefix_21 : decode cX1_keepPrefix 21 = .ok (.goto 21, 3) := by decide +kernel
theorem dX1_keepPrefix_24 : decode cX1_keepPrefix 24 = .ok (.aload_n 0, 1) := by decide +kernel
theorem dX1_keepPrefix_25 : decode cX1_keepPrefix 25 = .ok (.getfield 9, 3) := by decide +kernel
theorem dX1_keepPrefix_28 : decode cX1_keepPrefix 28 = .ok (.sipush 242, 3) := by decide +kernel
theorem dX1_keepPrefix_31 : decode cX1_keepPrefix 31 = .ok (.if_icmp .lt 11, 3) := by decide +kernel
theorem dX1_keepPrefix_34 : decode cX1_keepPrefix 34 = .ok (.aload_n 0, 1) := by decide +kernel
theorem dX1_keepPrefix_35 : decode cX1_keepPrefix 35 = .ok (.aload_n 0, 1) := by decide +kernel
theorem dX1_keepPrefix_36 : decode cX1_keepPrefix 36 = .ok (.getfield 9, 3) := by decide +kernel
theorem dX1_keepPrefix_39 : decode cX1_keepPrefix 39 = .ok (.putfield 32, 3) := by decide +kernel
theorem dX1_keepPrefix_42 : decode cX1_keepPrefix 42 = .ok (.return_, 1) := by decide +kernel
set_option maxRecDepth 20000 in
theorem ggX1_fetchRest_X1_formOf : GoodIn wsX1_fetchRest wsX1_formOf := goodIn_r _ [8, 9] (by decide +kernel) (by decide +kernel)
set_option maxRecDepth 20000 in
theorem gX1_fetchRest_X1_formOf : GoodIn wsX1_fetchRest (va_wsS RX1 42 yX1_formOf wsX1_formOf) := goodIn_app (goodIn_of _ (by decide +kernel)) ggX1_fetchRest_X1_formOf
set_option maxRecDepth 20000 in
theorem ggX1_fetchRest_X1_hasM : GoodIn wsX1_fetchRest wsX1_hasM := goodIn_r _ [12] (by decide +kernel) (by decide +kernel)
set_option maxRecDepth 20000 in
theorem gX1_fetchRest_X1_hasM : GoodIn wsX1_fetchRest (va_wsS RX1 74 yX1_hasM wsX1_hasM) := goodIn_app (goodIn_of _ (by decide +kernel)) ggX1_fetchRest_X1_hasM
set_option maxRecDepth 20000 in
theorem ggX1_fetchRest_X1_fetchM : GoodIn wsX1_fetchRest wsX1_fetchM := goodIn_r _ [16, 17, 2, 18, 19, 20, 21, 22, 23, 24, 7, 25, 26, 27, 28, 29, 30, 31, 32, 33, 34, 35, 36, 37, 38, 39, 40, 41, 42, 43, 44, 45, 46, 47, 48, 49, 50, 51, 52, 53, 54, 55, 56, 57, 58, 59, 60, 61, 62, 63, 64, 65, 66, 67, 68, 69, 70, 71, 72, 73, 74, 75, 76, 77, 78, 79, 80, 81, 82, 83, 84, 85, 86, 87, 88, 89, 90, 91, 92, 93, 94, 95, 96] (by decide +kernel) (by decide +kernel)
set_option maxRecDepth 20000 in
theorem gX1_fetchRest_X1_fetchM : GoodIn wsX1_fetchRest (wsV RX1 78 RX1 yX1_fetchM wsX1_fetchM) := goodIn_app (goodIn_of _ (by decide +kernel)) ggX1_fetchRest_X1_fetchM
set_option maxRecDepth 20000 in
theorem ggX1_fetchRest_X1_fetch : GoodIn wsX1_fetchRest wsX1_fetch := goodIn_r _ [25, 26, 27, 28, 29, 30, 31, 32, 33, 34, 35, 36, 37, 38, 39, 40, 41, 42, 43, 44, 45, 46, 47, 48, 49, 50, 51, 52, 53, 54, 55, 90, 91, 92, 78, 79, 80, 81, 82, 83, 84, 85, 86, 87, 88, 89, 93, 94, 95, 96] (by decide +kernel) (by decide +kernel)
set_option maxRecDepth 20000 in
theorem gX1_fetchRest_X1_fetch : GoodIn wsX1_fetchRest (wsV RX1 67 RX1 yX1_fetch wsX1_fetch) := goodIn_app (goodIn_of _ (by decide +kernel)) ggX1_fetchRest_X1_fetch
set_option maxRecDepth 20000 in
theorem ggX1_fetchRest_X1_fetchWord : GoodIn wsX1_fetchRest wsX1_fetchWord := goodIn_r _ [64, 22, 23, 24, 7, 25, 26, 27, 28, 29, 30, 31, 32, 33, 34, 35, 36, 37, 38, 39, 40, 41, 42, 43, 44, 45, 46, 47, 48, 49, 50, 51, 52, 53, 54, 55, 90, 91, 92, 78, 79, 80, 81, 82, 83, 84, 85, 86, 87, 88, 89, 93, 94, 95, 96] (by decide +kernel) (by decide +kernel)
set_option maxRecDepth 20000 in
theorem gX1_fetchRest_X1_fetchWord : GoodIn wsX1_fetchRest (wsV RX1 87 RX1 yX1_fetchWord wsX1_fetchWord) := goodIn_app (goodIn_of _ (by decide +kernel)) ggX1_fetchRest_X1_fetchWord
theorem dX1_fetchRest_0 : decode cX1_fetchRest 0 = .ok (.aload_n 0, 1) := by decide +kernel
theorem dX1_fetchRest_1 : decode cX1_fetchRest 1 = .ok (.getfield 9, 3) := by decide +kernel
theorem dX1_fetchRest_4 : decode cX1_fetchRest 4 = .ok (.invokestatic 42, 3) := by decide +kernel
theorem dX1_fetchRest_7 : decode cX1_fetchRest 7 = .ok (.istore_n 3, 1) := by decide +kernel
theorem dX1_fetchRest_8 : decode cX1_fetchRest 8 = .ok (.iload_n 3, 1) := by decide +kernel
theorem dX1_fetchRest_9 : decode cX1_fetchRest 9 = .ok (.invokestatic 74, 3) := by decide +kernel
theorem dX1_fetchRest_12 : decode cX1_fetchRest 12 = .ok (.ifCond .eq 9, 3) := by decide +kernel
theorem dX1_fetchRest_15 : decode cX1_fetchRest 15 = .ok (.aload_n 0, 1) := by decide +kernel
theorem dX1_fetchRest_16 : decode cX1_fetchRest 16 = .ok (.aload_n 1, 1) := by decide +kernel
theorem dX1_fetchRest_17 : decode cX1_fetchRest 17 = .ok (.aload_n 2, 1) := by decide +kernel
theorem dX1_fetchRest_18 : decode cX1_fetchRest 18 = .ok (.invokevirtual 78, 3) := by decide +kernel
theorem dX1_fetchRest_21 : decode cX1_fetchRest 21 = .ok (.iload_n 3, 1) := by decide +kernel
theorem dX1_fetchRest_22 : decode cX1_fetchRest 22 = .ok (.iconst 1, 1) := by decide +kernel
theorem dX1_fetchRest_23 : decode cX1_fetchRest 23 = .ok (.if_icmp .eq 22, 3) := by decide +kernel
theorem dX1_fetchRest_26 : decode cX1_fetchRest 26 = .ok (.iload_n 3, 1) := by decide +kernel
theorem dX1_fetchRest_27 : decode cX1_fetchRest 27 = .ok (.iconst 4, 1) := by decide +kernel
theorem dX1_fetchRest_28 : decode cX1_fetchRest 28 = .ok (.if_icmp .eq 17, 3) := by decide +kernel
theorem dX1_fetchRest_31 : decode cX1_fetchRest 31 = .ok (.iload_n 3, 1) := by decide +kernel
theorem dX1_fetchRest_32 : decode cX1_fetchRest 32 = .ok (.bipush 7, 2) := by decide +kernel
theorem dX1_fetchRest_34 : decode cX1_fetchRest 34 = .ok (.if_icmp .ne 24, 3) := by decide +kernel
theorem dX1_fetchRest_37 : decode cX1_fetchRest 37 = .ok (.aload_n 0, 1) := by decide +kernel
theorem dX1_fetchRest_38 : decode cX1_fetchRest 38 = .ok (.getfield 81, 3) := by decide +kernel
theorem dX1_fetchRest_41 : decode cX1_fetchRest 41 = .ok (.iconst 2, 1) := by decide +kernel
theorem dX1_fetchRest_42 : decode cX1_fetchRest 42 = .ok (.if_icmp .ge 16, 3) := by decide +kernel
theorem dX1_fetchRest_45 : decode cX1_fetchRest 45 = .ok (.aload_n 0, 1) := by decide +kernel
theorem dX1_fetchRest_46 : decode cX1_fetchRest 46 = .ok (.aload_n 0, 1) := by decide +kernel
theorem dX1_fetchRest_47 : decode cX1_fetchRest 47 = .ok (.aload_n 1, 1) := by decide +kernel
theorem dX1_fetchRest_48 : decode cX1_fetchRest 48 = .ok (.aload_n 2, 1) := by decide +kernel
theorem dX1_fetchRest_49 : decode cX1_fetchRest 49 = .ok (.invokevirtual 67, 3) := by decide +kernel
theorem dX1_fetchRest_52 : decode cX1_fetchRest 52 = .ok (.putfield 84, 3) := by decide +kernel
theorem dX1_fetchRest_55 : decode cX1_fetchRest 55 = .ok (.goto 66, 3) := by decide +kernel
theorem dX1_fetchRest_58 : decode cX1_fetchRest 58 = .ok (.iload_n 3, 1) := by decide +kernel
theorem dX1_fetchRest_59 : decode cX1_fetchRest 59 = .ok (.iconst 2, 1) := by decide +kernel
theorem dX1_fetchRest_60 : decode cX1_fetchRest 60 = .ok (.if_icmp .eq 22, 3) := by decide +kernel
theorem dX1_fetchRest_63 : decode cX1_fetchRest 63 = .ok (.iload_n 3, 1) := by decide +kernel
theorem dX1_fetchRest_64 : decode cX1_fetchRest 64 = .ok (.iconst 5, 1) := by decide +kernel
theorem dX1_fetchRest_65 : decode cX1_fetchRest 65 = .ok (.if_icmp .eq 17, 3) := by decide +kernel
theorem dX1_fetchRest_68 : decode cX1_fetchRest 68 = .ok (.iload_n 3, 1) := by decide +kernel
theorem dX1_fetchRest_69 : decode cX1_fetchRest 69 = .ok (.bipush 8, 2) := by decide +kernel
theorem dX1_fetchRest_71 : decode cX1_fetchRest 71 = .ok (.if_icmp .ne 24, 3) := by decide +kernel
theorem dX1_fetchRest_74 : decode cX1_fetchRest 74 = .ok (.aload_n 0, 1) := by decide +kernel
theorem dX1_fetchRest_75 : decode cX1_fetchRest 75 = .ok (.getfield 81, 3) := by decide +kernel
theorem dX1_fetchRest_78 : decode cX1_fetchRest 78 = .ok (.iconst 2, 1) := by decide +kernel
theorem dX1_fetchRest_79 : decode cX1_fetchRest 79 = .ok (.if_icmp .ge 16, 3) := by decide +kernel
theorem dX1_fetchRest_82 : decode cX1_fetchRest 82 = .ok (.aload_n 0, 1) := by decide +kernel
theorem dX1_fetchRest_83 : decode cX1_fetchRest 83 = .ok (.aload_n 0, 1) := by decide +kernel
theorem dX1_fetchRest_84 : decode cX1_fetchRest 84 = .ok (.aload_n 1, 1) := by decide +kernel
theorem dX1_fetchRest_85 : decode cX1_fetchRest 85 = .ok (.aload_n 2, 1) := by decide +kernel
theorem dX1_fetchRest_86 : decode cX1_fetchRest 86 = .ok (.invokevirtual 87, 3) := by decide +kernel
theorem dX1_fetchRest_89 : decode cX1_fetchRest 89 = .ok (.putfield 84, 3) := by decide +kernel
theorem dX1_fetchRest_92 : decode cX1_fetchRest 92 = .ok (.goto 29, 3) := by decide +kernel
theorem dX1_fetchRest_95 : decode cX1_fetchRest 95 = .ok (.iload_n 3, 1) := by decide +kernel
theorem dX1_fetchRest_96 : decode cX1_fetchRest 96 = .ok (.bipush 6, 2) := by decide +kernel
theorem dX1_fetchRest_98 : decode cX1_fetchRest 98 = .ok (.if_icmp .ne 23, 3) := by decide +kernel
theorem dX1_fetchRest_101 : decode cX1_fetchRest 101 = .ok (.aload_n 0, 1) := by decide +kernel
theorem dX1_fetchRest_102 : decode cX1_fetchRest 102 = .ok (.aload_n 0, 1) := by decide +kernel
theorem dX1_fetchRest_103 : decode cX1_fetchRest 103 = .ok (.aload_n 1, 1) := by decide +kernel
theorem dX1_fetchRest_104 : decode cX1_fetchRest 104 = .ok (.aload_n 2, 1) := by decide +kernel
theorem dX1_fetchRest_105 : decode cX1_fetchRest 105 = .ok (.invokevirtual 87, 3) := by decide +kernel
theorem dX1_fetchRest_108 : decode cX1_fetchRest 108 = .ok (.putfield 84, 3) := by decide +kernel
theorem dX1_fetchRest_111 : decode cX1_fetchRest 111 = .ok (.aload_n 0, 1) := by decide +kernel
theorem dX1_fetchRest_112 : decode cX1_fetchRest 112 = .ok (.aload_n 0, 1) := by decide +kernel
theorem dX1_fetchRest_113 : decode cX1_fetchRest 113 = .ok (.aload_n 1, 1) := by decide +kernel
theorem dX1_fetchRest_114 : decode cX1_fetchRest 114 = .ok (.aload_n 2, 1) := by decide +kernel
theorem dX1_fetchRest_115 : decode cX1_fetchRest 115 = .ok (.invokevirtual 87, 3) := by decide +kernel
theorem dX1_fetchRest_118 : decode cX1_fetchRest 118 = .ok (.putfield 90, 3) := by decide +kernel
theorem dX1_fetchRest_121 : decode cX1_fetchRest 121 = .ok (.return_, 1) := by decide +kernel
theorem dX1_hasM_0 : decode cX1_hasM 0 = .ok (.iload_n 0, 1) := by decide +kernel
theorem dX1_hasM_1 : decode cX1_hasM 1 = .ok (.iconst 3, 1) := by decide +kernel
theorem dX1_hasM_2 : decode cX1_hasM 2 = .ok (.if_icmp .eq 25, 3) := by decide +kernel
theorem dX1_hasM_5 : decode cX1_hasM 5 = .ok (.iload_n 0, 1) := by decide +kernel
theorem dX1_hasM_6 : decode cX1_hasM 6 = .ok (.iconst 4, 1) := by decide +kernel
theorem dX1_hasM_7 : decode cX1_hasM 7 = .ok (.if_icmp .eq 20, 3) := by decide +kernel
theorem dX1_hasM_10 : decode cX1_hasM 10 = .ok (.iload_n 0, 1) := by decide +kernel
theorem dX1_hasM_11 : decode cX1_hasM 11 = .ok (.iconst 5, 1) := by decide +kernel
theorem dX1_hasM_12 : decode cX1_hasM 12 = .ok (.if_icmp .eq 15, 3) := by decide +kernel
theorem dX1_hasM_15 : decode cX1_hasM 15 = .ok (.iload_n 0, 1) := by decide +kernel
theorem dX1_hasM_16 : decode cX1_hasM 16 = .ok (.bipush 7, 2) := by decide +kernel
theorem dX1_hasM_18 : decode cX1_hasM 18 = .ok (.if_icmp .eq 9, 3) := by decide +kernel
theorem dX1_hasM_21 : decode cX1_hasM 21 = .ok (.iload_n 0, 1) := by decide +kernel
theorem dX1_hasM_22 : decode cX1_hasM 22 = .ok (.bipush 8, 2) := by decide +kernel
theorem dX1_hasM_24 : decode cX1_hasM 24 = .ok (.if_icmp .ne 7, 3) := by decide +kernel
theorem dX1_hasM_27 : decode cX1_hasM 27 = .ok (.iconst 1, 1) := by decide +kernel
theorem dX1_hasM_28 : decode cX1_hasM 28 = .ok (.goto 4, 3) := by decide +kernel
theorem dX1_hasM_31 : decode cX1_hasM 31 = .ok (.iconst 0, 1) := by decide +kernel
theorem dX1_hasM_32 : decode cX1_hasM 32 = .ok (.ireturn, 1) := by decide +kernel
set_option maxRecDepth 20000 in
theorem ggX1_fetchM_X1_fetch : GoodIn wsX1_fetchM wsX1_fetch := goodIn_r _ [11, 12, 13, 14, 15, 16, 17, 18, 19, 20, 21, 22, 23, 24, 25, 26, 27, 28, 29, 30, 31, 32, 33, 34, 35, 36, 37, 38, 39, 40, 41, 76, 77, 78, 64, 65, 66, 67, 68, 69, 70, 71, 72, 73, 74, 75, 79, 80, 81, 82] (by decide +kernel) (by decide +kernel)
set_option maxRecDepth 20000 in
theorem gX1_fetchM_X1_fetch : GoodIn wsX1_fetchM (wsV RX1 67 RX1 yX1_fetch wsX1_fetch) := goodIn_app (goodIn_of _ (by decide +kernel)) ggX1_fetchM_X1_fetch
set_option maxRecDepth 20000 in
theorem ggX1_fetchM_X1_segmentOr : GoodIn wsX1_fetchM wsX1_segmentOr := goodIn_r _ [45, 46, 64, 65, 66, 67, 68, 69, 70, 71, 72, 73, 74, 75] (by decide +kernel) (by decide +kernel)
set_option maxRecDepth 20000 in
theorem gX1_fetchM_X1_segmentOr : GoodIn wsX1_fetchM (wsV RX1 96 RX1 yX1_segmentOr wsX1_segmentOr) := goodIn_app (goodIn_of _ (by decide +kernel)) ggX1_fetchM_X1_segmentOr
set_option maxRecDepth 20000 in
theorem ggX1_fetchM_X4_segment : GoodIn wsX1_fetchM wsX4_segment := goodIn_r _ [18, 19, 76, 77, 78] (by decide +kernel) (by decide +kernel)
set_option maxRecDepth 20000 in
theorem gX1_fetchM_X4_segment : GoodIn wsX1_fetchM (wsV RX1 58 RX4 yX4_segment wsX4_segment) := goodIn_app (goodIn_of _ (by decide +kernel)) ggX1_fetchM_X4_segment
set_option maxRecDepth 20000 in
theorem ggX1_fetchM_X1_fetchWord : GoodIn wsX1_fetchM wsX1_fetchWord := goodIn_r _ [50, 7, 8, 9, 10, 11, 12, 13, 14, 15, 16, 17, 18, 19, 20, 21, 22, 23, 24, 25, 26, 27, 28, 29, 30, 31, 32, 33, 34, 35, 36, 37, 38, 39, 40, 41, 76, 77, 78, 64, 65, 66, 67, 68, 69, 70, 71, 72, 73, 74, 75, 79, 80, 81, 82] (by decide +kernel) (by decide +kernel)
set_option maxRecDepth 20000 in
theorem gX1_fetchM_X1_fetchWord : GoodIn wsX1_fetchM (wsV RX1 87 RX1 yX1_fetchWord wsX1_fetchWord) := goodIn_app (goodIn_of _ (by decide +kernel)) ggX1_fetchM_X1_fetchWord
set_option maxRecDepth 20000 in
theorem ggX1_fetchM_X0_signed : GoodIn wsX1_fetchM wsX0_signed := goodIn_r _ [54] (by decide +kernel) (by decide +kernel)
set_option maxRecDepth 20000 in
theorem gX1_fetchM_X0_signed : GoodIn wsX1_fetchM (va_wsS RX1 105 yX0_signed wsX0_signed) := goodIn_app (goodIn_of _ (by decide +kernel)) ggX1_fetchM_X0_signed
set_option maxRecDepth 20000 in
theorem ggX1_fetchM_X1_base : GoodIn wsX1_fetchM wsX1_base := goodIn_r _ [58, 3, 59, 60, 61, 17, 62, 63, 64, 65, 66, 67, 68, 69, 70, 71, 72, 73, 74, 75, 76, 77, 78] (by decide +kernel) (by decide +kernel)
set_option maxRecDepth 20000 in
theorem gX1_fetchM_X1_base : GoodIn wsX1_fetchM (wsV RX1 111 RX1 yX1_base wsX1_base) := goodIn_app (goodIn_of _ (by decide +kernel)) ggX1_fetchM_X1_base
theorem dX1_fetchM_0 : decode cX1_fetchM 0 = .ok (.aload_n 0, 1) := by decide +kernel
theorem dX1_fetchM_1 : decode cX1_fetchM 1 = .ok (.aload_n 1, 1) := by decide +kernel
theorem dX1_fetchM_2 : decode cX1_fetchM 2 = .ok (.aload_n 2, 1) := by decide +kernel
theorem dX1_fetchM_3 : decode cX1_fetchM 3 = .ok (.invokevirtual 67, 3) := by decide +kernel
theorem dX1_fetchM_6 : decode cX1_fetchM 6 = .ok (.istore_n 3, 1) := by decide +kernel
theorem dX1_fetchM_7 : decode cX1_fetchM 7 = .ok (.aload_n 0, 1) := by decide +kernel
theorem dX1_fetchM_8 : decode cX1_fetchM 8 = .ok (.iload_n 3, 1) := by decide +kernel
theorem dX1_fetchM_9 : decode cX1_fetchM 9 = .ok (.bipush 6, 2) := by decide +kernel
theorem dX1_fetchM_11 : decode cX1_fetchM 11 = .ok (.ishr, 1) := by decide +kernel
theorem dX1_fetchM_12 : decode cX1_fetchM 12 = .ok (.putfield 15, 3) := by decide +kernel
theorem dX1_fetchM_15 : decode cX1_fetchM 15 = .ok (.aload_n 0, 1) := by decide +kernel
theorem dX1_fetchM_16 : decode cX1_fetchM 16 = .ok (.iload_n 3, 1) := by decide +kernel
theorem dX1_fetchM_17 : decode cX1_fetchM 17 = .ok (.iconst 3, 1) := by decide +kernel
theorem dX1_fetchM_18 : decode cX1_fetchM 18 = .ok (.ishr, 1) := by decide +kernel
theorem dX1_fetchM_19 : decode cX1_fetchM 19 = .ok (.bipush 7, 2) := by decide +kernel
theorem dX1_fetchM_21 : decode cX1_fetchM 21 = .ok (.iand, 1) := by decide +kernel
theorem dX1_fetchM_22 : decode cX1_fetchM 22 = .ok (.putfield 81, 3) := by decide +kernel
theorem dX1_fetchM_25 : decode cX1_fetchM 25 = .ok (.aload_n 0, 1) := by decide +kernel
theorem dX1_fetchM_26 : decode cX1_fetchM 26 = .ok (.iload_n 3, 1) := by decide +kernel
theorem dX1_fetchM_27 : decode cX1_fetchM 27 = .ok (.bipush 7, 2) := by decide +kernel
theorem dX1_fetchM_29 : decode cX1_fetchM 29 = .ok (.iand, 1) := by decide +kernel
theorem dX1_fetchM_30 : decode cX1_fetchM 30 = .ok (.putfield 93, 3) := by decide +kernel
theorem dX1_fetchM_33 : decode cX1_fetchM 33 = .ok (.aload_n 0, 1) := by decide +kernel
theorem dX1_fetchM_34 : decode cX1_fetchM 34 = .ok (.getfield 15, 3) := by decide +kernel
theorem dX1_fetchM_37 : decode cX1_fetchM 37 = .ok (.ifCond .ne 36, 3) := by decide +kernel
theorem dX1_fetchM_40 : decode cX1_fetchM 40 = .ok (.aload_n 0, 1) := by decide +kernel
theorem dX1_fetchM_41 : decode cX1_fetchM 41 = .ok (.getfield 93, 3) := by decide +kernel
theorem dX1_fetchM_44 : decode cX1_fetchM 44 = .ok (.bipush 6, 2) := by decide +kernel
theorem dX1_fetchM_46 : decode cX1_fetchM 46 = .ok (.if_icmp .ne 27, 3) := by decide +kernel
theorem dX1_fetchM_49 : decode cX1_fetchM 49 = .ok (.aload_n 0, 1) := by decide +kernel
theorem dX1_fetchM_50 : decode cX1_fetchM 50 = .ok (.aload_n 2, 1) := by decide +kernel
theorem dX1_fetchM_51 : decode cX1_fetchM 51 = .ok (.aload_n 0, 1) := by decide +kernel
theorem dX1_fetchM_52 : decode cX1_fetchM 52 = .ok (.iconst 3, 1) := by decide +kernel
theorem dX1_fetchM_53 : decode cX1_fetchM 53 = .ok (.invokevirtual 96, 3) := by decide +kernel
theorem dX1_fetchM_56 : decode cX1_fetchM 56 = .ok (.invokevirtual 58, 3) := by decide +kernel
theorem dX1_fetchM_59 : decode cX1_fetchM 59 = .ok (.putfield 99, 3) := by decide +kernel
theorem dX1_fetchM_62 : decode cX1_fetchM 62 = .ok (.aload_n 0, 1) := by decide +kernel
theorem dX1_fetchM_63 : decode cX1_fetchM 63 = .ok (.aload_n 0, 1) := by decide +kernel
theorem dX1_fetchM_64 : decode cX1_fetchM 64 = .ok (.aload_n 1, 1) := by decide +kernel
theorem dX1_fetchM_65 : decode cX1_fetchM 65 = .ok (.aload_n 2, 1) := by decide +kernel
theorem dX1_fetchM_66 : decode cX1_fetchM 66 = .ok (.invokevirtual 87, 3) := by decide +kernel
theorem dX1_fetchM_69 : decode cX1_fetchM 69 = .ok (.putfield 102, 3) := by decide +kernel
theorem dX1_fetchM_72 : decode cX1_fetchM 72 = .ok (.return_, 1) := by decide +kernel
theorem dX1_fetchM_73 : decode cX1_fetchM 73 = .ok (.aload_n 0, 1) := by decide +kernel
theorem dX1_fetchM_74 : decode cX1_fetchM 74 = .ok (.getfield 93, 3) := by decide +kernel
theorem dX1_fetchM_77 : decode cX1_fetchM 77 = .ok (.iconst 2, 1) := by decide +kernel
theorem dX1_fetchM_78 : decode cX1_fetchM 78 = .ok (.if_icmp .eq 20, 3) := by decide +kernel
theorem dX1_fetchM_81 : decode cX1_fetchM 81 = .ok (.aload_n 0, 1) := by decide +kernel
theorem dX1_fetchM_82 : decode cX1_fetchM 82 = .ok (.getfield 93, 3) := by decide +kernel
theorem dX1_fetchM_85 : decode cX1_fetchM 85 = .ok (.iconst 3, 1) := by decide +kernel
theorem dX1_fetchM_86 : decode cX1_fetchM 86 = .ok (.if_icmp .eq 12, 3) := by decide +kernel
theorem dX1_fetchM_89 : decode cX1_fetchM 89 = .ok (.aload_n 0, 1) := by decide +kernel
theorem dX1_fetchM_90 : decode cX1_fetchM 90 = .ok (.getfield 93, 3) := by decide +kernel
theorem dX1_fetchM_93 : decode cX1_fetchM 93 = .ok (.bipush 6, 2) := by decide +kernel
theorem dX1_fetchM_95 : decode cX1_fetchM 95 = .ok (.if_icmp .ne 7, 3) := by decide +kernel
theorem dX1_fetchM_98 : decode cX1_fetchM 98 = .ok (.iconst 1, 1) := by decide +kernel
theorem dX1_fetchM_99 : decode cX1_fetchM 99 = .ok (.goto 4, 3) := by decide +kernel
theorem dX1_fetchM_102 : decode cX1_fetchM 102 = .ok (.iconst 0, 1) := by decide +kernel
theorem dX1_fetchM_103 : decode cX1_fetchM 103 = .ok (.istore 4, 2) := by decide +kernel
theorem dX1_fetchM_105 : decode cX1_fetchM 105 = .ok (.aload_n 0, 1) := by decide +kernel
theorem dX1_fetchM_106 : decode cX1_fetchM 106 = .ok (.aload_n 2, 1) := by decide +kernel
theorem dX1_fetchM_107 : decode cX1_fetchM 107 = .ok (.aload_n 0, 1) := by decide +kernel
theorem dX1_fetchM_108 : decode cX1_fetchM 108 = .ok (.iload 4, 2) := by decide +kernel
theorem dX1_fetchM_110 : decode cX1_fetchM 110 = .ok (.ifCond .eq 7, 3) := by decide +kernel
theorem dX1_fetchM_113 : decode cX1_fetchM 113 = .ok (.iconst 2, 1) := by decide +kernel
theorem dX1_fetchM_114 : decode cX1_fetchM 114 = .ok (.goto 4, 3) := by decide +kernel
theorem dX1_fetchM_117 : decode cX1_fetchM 117 = .ok (.iconst 3, 1) := by decide +kernel
theorem dX1_fetchM_118 : decode cX1_fetchM 118 = .ok (.invokevirtual 96, 3) := by decide +kernel
theorem dX1_fetchM_121 : decode cX1_fetchM 121 = .ok (.invokevirtual 58, 3) := by decide +kernel
theorem dX1_fetchM_124 : decode cX1_fetchM 124 = .ok (.putfield 99, 3) := by decide +kernel
theorem dX1_fetchM_127 : decode cX1_fetchM 127 = .ok (.iconst 0, 1) := by decide +kernel
theorem dX1_fetchM_128 : decode cX1_fetchM 128 = .ok (.istore 5, 2) := by decide +kernel
theorem dX1_fetchM_130 : decode cX1_fetchM 130 = .ok (.aload_n 0, 1) := by decide +kernel
theorem dX1_fetchM_131 : decode cX1_fetchM 131 = .ok (.getfield 15, 3) := by decide +kernel
theorem dX1_fetchM_134 : decode cX1_fetchM 134 = .ok (.iconst 1, 1) := by decide +kernel
theorem dX1_fetchM_135 : decode cX1_fetchM 135 = .ok (.if_icmp .ne 18, 3) := by decide +kernel
theorem dX1_fetchM_138 : decode cX1_fetchM 138 = .ok (.aload_n 0, 1) := by decide +kernel
theorem dX1_fetchM_139 : decode cX1_fetchM 139 = .ok (.aload_n 1, 1) := by decide +kernel
theorem dX1_fetchM_140 : decode cX1_fetchM 140 = .ok (.aload_n 2, 1) := by decide +kernel
theorem dX1_fetchM_141 : decode cX1_fetchM 141 = .ok (.invokevirtual 67, 3) := by decide +kernel
theorem dX1_fetchM_144 : decode cX1_fetchM 144 = .ok (.iconst 0, 1) := by decide +kernel
theorem dX1_fetchM_145 : decode cX1_fetchM 145 = .ok (.invokestatic 105, 3) := by decide +kernel
theorem dX1_fetchM_148 : decode cX1_fetchM 148 = .ok (.istore 5, 2) := by decide +kernel
theorem dX1_fetchM_150 : decode cX1_fetchM 150 = .ok (.goto 19, 3) := by decide +kernel
theorem dX1_fetchM_153 : decode cX1_fetchM 153 = .ok (.aload_n 0, 1) := by decide +kernel
theorem dX1_fetchM_154 : decode cX1_fetchM 154 = .ok (.getfield 15, 3) := by decide +kernel
theorem dX1_fetchM_157 : decode cX1_fetchM 157 = .ok (.iconst 2, 1) := by decide +kernel
theorem dX1_fetchM_158 : decode cX1_fetchM 158 = .ok (.if_icmp .ne 11, 3) := by decide +kernel
theorem dX1_fetchM_161 : decode cX1_fetchM 161 = .ok (.aload_n 0, 1) := by decide +kernel
theorem dX1_fetchM_162 : decode cX1_fetchM 162 = .ok (.aload_n 1, 1) := by decide +kernel
theorem dX1_fetchM_163 : decode cX1_fetchM 163 = .ok (.aload_n 2, 1) := by decide +kernel
theorem dX1_fetchM_164 : decode cX1_fetchM 164 = .ok (.invokevirtual 87, 3) := by decide +kernel
theorem dX1_fetchM_167 : decode cX1_fetchM 167 = .ok (.istore 5, 2) := by decide +kernel
theorem dX1_fetchM_169 : decode cX1_fetchM 169 = .ok (.aload_n 0, 1) := by decide +kernel
theorem dX1_fetchM_170 : decode cX1_fetchM 170 = .ok (.aload_n 0, 1) := by decide +kernel
theorem dX1_fetchM_171 : decode cX1_fetchM 171 = .ok (.aload_n 2, 1) := by decide +kernel
theorem dX1_fetchM_172 : decode cX1_fetchM 172 = .ok (.invokevirtual 111, 3) := by decide +kernel
theorem dX1_fetchM_175 : decode cX1_fetchM 175 = .ok (.iload 5, 2) := by decide +kernel
theorem dX1_fetchM_177 : decode cX1_fetchM 177 = .ok (.iadd, 1) := by decide +kernel
theorem dX1_fetchM_178 : decode cX1_fetchM 178 = .ok (.ldc 115, 2) := by decide +kernel
theorem dX1_fetchM_180 : decode cX1_fetchM 180 = .ok (.iand, 1) := by decide +kernel
theorem dX1_fetchM_181 : decode cX1_fetchM 181 = .ok (.putfield 102, 3) := by decide +kernel
theorem dX1_fetchM_184 : decode cX1_fetchM 184 = .ok (.return_, 1) := by decide +kernel
set_option maxRecDepth 20000 in
theorem ggX1_base_X4_word : GoodIn wsX1_base wsX4_word := goodIn_r _ [6, 7, 20, 21, 22] (by decide +kernel) (by decide +kernel)
set_option maxRecDepth 20000 in
theorem gX1_base_X4_word : GoodIn wsX1_base (wsV RX1 116 RX4 yX4_word wsX4_word) := goodIn_app (goodIn_of _ (by decide +kernel)) ggX1_base_X4_word
theorem dX1_base_0 : decode cX1_base 0 = .ok (.aload_n 0, 1) := by decide +kernel
theorem dX1_base_1 : decode cX1_base 1 = .ok (.getfield 93, 3) := by decide +kernel
theorem dX1_base_4 : decode cX1_base 4 = .ok (.tableswitch 116 0 6 #[44, 57, 70, 83, 96, 103, 110], 44) := by decide +kernel
theorem dX1_base_48 : decode cX1_base 48 = .ok (.aload_n 1, 1) := by decide +kernel
theorem dX1_base_49 : decode cX1_base 49 = .ok (.iconst 3, 1) := by decide +kernel
theorem dX1_base_50 : decode cX1_base 50 = .ok (.invokevirtual 116, 3) := by decide +kernel
theorem dX1_base_53 : decode cX1_base 53 = .ok (.aload_n 1, 1) := by decide +kernel
theorem dX1_base_54 : decode cX1_base 54 = .ok (.bipush 6, 2) := by decide +kernel
theorem dX1_base_56 : decode cX1_base 56 = .ok (.invokevirtual 116, 3) := by decide +kernel
theorem dX1_base_59 : decode cX1_base 59 = .ok (.iadd, 1) := by decide +kernel
theorem dX1_base_60 : decode cX1_base 60 = .ok (.ireturn, 1) := by decide +kernel
theorem dX1_base_61 : decode cX1_base 61 = .ok (.aload_n 1, 1) := by decide +kernel
theorem dX1_base_62 : decode cX1_base 62 = .ok (.iconst 3, 1) := by decide +kernel
theorem dX1_base_63 : decode cX1_base 63 = .ok (.invokevirtual 116, 3) := by decide +kernel
theorem dX1_base_66 : decode cX1_base 66 = .ok (.aload_n 1, 1) := by decide +kernel
theorem dX1_base_67 : decode cX1_base 67 = .ok (.bipush 7, 2) := by decide +kernel
theorem dX1_base_69 : decode cX1_base 69 = .ok (.invokevirtual 116, 3) := by decide +kernel
theorem dX1_base_72 : decode cX1_base 72 = .ok (.iadd, 1) := by decide +kernel
theorem dX1_base_73 : decode cX1_base 73 = .ok (.ireturn, 1) := by decide +kernel
theorem dX1_base_74 : decode cX1_base 74 = .ok (.aload_n 1, 1) := by decide +kernel
theorem dX1_base_75 : decode cX1_base 75 = .ok (.iconst 5, 1) := by decide +kernel
theorem dX1_base_76 : decode cX1_base 76 = .ok (.invokevirtual 116, 3) := by decide +kernel
theorem dX1_base_79 : decode cX1_base 79 = .ok (.aload_n 1, 1) := by decide +kernel
theorem dX1_base_80 : decode cX1_base 80 = .ok (.bipush 6, 2) := by decide +kernel
theorem dX1_base_82 : decode cX1_base 82 = .ok (.invokevirtual 116, 3) := by decide +kernel
theorem dX1_base_85 : decode cX1_base 85 = .ok (.iadd, 1) := by decide +kernel
theorem dX1_base_86 : decode cX1_base 86 = .ok (.ireturn, 1) := by decide +kernel
theorem dX1_base_87 : decode cX1_base 87 = .ok (.aload_n 1, 1) := by decide +kernel
theorem dX1_base_88 : decode cX1_base 88 = .ok (.iconst 5, 1) := by decide +kernel
theorem dX1_base_89 : decode cX1_base 89 = .ok (.invokevirtual 116, 3) := by decide +kernel
theorem dX1_base_92 : decode cX1_base 92 = .ok (.aload_n 1, 1) := by decide +kernel
theorem dX1_base_93 : decode cX1_base 93 = .ok (.bipush 7, 2) := by decide +kernel
theorem dX1_base_95 : decode cX1_base 95 = .ok (.invokevirtual 116, 3) := by decide +kernel
theorem dX1_base_98 : decode cX1_base 98 = .ok (.iadd, 1) := by decide +kernel
theorem dX1_base_99 : decode cX1_base 99 = .ok (.ireturn, 1) := by decide +kernel
theorem dX1_base_100 : decode cX1_base 100 = .ok (.aload_n 1, 1) := by decide +kernel
theorem dX1_base_101 : decode cX1_base 101 = .ok (.bipush 6, 2) := by decide +kernel
theorem dX1_base_103 : decode cX1_base 103 = .ok (.invokevirtual 116, 3) := by decide +kernel
theorem dX1_base_106 : decode cX1_base 106 = .ok (.ireturn, 1) := by decide +kernel
theorem dX1_base_107 : decode cX1_base 107 = .ok (.aload_n 1, 1) := by decide +kernel
theorem dX1_base_108 : decode cX1_base 108 = .ok (.bipush 7, 2) := by decide +kernel
theorem dX1_base_110 : decode cX1_base 110 = .ok (.invokevirtual 116, 3) := by decide +kernel
theorem dX1_base_113 : decode cX1_base 113 = .ok (.ireturn, 1) := by decide +kernel
theorem dX1_base_114 : decode cX1_base 114 = .ok (.aload_n 1, 1) := by decide +kernel
theorem dX1_base_115 : decode cX1_base 115 = .ok (.iconst 5, 1) := by decide +kernel
theorem dX1_base_116 : decode cX1_base 116 = .ok (.invokevirtual 116, 3) := by decide +kernel
theorem dX1_base_119 : decode cX1_base 119 = .ok (.ireturn, 1) := by decide +kernel
theorem dX1_base_120 : decode cX1_base 120 = .ok (.aload_n 1, 1) := by decide +kernel
theorem dX1_base_121 : decode cX1_base 121 = .ok (.iconst 3, 1) := by decide +kernel
theorem dX1_base_122 : decode cX1_base 122 = .ok (.invokevirtual 116, 3) := by decide +kernel
theorem dX1_base_125 : decode cX1_base 125 = .ok (.ireturn, 1) := by decide +kernel
set_option maxRecDepth 20000 in
theorem ggX1_isCode_X1_inRegister : GoodIn wsX1_isCode wsX1_inRegister := goodIn_r _ [7, 8, 9, 10, 11, 12, 13, 14, 15, 16, 17, 18, 19, 20] (by decide +kernel) (by decide +kernel)
set_option maxRecDepth 20000 in
theorem gX1_isCode_X1_inRegister : GoodIn wsX1_isCode (wsV RX1 119 RX1 yX1_inRegister wsX1_inRegister) := goodIn_app (goodIn_of _ (by decide +kernel)) ggX1_isCode_X1_inRegister
theorem dX1_isCode_0 : decode cX1_isCode 0 = .ok (.aload_n 0, 1) := by decide +kernel
theorem dX1_isCode_1 : decode cX1_isCode 1 = .ok (.getfield 9, 3) := by decide +kernel
theorem dX1_isCode_4 : decode cX1_isCode 4 = .ok (.lookupswitch 108 #[(141, 52), (196, 52), (197, 52), (254, 65), (255, 79)], 52) := by decide +kernel
theorem dX1_isCode_56 : decode cX1_isCode 56 = .ok (.aload_n 0, 1) := by decide +kernel
theorem dX1_isCode_57 : decode cX1_isCode 57 = .ok (.invokevirtual 119, 3) := by decide +kernel
theorem dX1_isCode_60 : decode cX1_isCode 60 = .ok (.ifCond .ne 7, 3) := by decide +kernel
theorem dX1_isCode_63 : decode cX1_isCode 63 = .ok (.iconst 1, 1) := by decide +kernel
theorem dX1_isCode_64 : decode cX1_isCode 64 = .ok (.goto 4, 3) := by decide +kernel
theorem dX1_isCode_67 : decode cX1_isCode 67 = .ok (.iconst 0, 1) := by decide +kernel
theorem dX1_isCode_68 : decode cX1_isCode 68 = .ok (.ireturn, 1) := by decide +kernel
theorem dX1_isCode_69 : decode cX1_isCode 69 = .ok (.aload_n 0, 1) := by decide +kernel
theorem dX1_isCode_70 : decode cX1_isCode 70 = .ok (.getfield 81, 3) := by decide +kernel
theorem dX1_isCode_73 : decode cX1_isCode 73 = .ok (.iconst 2, 1) := by decide +kernel
theorem dX1_isCode_74 : decode cX1_isCode 74 = .ok (.if_icmp .ge 7, 3) := by decide +kernel
theorem dX1_isCode_77 : decode cX1_isCode 77 = .ok (.iconst 1, 1) := by decide +kernel
theorem dX1_isCode_78 : decode cX1_isCode 78 = .ok (.goto 4, 3) := by decide +kernel
theorem dX1_isCode_81 : decode cX1_isCode 81 = .ok (.iconst 0, 1) := by decide +kernel
theorem dX1_isCode_82 : decode cX1_isCode 82 = .ok (.ireturn, 1) := by decide +kernel
theorem dX1_isCode_83 : decode cX1_isCode 83 = .ok (.aload_n 0, 1) := by decide +kernel
theorem dX1_isCode_84 : decode cX1_isCode 84 = .ok (.invokevirtual 119, 3) := by decide +kernel
theorem dX1_isCode_87 : decode cX1_isCode 87 = .ok (.ifCond .eq 19, 3) := by decide +kernel
theorem dX1_isCode_90 : decode cX1_isCode 90 = .ok (.aload_n 0, 1) := by decide +kernel
theorem dX1_isCode_91 : decode cX1_isCode 91 = .ok (.getfield 81, 3) := by decide +kernel
theorem dX1_isCode_94 : decode cX1_isCode 94 = .ok (.iconst 3, 1) := by decide +kernel
theorem dX1_isCode_95 : decode cX1_isCode 95 = .ok (.if_icmp .eq 15, 3) := by decide +kernel
theorem dX1_isCode_98 : decode cX1_isCode 98 = .ok (.aload_n 0, 1) := by decide +kernel
theorem dX1_isCode_99 : decode cX1_isCode 99 = .ok (.getfield 81, 3) := by decide +kernel
theorem dX1_isCode_102 : decode cX1_isCode 102 = .ok (.iconst 5, 1) := by decide +kernel
theorem dX1_isCode_103 : decode cX1_isCode 103 = .ok (.if_icmp .eq 7, 3) := by decide +kernel
theorem dX1_isCode_106 : decode cX1_isCode 106 = .ok (.iconst 1, 1) := by decide +kernel
theorem dX1_isCode_107 : decode cX1_isCode 107 = .ok (.goto 4, 3) := by decide +kernel
theorem dX1_isCode_110 : decode cX1_isCode 110 = .ok (.iconst 0, 1) := by decide +kernel
theorem dX1_isCode_111 : decode cX1_isCode 111 = .ok (.ireturn, 1) := by decide +kernel
theorem dX1_isCode_112 : decode cX1_isCode 112 = .ok (.iconst 1, 1) := by decide +kernel
theorem dX1_isCode_113 : decode cX1_isCode 113 = .ok (.ireturn, 1) := by decide +kernel
theorem dX2_init_0 : decode cX2_init 0 = .ok (.aload_n 0, 1) := by decide +kernel
theorem dX2_init_1 : decode cX2_init 1 = .ok (.invokespecial 1, 3) := by decide +kernel
theorem dX2_init_4 : decode cX2_init 4 = .ok (.aload_n 0, 1) := by decide +kernel
theorem dX2_init_5 : decode cX2_init 5 = .ok (.ldc 9, 2) := by decide +kernel
theorem dX2_init_7 : decode cX2_init 7 = .ok (.newarray .byte, 2) := by decide +kernel
theorem dX2_init_9 : decode cX2_init 9 = .ok (.putfield 10, 3) := by decide +kernel
theorem dX2_init_12 : decode cX2_init 12 = .ok (.aload_n 0, 1) := by decide +kernel
theorem dX2_init_13 : decode cX2_init 13 = .ok (.sipush 4096, 3) := by decide +kernel
theorem dX2_init_16 : decode cX2_init 16 = .ok (.newarray .int, 2) := by decide +kernel
theorem dX2_init_18 : decode cX2_init 18 = .ok (.putfield 14, 3) := by decide +kernel
theorem dX2_init_21 : decode cX2_init 21 = .ok (.return_, 1) := by decide +kernel
theorem dX2_place_0 : decode cX2_place 0 = .ok (.iload_n 0, 1) := by decide +kernel
theorem dX2_place_1 : decode cX2_place 1 = .ok (.iconst 4, 1) := by decide +kernel
theorem dX2_place_2 : decode cX2_place 2 = .ok (.ishl, 1) := by decide +kernel
theorem dX2_place_3 : decode cX2_place 3 = .ok (.iload_n 1, 1) := by decide +kernel
theorem dX2_place_4 : decode cX2_place 4 = .ok (.ldc 18, 2) := by decide +kernel
theorem dX2_place_6 : decode cX2_place 6 = .ok (.iand, 1) := by decide +kernel
theorem dX2_place_7 : decode cX2_place 7 = .ok (.iadd, 1) := by decide +kernel
theorem dX2_place_8 : decode cX2_place 8 = .ok (.ldc 19, 2) := by decide +kernel
theorem dX2_place_10 : decode cX2_place 10 = .ok (.iand, 1) := by decide +kernel
theorem dX2_place_11 : decode cX2_place 11 = .ok (.ireturn, 1) := by decide +kernel
theorem dX2_at_0 : decode cX2_at 0 = .ok (.aload_n 0, 1) := by decide +kernel
theorem dX2_at_1 : decode cX2_at 1 = .ok (.getfield 14, 3) := by decide +kernel
theorem dX2_at_4 : decode cX2_at 4 = .ok (.iload_n 1, 1) := by decide +kernel
theorem dX2_at_5 : decode cX2_at 5 = .ok (.bipush 8, 2) := by decide +kernel
theorem dX2_at_7 : decode cX2_at 7 = .ok (.ishr, 1) := by decide +kernel
theorem dX2_at_8 : decode cX2_at 8 = .ok (.sipush 4095, 3) := by decide +kernel
theorem dX2_at_11 : decode cX2_at 11 = .ok (.iand, 1) := by decide +kernel
theorem dX2_at_12 : decode cX2_at 12 = .ok (.iaload, 1) := by decide +kernel
theorem dX2_at_13 : decode cX2_at 13 = .ok (.istore_n 2, 1) := by decide +kernel
theorem dX2_at_14 : decode cX2_at 14 = .ok (.iload_n 2, 1) := by decide +kernel
theorem dX2_at_15 : decode cX2_at 15 = .ok (.ifCond .ne 7, 3) := by decide +kernel
theorem dX2_at_18 : decode cX2_at 18 = .ok (.iconst 0, 1) := by decide +kernel
theorem dX2_at_19 : decode cX2_at 19 = .ok (.goto 27, 3) := by decide +kernel
theorem dX2_at_22 : decode cX2_at 22 = .ok (.aload_n 0, 1) := by decide +kernel
theorem dX2_at_23 : decode cX2_at 23 = .ok (.getfield 10, 3) := by decide +kernel
theorem dX2_at_26 : decode cX2_at 26 = .ok (.iload_n 2, 1) := by decide +kernel
theorem dX2_at_27 : decode cX2_at 27 = .ok (.iconst 1, 1) := by decide +kernel
theorem dX2_at_28 : decode cX2_at 28 = .ok (.isub, 1) := by decide +kernel
theorem dX2_at_29 : decode cX2_at 29 = .ok (.bipush 8, 2) := by decide +kernel
theorem dX2_at_31 : decode cX2_at 31 = .ok (.ishl, 1) := by decide +kernel
theorem dX2_at_32 : decode cX2_at 32 = .ok (.iload_n 1, 1) := by decide +kernel
theorem dX2_at_33 : decode cX2_at 33 = .ok (.sipush 255, 3) := by decide +kernel
theorem dX2_at_36 : decode cX2_at 36 = .ok (.iand, 1) := by decide +kernel
theorem dX2_at_37 : decode cX2_at 37 = .ok (.ior, 1) := by decide +kernel
theorem dX2_at_38 : decode cX2_at 38 = .ok (.ldc 18, 2) := by decide +kernel
theorem dX2_at_40 : decode cX2_at 40 = .ok (.iand, 1) := by decide +kernel
theorem dX2_at_41 : decode cX2_at 41 = .ok (.baload, 1) := by decide +kernel
theorem dX2_at_42 : decode cX2_at 42 = .ok (.sipush 255, 3) := by decide +kernel
theorem dX2_at_45 : decode cX2_at 45 = .ok (.iand, 1) := by decide +kernel
theorem dX2_at_46 : decode cX2_at 46 = .ok (.ireturn, 1) := by decide +kernel
theorem dX2_put_0 : decode cX2_put 0 = .ok (.iload_n 1, 1) := by decide +kernel
theorem dX2_put_1 : decode cX2_put 1 = .ok (.bipush 8, 2) := by decide +kernel
theorem dX2_put_3 : decode cX2_put 3 = .ok (.ishr, 1) := by decide +kernel
theorem dX2_put_4 : decode cX2_put 4 = .ok (.sipush 4095, 3) := by decide +kernel
theorem dX2_put_7 : decode cX2_put 7 = .ok (.iand, 1) := by decide +kernel
theorem dX2_put_8 : decode cX2_put 8 = .ok (.istore_n 3, 1) := by decide +kernel
theorem dX2_put_9 : decode cX2_put 9 = .ok (.aload_n 0, 1) := by decide +kernel
theorem dX2_put_10 : decode cX2_put 10 = .ok (.getfield 14, 3) := by decide +kernel
theorem dX2_put_13 : decode cX2_put 13 = .ok (.iload_n 3, 1) := by decide +kernel
theorem dX2_put_14 : decode cX2_put 14 = .ok (.iaload, 1) := by decide +kernel
theorem dX2_put_15 : decode cX2_put 15 = .ok (.ifCond .ne 44, 3) := by decide +kernel
theorem dX2_put_18 : decode cX2_put 18 = .ok (.aload_n 0, 1) := by decide +kernel
theorem dX2_put_19 : decode cX2_put 19 = .ok (.getfield 20, 3) := by decide +kernel
theorem dX2_put_22 : decode cX2_put 22 = .ok (.sipush 256, 3) := by decide +kernel
theorem dX2_put_25 : decode cX2_put 25 = .ok (.if_icmp .ne 14, 3) := by decide +kernel
theorem dX2_put_28 : decode cX2_put 28 = .ok (.aload_n 0, 1) := by decide +kernel
theorem dX2_put_29 : decode cX2_put 29 = .ok (.dup, 1) := by decide +kernel
theorem dX2_put_30 : decode cX2_put 30 = .ok (.getfield 24, 3) := by decide +kernel
theorem dX2_put_33 : decode cX2_put 33 = .ok (.iconst 1, 1) := by decide +kernel
theorem dX2_put_34 : decode cX2_put 34 = .ok (.iadd, 1) := by decide +kernel
theorem dX2_put_35 : decode cX2_put 35 = .ok (.putfield 24, 3) := by decide +kernel
theorem dX2_put_38 : decode cX2_put 38 = .ok (.return_, 1) := by decide +kernel
theorem dX2_put_39 : decode cX2_put 39 = .ok (.aload_n 0, 1) := by decide +kernel
theorem dX2_put_40 : decode cX2_put 40 = .ok (.dup, 1) := by decide +kernel
theorem dX2_put_41 : decode cX2_put 41 = .ok (.getfield 20, 3) := by decide +kernel
theorem dX2_put_44 : decode cX2_put 44 = .ok (.iconst 1, 1) := by decide +kernel
theorem dX2_put_45 : decode cX2_put 45 = .ok (.iadd, 1) := by decide +kernel
theorem dX2_put_46 : decode cX2_put 46 = .ok (.putfield 20, 3) := by decide +kernel
theorem dX2_put_49 : decode cX2_put 49 = .ok (.aload_n 0, 1) := by decide +kernel
theorem dX2_put_50 : decode cX2_put 50 = .ok (.getfield 14, 3) := by decide +kernel
theorem dX2_put_53 : decode cX2_put 53 = .ok (.iload_n 3, 1) := by decide +kernel
theorem dX2_put_54 : decode cX2_put 54 = .ok (.aload_n 0, 1) := by decide +kernel
theorem dX2_put_55 : decode cX2_put 55 = .ok (.getfield 20, 3) := by decide +kernel
theorem dX2_put_58 : decode cX2_put 58 = .ok (.iastore, 1) := by decide +kernel
theorem dX2_put_59 : decode cX2_put 59 = .ok (.aload_n 0, 1) := by decide +kernel
theorem dX2_put_60 : decode cX2_put 60 = .ok (.getfield 10, 3) := by decide +kernel
theorem dX2_put_63 : decode cX2_put 63 = .ok (.aload_n 0, 1) := by decide +kernel
theorem dX2_put_64 : decode cX2_put 64 = .ok (.getfield 14, 3) := by decide +kernel
theorem dX2_put_67 : decode cX2_put 67 = .ok (.iload_n 3, 1) := by decide +kernel
theorem dX2_put_68 : decode cX2_put 68 = .ok (.iaload, 1) := by decide +kernel
theorem dX2_put_69 : decode cX2_put 69 = .ok (.iconst 1, 1) := by decide +kernel
theorem dX2_put_70 : decode cX2_put 70 = .ok (.isub, 1) := by decide +kernel
theorem dX2_put_71 : decode cX2_put 71 = .ok (.bipush 8, 2) := by decide +kernel
theorem dX2_put_73 : decode cX2_put 73 = .ok (.ishl, 1) := by decide +kernel
theorem dX2_put_74 : decode cX2_put 74 = .ok (.iload_n 1, 1) := by decide +kernel
theorem dX2_put_75 : decode cX2_put 75 = .ok (.sipush 255, 3) := by decide +kernel
theorem dX2_put_78 : decode cX2_put 78 = .ok (.iand, 1) := by decide +kernel
theorem dX2_put_79 : decode cX2_put 79 = .ok (.ior, 1) := by decide +kernel
theorem dX2_put_80 : decode cX2_put 80 = .ok (.ldc 18, 2) := by decide +kernel
theorem dX2_put_82 : decode cX2_put 82 = .ok (.iand, 1) := by decide +kernel
theorem dX2_put_83 : decode cX2_put 83 = .ok (.iload_n 2, 1) := by decide +kernel
theorem dX2_put_84 : decode cX2_put 84 = .ok (.i2b, 1) := by decide +kernel
theorem dX2_put_85 : decode cX2_put 85 = .ok (.bastore, 1) := by decide +kernel
theorem dX2_put_86 : decode cX2_put 86 = .ok (.return_, 1) := by decide +kernel
set_option maxRecDepth 20000 in
theorem ggX2_load_X2_place : GoodIn wsX2_load wsX2_place := goodIn_r _ [4, 5, 6] (by decide +kernel) (by decide +kernel)
set_option maxRecDepth 20000 in
theorem gX2_load_X2_place : GoodIn wsX2_load (va_wsS RX2 27 yX2_place wsX2_place) := goodIn_app (goodIn_of _ (by decide +kernel)) ggX2_load_X2_place
set_option maxRecDepth 20000 in
theorem ggX2_load_X2_at : GoodIn wsX2_load wsX2_at := goodIn_r _ [10, 11, 12, 5, 13, 14, 15, 16] (by decide +kernel) (by decide +kernel)
set_option maxRecDepth 20000 in
theorem gX2_load_X2_at : GoodIn wsX2_load (wsV RX2 31 RX2 yX2_at wsX2_at) := goodIn_app (goodIn_of _ (by decide +kernel)) ggX2_load_X2_at
theorem dX2_load_0 : decode cX2_load 0 = .ok (.aload_n 0, 1) := by decide +kernel
theorem dX2_load_1 : decode cX2_load 1 = .ok (.iload_n 1, 1) := by decide +kernel
theorem dX2_load_2 : decode cX2_load 2 = .ok (.iload_n 2, 1) := by decide +kernel
theorem dX2_load_3 : decode cX2_load 3 = .ok (.invokestatic 27, 3) := by decide +kernel
theorem dX2_load_6 : decode cX2_load 6 = .ok (.invokevirtual 31, 3) := by decide +kernel
theorem dX2_load_9 : decode cX2_load 9 = .ok (.istore 4, 2) := by decide +kernel
theorem dX2_load_11 : decode cX2_load 11 = .ok (.iload_n 3, 1) := by decide +kernel
theorem dX2_load_12 : decode cX2_load 12 = .ok (.ifCond .eq 23, 3) := by decide +kernel
theorem dX2_load_15 : decode cX2_load 15 = .ok (.iload 4, 2) := by decide +kernel
theorem dX2_load_17 : decode cX2_load 17 = .ok (.aload_n 0, 1) := by decide +kernel
theorem dX2_load_18 : decode cX2_load 18 = .ok (.iload_n 1, 1) := by decide +kernel
theorem dX2_load_19 : decode cX2_load 19 = .ok (.iload_n 2, 1) := by decide +kernel
theorem dX2_load_20 : decode cX2_load 20 = .ok (.iconst 1, 1) := by decide +kernel
theorem dX2_load_21 : decode cX2_load 21 = .ok (.iadd, 1) := by decide +kernel
theorem dX2_load_22 : decode cX2_load 22 = .ok (.invokestatic 27, 3) := by decide +kernel
theorem dX2_load_25 : decode cX2_load 25 = .ok (.invokevirtual 31, 3) := by decide +kernel
theorem dX2_load_28 : decode cX2_load 28 = .ok (.bipush 8, 2) := by decide +kernel
theorem dX2_load_30 : decode cX2_load 30 = .ok (.ishl, 1) := by decide +kernel
theorem dX2_load_31 : decode cX2_load 31 = .ok (.ior, 1) := by decide +kernel
theorem dX2_load_32 : decode cX2_load 32 = .ok (.goto 5, 3) := by decide +kernel
theorem dX2_load_35 : decode cX2_load 35 = .ok (.iload 4, 2) := by decide +kernel
theorem dX2_load_37 : decode cX2_load 37 = .ok (.ireturn, 1) := by decide +kernel
set_option maxRecDepth 20000 in
theorem ggX2_store_X2_place : GoodIn wsX2_store wsX2_place := goodIn_r _ [4, 5, 6] (by decide +kernel) (by decide +kernel)
set_option maxRecDepth 20000 in
theorem gX2_store_X2_place : GoodIn wsX2_store (va_wsS RX2 27 yX2_place wsX2_place) := goodIn_app (goodIn_of _ (by decide +kernel)) ggX2_store_X2_place
set_option maxRecDepth 20000 in
theorem ggX2_store_X2_put : GoodIn wsX2_store wsX2_put := goodIn_r _ [10, 11, 12, 13, 14, 5, 15, 16, 17, 18] (by decide +kernel) (by decide +kernel)
set_option maxRecDepth 20000 in
theorem gX2_store_X2_put : GoodIn wsX2_store (wsV RX2 35 RX2 yX2_put wsX2_put) := goodIn_app (goodIn_of _ (by decide +kernel)) ggX2_store_X2_put
theorem dX2_store_0 : decode cX2_store 0 = .ok (.aload_n 0, 1) := by decide +kernel
theorem dX2_store_1 : decode cX2_store 1 = .ok (.iload_n 1, 1) := by decide +kernel
theorem dX2_store_2 : decode cX2_store 2 = .ok (.iload_n 2, 1) := by decide +kernel
theorem dX2_store_3 : decode cX2_store 3 = .ok (.invokestatic 27, 3) := by decide +kernel
theorem dX2_store_6 : decode cX2_store 6 = .ok (.iload_n 3, 1) := by decide +kernel
theorem dX2_store_7 : decode cX2_store 7 = .ok (.invokevirtual 35, 3) := by decide +kernel
theorem dX2_store_10 : decode cX2_store 10 = .ok (.iload 4, 2) := by decide +kernel
theorem dX2_store_12 : decode cX2_store 12 = .ok (.ifCond .eq 18, 3) := by decide +kernel
theorem dX2_store_15 : decode cX2_store 15 = .ok (.aload_n 0, 1) := by decide +kernel
theorem dX2_store_16 : decode cX2_store 16 = .ok (.iload_n 1, 1) := by decide +kernel
theorem dX2_store_17 : decode cX2_store 17 = .ok (.iload_n 2, 1) := by decide +kernel
theorem dX2_store_18 : decode cX2_store 18 = .ok (.iconst 1, 1) := by decide +kernel
theorem dX2_store_19 : decode cX2_store 19 = .ok (.iadd, 1) := by decide +kernel
theorem dX2_store_20 : decode cX2_store 20 = .ok (.invokestatic 27, 3) := by decide +kernel
theorem dX2_store_23 : decode cX2_store 23 = .ok (.iload_n 3, 1) := by decide +kernel
theorem dX2_store_24 : decode cX2_store 24 = .ok (.bipush 8, 2) := by decide +kernel
theorem dX2_store_26 : decode cX2_store 26 = .ok (.ishr, 1) := by decide +kernel
theorem dX2_store_27 : decode cX2_store 27 = .ok (.invokevirtual 35, 3) := by decide +kernel
theorem dX2_store_30 : decode cX2_store 30 = .ok (.return_, 1) := by decide +kernel
set_option maxRecDepth 20000 in
theorem ggX3_init_X2_init : GoodIn wsX3_init wsX2_init := goodIn_r _ [24, 25, 2, 3, 26, 20, 27, 28, 29, 41, 42, 43, 44] (by decide +kernel) (by decide +kernel)
set_option maxRecDepth 20000 in
theorem gX3_init_X2_init_n11 : GoodIn wsX3_init (wsX2_init) := ggX3_init_X2_init
set_option maxRecDepth 20000 in
theorem ggX3_init_X4_init : GoodIn wsX3_init wsX4_init := goodIn_r _ [31, 32, 2, 3, 28, 33, 34, 53, 54, 55] (by decide +kernel) (by decide +kernel)
set_option maxRecDepth 20000 in
theorem gX3_init_X4_init_n20 : GoodIn wsX3_init (wsX4_init) := ggX3_init_X4_init
set_option maxRecDepth 20000 in
theorem ggX3_init_X0_init : GoodIn wsX3_init wsX0_init := goodIn_r _ [36, 37, 2, 3] (by decide +kernel) (by decide +kernel)
set_option maxRecDepth 20000 in
theorem gX3_init_X0_init_n27 : GoodIn wsX3_init (wsX0_init) := ggX3_init_X0_init
set_option maxRecDepth 20000 in
theorem ggX3_init_X1_init : GoodIn wsX3_init wsX1_init := goodIn_r _ [39, 40, 2, 3] (by decide +kernel) (by decide +kernel)
set_option maxRecDepth 20000 in
theorem gX3_init_X1_init_n34 : GoodIn wsX3_init (wsX1_init) := ggX3_init_X1_init
theorem dX3_init_0 : decode cX3_init 0 = .ok (.aload_n 0, 1) := by decide +kernel
theorem dX3_init_1 : decode cX3_init 1 = .ok (.invokespecial 3, 3) := by decide +kernel
theorem dX3_init_4 : decode cX3_init 4 = .ok (.aload_n 0, 1) := by decide +kernel
theorem dX3_init_5 : decode cX3_init 5 = .ok (.new 9, 3) := by decide +kernel
theorem dX3_init_8 : decode cX3_init 8 = .ok (.dup, 1) := by decide +kernel
theorem dX3_init_9 : decode cX3_init 9 = .ok (.invokespecial 11, 3) := by decide +kernel
theorem dX3_init_12 : decode cX3_init 12 = .ok (.putfield 12, 3) := by decide +kernel
theorem dX3_init_15 : decode cX3_init 15 = .ok (.aload_n 0, 1) := by decide +kernel
theorem dX3_init_16 : decode cX3_init 16 = .ok (.new 18, 3) := by decide +kernel
theorem dX3_init_19 : decode cX3_init 19 = .ok (.dup, 1) := by decide +kernel
theorem dX3_init_20 : decode cX3_init 20 = .ok (.invokespecial 20, 3) := by decide +kernel
theorem dX3_init_23 : decode cX3_init 23 = .ok (.putfield 21, 3) := by decide +kernel
theorem dX3_init_26 : decode cX3_init 26 = .ok (.aload_n 0, 1) := by decide +kernel
theorem dX3_init_27 : decode cX3_init 27 = .ok (.new 25, 3) := by decide +kernel
theorem dX3_init_30 : decode cX3_init 30 = .ok (.dup, 1) := by decide +kernel
theorem dX3_init_31 : decode cX3_init 31 = .ok (.invokespecial 27, 3) := by decide +kernel
theorem dX3_init_34 : decode cX3_init 34 = .ok (.putfield 28, 3) := by decide +kernel
theorem dX3_init_37 : decode cX3_init 37 = .ok (.aload_n 0, 1) := by decide +kernel
theorem dX3_init_38 : decode cX3_init 38 = .ok (.new 32, 3) := by decide +kernel
theorem dX3_init_41 : decode cX3_init 41 = .ok (.dup, 1) := by decide +kernel
theorem dX3_init_42 : decode cX3_init 42 = .ok (.invokespecial 34, 3) := by decide +kernel
theorem dX3_init_45 : decode cX3_init 45 = .ok (.putfield 35, 3) := by decide +kernel
theorem dX3_init_48 : decode cX3_init 48 = .ok (.aload_n 0, 1) := by decide +kernel
theorem dX3_init_49 : decode cX3_init 49 = .ok (.sipush 256, 3) := by decide +kernel
theorem dX3_init_52 : decode cX3_init 52 = .ok (.newarray .byte, 2) := by decide +kernel
theorem dX3_init_54 : decode cX3_init 54 = .ok (.putfield 39, 3) := by decide +kernel
theorem dX3_init_57 : decode cX3_init 57 = .ok (.aload_n 0, 1) := by decide +kernel
theorem dX3_init_58 : decode cX3_init 58 = .ok (.iconst (-1), 1) := by decide +kernel
theorem dX3_init_59 : decode cX3_init 59 = .ok (.putfield 43, 3) := by decide +kernel
theorem dX3_init_62 : decode cX3_init 62 = .ok (.return_, 1) := by decide +kernel
theorem dX3_portByte_0 : decode cX3_portByte 0 = .ok (.aload_n 0, 1) := by decide +kernel
theorem dX3_portByte_1 : decode cX3_portByte 1 = .ok (.getfield 39, 3) := by decide +kernel
theorem dX3_portByte_4 : decode cX3_portByte 4 = .ok (.iload_n 1, 1) := by decide +kernel
theorem dX3_portByte_5 : decode cX3_portByte 5 = .ok (.sipush 255, 3) := by decide +kernel
theorem dX3_portByte_8 : decode cX3_portByte 8 = .ok (.iand, 1) := by decide +kernel
theorem dX3_portByte_9 : decode cX3_portByte 9 = .ok (.baload, 1) := by decide +kernel
theorem dX3_portByte_10 : decode cX3_portByte 10 = .ok (.sipush 255, 3) := by decide +kernel
theorem dX3_portByte_13 : decode cX3_portByte 13 = .ok (.iand, 1) := by decide +kernel
theorem dX3_portByte_14 : decode cX3_portByte 14 = .ok (.ireturn, 1) := by decide +kernel
theorem dX3_givePort_0 : decode cX3_givePort 0 = .ok (.aload_n 0, 1) := by decide +kernel
theorem dX3_givePort_1 : decode cX3_givePort 1 = .ok (.getfield 39, 3) := by decide +kernel
theorem dX3_givePort_4 : decode cX3_givePort 4 = .ok (.iload_n 1, 1) := by decide +kernel
theorem dX3_givePort_5 : decode cX3_givePort 5 = .ok (.sipush 255, 3) := by decide +kernel
theorem dX3_givePort_8 : decode cX3_givePort 8 = .ok (.iand, 1) := by decide +kernel
theorem dX3_givePort_9 : decode cX3_givePort 9 = .ok (.iload_n 2, 1) := by decide +kernel
theorem dX3_givePort_10 : decode cX3_givePort 10 = .ok (.i2b, 1) := by decide +kernel
theorem dX3_givePort_11 : decode cX3_givePort 11 = .ok (.bastore, 1) := by decide +kernel
theorem dX3_givePort_12 : decode cX3_givePort 12 = .ok (.return_, 1) := by decide +kernel
set_option maxRecDepth 20000 in
theorem ggX3_execute_X3_operationCodes : GoodIn wsX3_execute wsX3_operationCodes := goodIn_r _ [11, 2, 3, 5, 12, 4, 6, 13, 14, 15, 16, 17, 18, 19, 20, 21, 22, 23, 24, 25, 26, 27, 10, 28, 29, 30, 31, 32, 33, 34, 35, 36, 37, 38, 39, 40, 41, 42, 43, 44, 45, 46, 47, 48, 49, 50, 51, 52, 53, 54, 55, 56, 57, 58, 59, 60, 61, 62, 63, 64, 65, 66, 67, 68, 69, 70, 71, 72, 73, 74, 75, 76, 77, 78, 79, 80, 81, 82, 83, 84, 85, 86, 87, 88, 89, 90, 91, 92, 93, 94, 95, 96, 97, 98, 99, 100, 101, 102, 103, 104, 105, 106, 107, 108, 109, 110, 111, 112, 113, 114, 115, 116, 117, 118, 119, 120, 121, 122, 123, 124, 125, 126, 127, 128, 129, 130, 131, 132, 133, 134, 135, 136, 137, 138, 139, 140, 141, 142, 143, 144, 145, 146, 147, 148, 149, 150, 151, 152, 153, 154, 155, 156, 157, 158, 159, 160, 161, 162, 163, 164, 165, 166, 167, 168, 169, 170, 171, 172, 173, 174, 175, 176, 177, 178, 179, 180, 181, 182, 183, 408, 409, 410, 411, 412, 413, 414, 415, 416, 417, 418, 419, 420, 421, 422, 423, 424, 425, 426, 427, 428, 429, 430, 431, 432, 433, 434, 435] (by decide +kernel) (by decide +kernel)
set_option maxRecDepth 20000 in
theorem gX3_execute_X3_operationCodes : GoodIn wsX3_execute (wsV RX3 50 RX3 yX3_operationCodes wsX3_operationCodes) := goodIn_app (goodIn_of _ (by decide +kernel)) ggX3_execute_X3_operationCodes
set_option maxRecDepth 20000 in
theorem ggX3_execute_X3_stepWordRegister : GoodIn wsX3_execute wsX3_stepWordRegister := goodIn_r _ [187, 4, 5, 2, 3, 143, 144, 145, 22, 146, 24, 188, 189, 190, 61, 191, 63, 102, 103, 104, 105, 68, 69, 70, 71, 72, 73, 74, 75, 76, 77, 78, 79, 80, 81, 82, 83, 84, 85, 86, 87, 88, 89, 90, 91, 92, 93, 94, 95, 96, 97, 64, 65, 66, 67, 147, 148, 149, 150, 114, 408, 409, 410, 411, 412, 413, 414, 415, 416, 417, 418, 419, 420, 421, 422, 423, 424, 425, 426, 427, 428, 429, 430, 435] (by decide +kernel) (by decide +kernel)
set_option maxRecDepth 20000 in
theorem gX3_execute_X3_stepWordRegister : GoodIn wsX3_execute (wsV RX3 53 RX3 yX3_stepWordRegister wsX3_stepWordRegister) := goodIn_app (goodIn_of _ (by decide +kernel)) ggX3_execute_X3_stepWordRegister
set_option maxRecDepth 20000 in
theorem ggX3_execute_X3_registerStackCodes : GoodIn wsX3_execute wsX3_registerStackCodes := goodIn_r _ [195, 2, 3, 5, 196, 197, 198, 10, 199, 143, 144, 145, 22, 146, 24, 139, 140, 141, 142, 34, 147, 148, 149, 150, 114, 134, 135, 136, 137, 138, 116, 117, 118, 45, 119, 47, 48, 49, 50, 51, 120, 121, 122, 123, 56, 124, 125, 57, 151, 152, 153, 154, 42, 43, 44, 46, 52, 53, 54, 55, 408, 409, 410, 411, 412, 413, 414, 415, 416, 417, 418, 419, 420, 421, 422, 423, 424, 425, 426, 427, 428, 429, 430, 431, 432, 433, 434] (by decide +kernel) (by decide +kernel)
set_option maxRecDepth 20000 in
theorem gX3_execute_X3_registerStackCodes : GoodIn wsX3_execute (wsV RX3 56 RX3 yX3_registerStackCodes wsX3_registerStackCodes) := goodIn_app (goodIn_of _ (by decide +kernel)) ggX3_execute_X3_registerStackCodes
set_option maxRecDepth 20000 in
theorem ggX3_execute_X0_holds : GoodIn wsX3_execute wsX0_holds := goodIn_r _ [203, 204, 205, 206, 61, 207, 168, 169, 170, 171, 63, 435] (by decide +kernel) (by decide +kernel)
set_option maxRecDepth 20000 in
theorem gX3_execute_X0_holds : GoodIn wsX3_execute (wsV RX3 59 RX0 yX0_holds wsX0_holds) := goodIn_app (goodIn_of _ (by decide +kernel)) ggX3_execute_X0_holds
set_option maxRecDepth 20000 in
theorem ggX3_execute_X3_jumpIf : GoodIn wsX3_execute wsX3_jumpIf := goodIn_r _ [211, 2, 6, 212, 69, 61, 70, 213, 214, 215, 10, 216, 5, 217, 218, 219, 220, 22, 221, 114, 222, 408, 409, 410, 411, 412, 413, 414, 415, 416, 417, 418, 419, 420, 421, 422, 423, 424, 425, 426, 427, 428, 429, 430] (by decide +kernel) (by decide +kernel)
set_option maxRecDepth 20000 in
theorem gX3_execute_X3_jumpIf : GoodIn wsX3_execute (wsV RX3 63 RX3 yX3_jumpIf wsX3_jumpIf) := goodIn_app (goodIn_of _ (by decide +kernel)) ggX3_execute_X3_jumpIf
set_option maxRecDepth 20000 in
theorem ggX3_execute_X3_operandCodes : GoodIn wsX3_execute wsX3_operandCodes := goodIn_r _ [226, 2, 3, 12, 6, 227, 5, 36, 13, 14, 15, 16, 17, 18, 25, 26, 27, 10, 28, 4, 29, 30, 31, 32, 33, 34, 35, 37, 38, 39, 40, 41, 19, 20, 21, 22, 23, 24, 42, 43, 44, 45, 46, 47, 48, 49, 50, 51, 52, 53, 54, 55, 56, 57, 58, 59, 60, 61, 62, 63, 64, 65, 66, 67, 68, 69, 70, 71, 72, 73, 74, 75, 76, 77, 78, 79, 80, 81, 82, 83, 84, 85, 86, 87, 88, 89, 90, 91, 92, 93, 94, 95, 96, 97, 98, 99, 100, 101, 102, 103, 104, 105, 106, 107, 108, 109, 110, 111, 112, 113, 114, 115, 116, 117, 118, 119, 120, 121, 122, 123, 124, 125, 212, 228, 229, 230, 231, 134, 135, 136, 137, 138, 147, 148, 149, 150, 155, 156, 157, 158, 151, 152, 153, 154, 143, 144, 145, 146, 408, 409, 410, 411, 412, 413, 414, 415, 416, 417, 418, 419, 420, 421, 422, 423, 424, 425, 426, 427, 428, 429, 430, 431, 432, 433, 434, 435] (by decide +kernel) (by decide +kernel)
set_option maxRecDepth 20000 in
theorem gX3_execute_X3_operandCodes : GoodIn wsX3_execute (wsV RX3 67 RX3 yX3_operandCodes wsX3_operandCodes) := goodIn_app (goodIn_of _ (by decide +kernel)) ggX3_execute_X3_operandCodes
set_option maxRecDepth 20000 in
theorem ggX3_execute_X3_exchangeAndFlagCodes : GoodIn wsX3_execute wsX3_exchangeAndFlagCodes := goodIn_r _ [235, 2, 3, 5, 6, 236, 4, 237, 238, 126, 127, 128, 10, 129, 19, 20, 21, 22, 23, 24, 212, 69, 61, 70, 130, 131, 132, 133, 110, 111, 112, 113, 114, 115, 147, 148, 149, 150, 239, 240, 241, 242, 217, 134, 135, 136, 137, 138, 139, 140, 141, 142, 34, 143, 144, 145, 146, 116, 117, 118, 45, 119, 47, 48, 49, 50, 51, 120, 121, 122, 123, 56, 124, 125, 57, 243, 244, 245, 246, 218, 219, 220, 221, 222, 155, 156, 157, 158, 247, 248, 249, 250, 251, 151, 152, 153, 154, 42, 43, 44, 46, 52, 53, 54, 55, 252, 253, 254, 255, 63, 256, 257, 258, 259, 408, 409, 410, 411, 412, 413, 414, 415, 416, 417, 418, 419, 420, 421, 422, 423, 424, 425, 426, 427, 435, 428, 429, 430, 431, 432, 433, 434] (by decide +kernel) (by decide +kernel)
set_option maxRecDepth 20000 in
theorem gX3_execute_X3_exchangeAndFlagCodes : GoodIn wsX3_execute (wsV RX3 70 RX3 yX3_exchangeAndFlagCodes wsX3_exchangeAndFlagCodes) := goodIn_app (goodIn_of _ (by decide +kernel)) ggX3_execute_X3_exchangeAndFlagCodes
set_option maxRecDepth 20000 in
theorem ggX3_execute_X1_isString : GoodIn wsX3_execute wsX1_isString := goodIn_r _ [263, 18, 416, 417, 418, 419, 420, 421, 422, 423, 424, 425, 426, 427] (by decide +kernel) (by decide +kernel)
set_option maxRecDepth 20000 in
theorem gX3_execute_X1_isString : GoodIn wsX3_execute (wsV RX3 73 RX1 yX1_isString wsX1_isString) := goodIn_app (goodIn_of _ (by decide +kernel)) ggX3_execute_X1_isString
set_option maxRecDepth 20000 in
theorem ggX3_execute_X3_strings : GoodIn wsX3_execute wsX3_strings := goodIn_r _ [267, 2, 268, 5, 269, 4, 270, 271, 272, 273, 10, 274, 3, 34, 13, 14, 15, 16, 17, 18, 143, 144, 145, 22, 146, 24, 275, 276, 277, 278, 279, 280, 281, 282, 283, 134, 135, 136, 137, 138, 42, 43, 44, 45, 46, 47, 48, 49, 50, 51, 52, 53, 54, 55, 56, 57, 116, 117, 118, 119, 120, 121, 122, 123, 124, 125, 284, 285, 286, 287, 288, 289, 290, 291, 292, 169, 170, 61, 171, 63, 147, 148, 149, 150, 114, 293, 294, 295, 296, 297, 298, 299, 300, 102, 103, 104, 105, 68, 69, 70, 71, 72, 73, 74, 75, 76, 77, 78, 79, 80, 81, 82, 83, 84, 85, 86, 87, 88, 89, 90, 91, 92, 93, 94, 95, 96, 97, 126, 127, 128, 129, 19, 20, 21, 23, 130, 131, 132, 133, 110, 111, 112, 113, 115, 301, 302, 303, 304, 218, 219, 220, 221, 222, 408, 409, 410, 411, 412, 413, 414, 415, 416, 417, 418, 419, 420, 421, 422, 423, 424, 425, 426, 427, 428, 429, 430, 431, 432, 433, 434, 435] (by decide +kernel) (by decide +kernel)
set_option maxRecDepth 20000 in
theorem gX3_execute_X3_strings : GoodIn wsX3_execute (wsV RX3 77 RX3 yX3_strings wsX3_strings) := goodIn_app (goodIn_of _ (by decide +kernel)) ggX3_execute_X3_strings
set_option maxRecDepth 20000 in
theorem ggX3_execute_X3_placeCodes : GoodIn wsX3_execute wsX3_placeCodes := goodIn_r _ [308, 2, 3, 4, 6, 34, 13, 14, 15, 16, 17, 18, 275, 276, 277, 10, 278, 5, 279, 280, 281, 282, 283, 134, 135, 136, 22, 137, 138, 126, 127, 128, 129, 19, 20, 21, 23, 24, 58, 59, 60, 61, 62, 63, 64, 65, 66, 67, 68, 69, 70, 71, 72, 73, 74, 75, 76, 77, 78, 79, 80, 81, 82, 83, 84, 85, 86, 87, 88, 89, 90, 91, 92, 93, 94, 95, 96, 97, 98, 99, 100, 101, 102, 103, 104, 105, 116, 117, 118, 45, 119, 47, 48, 49, 50, 51, 120, 121, 122, 123, 56, 124, 125, 57, 42, 43, 44, 46, 52, 53, 54, 55, 130, 131, 132, 133, 110, 111, 112, 113, 114, 115, 408, 409, 410, 411, 412, 413, 414, 415, 416, 417, 418, 419, 420, 421, 422, 423, 424, 425, 426, 427, 428, 429, 430, 435, 431, 432, 433, 434] (by decide +kernel) (by decide +kernel)
set_option maxRecDepth 20000 in
theorem gX3_execute_X3_placeCodes : GoodIn wsX3_execute (wsV RX3 80 RX3 yX3_placeCodes wsX3_placeCodes) := goodIn_app (goodIn_of _ (by decide +kernel)) ggX3_execute_X3_placeCodes
set_option maxRecDepth 20000 in
theorem ggX3_execute_X4_give : GoodIn wsX3_execute wsX4_give := goodIn_r _ [113, 24, 114, 115, 428, 429, 430] (by decide +kernel) (by decide +kernel)
set_option maxRecDepth 20000 in
theorem gX3_execute_X4_give : GoodIn wsX3_execute (wsV RX3 86 RX4 yX4_give wsX4_give) := goodIn_app (goodIn_of _ (by decide +kernel)) ggX3_execute_X4_give
set_option maxRecDepth 20000 in
theorem ggX3_execute_X3_returnCodes : GoodIn wsX3_execute wsX3_returnCodes := goodIn_r _ [312, 2, 3, 6, 1, 4, 313, 314, 315, 10, 316, 5, 151, 152, 153, 154, 34, 143, 144, 145, 22, 146, 24, 147, 148, 149, 150, 114, 134, 135, 136, 137, 138, 42, 43, 44, 45, 46, 47, 48, 49, 50, 51, 52, 53, 54, 55, 56, 57, 218, 219, 220, 221, 222, 317, 318, 319, 320, 12, 321, 322, 323, 324, 35, 36, 29, 30, 31, 32, 33, 37, 38, 39, 16, 40, 41, 19, 20, 21, 23, 155, 156, 157, 158, 13, 14, 15, 17, 18, 106, 107, 108, 109, 110, 111, 112, 113, 115, 116, 117, 118, 119, 120, 121, 122, 123, 124, 125, 325, 326, 327, 328, 292, 169, 170, 61, 171, 63, 252, 253, 254, 255, 408, 409, 410, 411, 412, 413, 414, 415, 416, 417, 418, 419, 420, 421, 422, 423, 424, 425, 426, 427, 428, 429, 430, 431, 432, 433, 434, 435] (by decide +kernel) (by decide +kernel)
set_option maxRecDepth 20000 in
theorem gX3_execute_X3_returnCodes : GoodIn wsX3_execute (wsV RX3 90 RX3 yX3_returnCodes wsX3_returnCodes) := goodIn_app (goodIn_of _ (by decide +kernel)) ggX3_execute_X3_returnCodes
set_option maxRecDepth 20000 in
theorem ggX3_execute_X3_shiftAndAdjustCodes : GoodIn wsX3_execute wsX3_shiftAndAdjustCodes := goodIn_r _ [332, 2, 3, 4, 12, 5, 6, 1, 34, 13, 14, 15, 16, 17, 18, 29, 30, 31, 10, 32, 33, 35, 36, 37, 38, 39, 40, 41, 19, 20, 21, 22, 23, 24, 42, 43, 44, 45, 46, 47, 48, 49, 50, 51, 52, 53, 54, 55, 56, 57, 333, 334, 335, 61, 336, 337, 338, 339, 340, 87, 88, 89, 90, 341, 342, 343, 344, 168, 169, 170, 171, 63, 75, 76, 77, 78, 79, 80, 81, 82, 345, 346, 347, 348, 83, 84, 85, 86, 91, 92, 93, 94, 95, 96, 97, 106, 107, 108, 109, 110, 111, 112, 113, 114, 115, 116, 117, 118, 119, 120, 121, 122, 123, 124, 125, 126, 127, 128, 129, 159, 160, 161, 162, 163, 164, 165, 166, 167, 172, 173, 174, 175, 176, 177, 178, 179, 180, 181, 182, 183, 130, 131, 132, 133, 292, 143, 144, 145, 146, 275, 276, 277, 278, 279, 280, 281, 282, 283, 134, 135, 136, 137, 138, 408, 409, 410, 411, 412, 413, 414, 415, 416, 417, 418, 419, 420, 421, 422, 423, 424, 425, 426, 427, 428, 429, 430, 431, 432, 433, 434, 435] (by decide +kernel) (by decide +kernel)
set_option maxRecDepth 20000 in
theorem gX3_execute_X3_shiftAndAdjustCodes : GoodIn wsX3_execute (wsV RX3 93 RX3 yX3_shiftAndAdjustCodes wsX3_shiftAndAdjustCodes) := goodIn_app (goodIn_of _ (by decide +kernel)) ggX3_execute_X3_shiftAndAdjustCodes
set_option maxRecDepth 20000 in
theorem ggX3_execute_X3_loopAndPortCodes : GoodIn wsX3_execute wsX3_loopAndPortCodes := goodIn_r _ [352, 2, 3, 5, 217, 6, 236, 353, 354, 355, 10, 356, 4, 143, 144, 145, 22, 146, 24, 147, 148, 149, 150, 114, 292, 169, 170, 61, 171, 63, 208, 209, 210, 211, 212, 69, 70, 213, 214, 215, 216, 218, 219, 220, 221, 222, 139, 140, 141, 142, 34, 134, 135, 136, 137, 138, 116, 117, 118, 45, 119, 47, 48, 49, 50, 51, 120, 121, 122, 123, 56, 124, 125, 57, 243, 244, 245, 246, 155, 156, 157, 158, 357, 358, 359, 360, 13, 14, 15, 16, 17, 18, 361, 362, 363, 364, 365, 130, 131, 132, 133, 110, 111, 112, 113, 115, 126, 127, 128, 129, 19, 20, 21, 23, 366, 367, 368, 369, 408, 409, 410, 411, 412, 413, 414, 415, 416, 417, 418, 419, 420, 421, 422, 423, 424, 425, 426, 427, 428, 429, 430, 435, 431, 432, 433, 434] (by decide +kernel) (by decide +kernel)
