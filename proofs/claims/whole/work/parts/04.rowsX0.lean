theorem dX0_init_0 : decode cX0_init 0 = .ok (.aload_n 0, 1) := by decide +kernel
theorem dX0_init_1 : decode cX0_init 1 = .ok (.invokespecial 3, 3) := by decide +kernel
theorem dX0_init_4 : decode cX0_init 4 = .ok (.return_, 1) := by decide +kernel
theorem dX0_has_0 : decode cX0_has 0 = .ok (.aload_n 0, 1) := by decide +kernel
theorem dX0_has_1 : decode cX0_has 1 = .ok (.getfield 9, 3) := by decide +kernel
theorem dX0_has_4 : decode cX0_has 4 = .ok (.iload_n 1, 1) := by decide +kernel
theorem dX0_has_5 : decode cX0_has 5 = .ok (.iand, 1) := by decide +kernel
theorem dX0_has_6 : decode cX0_has 6 = .ok (.ifCond .eq 7, 3) := by decide +kernel
theorem dX0_has_9 : decode cX0_has 9 = .ok (.iconst 1, 1) := by decide +kernel
theorem dX0_has_10 : decode cX0_has 10 = .ok (.goto 4, 3) := by decide +kernel
theorem dX0_has_13 : decode cX0_has 13 = .ok (.iconst 0, 1) := by decide +kernel
theorem dX0_has_14 : decode cX0_has 14 = .ok (.ireturn, 1) := by decide +kernel
theorem dX0_mark_0 : decode cX0_mark 0 = .ok (.aload_n 0, 1) := by decide +kernel
theorem dX0_mark_1 : decode cX0_mark 1 = .ok (.iload_n 2, 1) := by decide +kernel
theorem dX0_mark_2 : decode cX0_mark 2 = .ok (.ifCond .eq 12, 3) := by decide +kernel
theorem dX0_mark_5 : decode cX0_mark 5 = .ok (.aload_n 0, 1) := by decide +kernel
theorem dX0_mark_6 : decode cX0_mark 6 = .ok (.getfield 9, 3) := by decide +kernel
theorem dX0_mark_9 : decode cX0_mark 9 = .ok (.iload_n 1, 1) := by decide +kernel
theorem dX0_mark_10 : decode cX0_mark 10 = .ok (.ior, 1) := by decide +kernel
theorem dX0_mark_11 : decode cX0_mark 11 = .ok (.goto 11, 3) := by decide +kernel
theorem dX0_mark_14 : decode cX0_mark 14 = .ok (.aload_n 0, 1) := by decide +kernel
theorem dX0_mark_15 : decode cX0_mark 15 = .ok (.getfield 9, 3) := by decide +kernel
theorem dX0_mark_18 : decode cX0_mark 18 = .ok (.iload_n 1, 1) := by decide +kernel
theorem dX0_mark_19 : decode cX0_mark 19 = .ok (.iconst (-1), 1) := by decide +kernel
theorem dX0_mark_20 : decode cX0_mark 20 = .ok (.ixor, 1) := by decide +kernel
theorem dX0_mark_21 : decode cX0_mark 21 = .ok (.iand, 1) := by decide +kernel
theorem dX0_mark_22 : decode cX0_mark 22 = .ok (.putfield 9, 3) := by decide +kernel
theorem dX0_mark_25 : decode cX0_mark 25 = .ok (.return_, 1) := by decide +kernel
theorem dX0_keep_0 : decode cX0_keep 0 = .ok (.aload_n 0, 1) := by decide +kernel
theorem dX0_keep_1 : decode cX0_keep 1 = .ok (.iload_n 1, 1) := by decide +kernel
theorem dX0_keep_2 : decode cX0_keep 2 = .ok (.sipush 4053, 3) := by decide +kernel
theorem dX0_keep_5 : decode cX0_keep 5 = .ok (.iand, 1) := by decide +kernel
theorem dX0_keep_6 : decode cX0_keep 6 = .ok (.putfield 9, 3) := by decide +kernel
theorem dX0_keep_9 : decode cX0_keep 9 = .ok (.return_, 1) := by decide +kernel
theorem dX0_mask_0 : decode cX0_mask 0 = .ok (.iload_n 0, 1) := by decide +kernel
theorem dX0_mask_1 : decode cX0_mask 1 = .ok (.ifCond .eq 8, 3) := by decide +kernel
theorem dX0_mask_4 : decode cX0_mask 4 = .ok (.ldc 13, 2) := by decide +kernel
theorem dX0_mask_6 : decode cX0_mask 6 = .ok (.goto 6, 3) := by decide +kernel
theorem dX0_mask_9 : decode cX0_mask 9 = .ok (.sipush 255, 3) := by decide +kernel
theorem dX0_mask_12 : decode cX0_mask 12 = .ok (.ireturn, 1) := by decide +kernel
theorem dX0_highest_0 : decode cX0_highest 0 = .ok (.iload_n 0, 1) := by decide +kernel
theorem dX0_highest_1 : decode cX0_highest 1 = .ok (.ifCond .eq 8, 3) := by decide +kernel
theorem dX0_highest_4 : decode cX0_highest 4 = .ok (.ldc 14, 2) := by decide +kernel
theorem dX0_highest_6 : decode cX0_highest 6 = .ok (.goto 6, 3) := by decide +kernel
theorem dX0_highest_9 : decode cX0_highest 9 = .ok (.sipush 128, 3) := by decide +kernel
theorem dX0_highest_12 : decode cX0_highest 12 = .ok (.ireturn, 1) := by decide +kernel
theorem dX0_signed_0 : decode cX0_signed 0 = .ok (.iload_n 1, 1) := by decide +kernel
theorem dX0_signed_1 : decode cX0_signed 1 = .ok (.ifCond .eq 8, 3) := by decide +kernel
theorem dX0_signed_4 : decode cX0_signed 4 = .ok (.iload_n 0, 1) := by decide +kernel
theorem dX0_signed_5 : decode cX0_signed 5 = .ok (.i2s, 1) := by decide +kernel
theorem dX0_signed_6 : decode cX0_signed 6 = .ok (.goto 5, 3) := by decide +kernel
theorem dX0_signed_9 : decode cX0_signed 9 = .ok (.iload_n 0, 1) := by decide +kernel
theorem dX0_signed_10 : decode cX0_signed 10 = .ok (.i2b, 1) := by decide +kernel
theorem dX0_signed_11 : decode cX0_signed 11 = .ok (.ireturn, 1) := by decide +kernel
theorem dX0_byAnswer_0 : decode cX0_byAnswer 0 = .ok (.aload_n 0, 1) := by decide +kernel
theorem dX0_byAnswer_1 : decode cX0_byAnswer 1 = .ok (.dup, 1) := by decide +kernel
theorem dX0_byAnswer_2 : decode cX0_byAnswer 2 = .ok (.getfield 9, 3) := by decide +kernel
theorem dX0_byAnswer_5 : decode cX0_byAnswer 5 = .ok (.sipush (-197), 3) := by decide +kernel
theorem dX0_byAnswer_8 : decode cX0_byAnswer 8 = .ok (.iand, 1) := by decide +kernel
theorem dX0_byAnswer_9 : decode cX0_byAnswer 9 = .ok (.putfield 9, 3) := by decide +kernel
theorem dX0_byAnswer_12 : decode cX0_byAnswer 12 = .ok (.aload_n 0, 1) := by decide +kernel
theorem dX0_byAnswer_13 : decode cX0_byAnswer 13 = .ok (.dup, 1) := by decide +kernel
theorem dX0_byAnswer_14 : decode cX0_byAnswer 14 = .ok (.getfield 9, 3) := by decide +kernel
theorem dX0_byAnswer_17 : decode cX0_byAnswer 17 = .ok (.iload_n 1, 1) := by decide +kernel
theorem dX0_byAnswer_18 : decode cX0_byAnswer 18 = .ok (.ifCond .ne 8, 3) := by decide +kernel
theorem dX0_byAnswer_21 : decode cX0_byAnswer 21 = .ok (.bipush 64, 2) := by decide +kernel
theorem dX0_byAnswer_23 : decode cX0_byAnswer 23 = .ok (.goto 4, 3) := by decide +kernel
theorem dX0_byAnswer_26 : decode cX0_byAnswer 26 = .ok (.iconst 0, 1) := by decide +kernel
theorem dX0_byAnswer_27 : decode cX0_byAnswer 27 = .ok (.ior, 1) := by decide +kernel
theorem dX0_byAnswer_28 : decode cX0_byAnswer 28 = .ok (.putfield 9, 3) := by decide +kernel
theorem dX0_byAnswer_31 : decode cX0_byAnswer 31 = .ok (.aload_n 0, 1) := by decide +kernel
theorem dX0_byAnswer_32 : decode cX0_byAnswer 32 = .ok (.dup, 1) := by decide +kernel
theorem dX0_byAnswer_33 : decode cX0_byAnswer 33 = .ok (.getfield 9, 3) := by decide +kernel
theorem dX0_byAnswer_36 : decode cX0_byAnswer 36 = .ok (.iload_n 1, 1) := by decide +kernel
theorem dX0_byAnswer_37 : decode cX0_byAnswer 37 = .ok (.iload_n 2, 1) := by decide +kernel
theorem dX0_byAnswer_38 : decode cX0_byAnswer 38 = .ok (.invokestatic 15, 3) := by decide +kernel
theorem dX0_byAnswer_41 : decode cX0_byAnswer 41 = .ok (.iand, 1) := by decide +kernel
theorem dX0_byAnswer_42 : decode cX0_byAnswer 42 = .ok (.ifCond .eq 9, 3) := by decide +kernel
theorem dX0_byAnswer_45 : decode cX0_byAnswer 45 = .ok (.sipush 128, 3) := by decide +kernel
theorem dX0_byAnswer_48 : decode cX0_byAnswer 48 = .ok (.goto 4, 3) := by decide +kernel
theorem dX0_byAnswer_51 : decode cX0_byAnswer 51 = .ok (.iconst 0, 1) := by decide +kernel
theorem dX0_byAnswer_52 : decode cX0_byAnswer 52 = .ok (.ior, 1) := by decide +kernel
theorem dX0_byAnswer_53 : decode cX0_byAnswer 53 = .ok (.putfield 9, 3) := by decide +kernel
theorem dX0_byAnswer_56 : decode cX0_byAnswer 56 = .ok (.aload_n 0, 1) := by decide +kernel
theorem dX0_byAnswer_57 : decode cX0_byAnswer 57 = .ok (.dup, 1) := by decide +kernel
theorem dX0_byAnswer_58 : decode cX0_byAnswer 58 = .ok (.getfield 9, 3) := by decide +kernel
theorem dX0_byAnswer_61 : decode cX0_byAnswer 61 = .ok (.iload_n 1, 1) := by decide +kernel
theorem dX0_byAnswer_62 : decode cX0_byAnswer 62 = .ok (.sipush 255, 3) := by decide +kernel
theorem dX0_byAnswer_65 : decode cX0_byAnswer 65 = .ok (.iand, 1) := by decide +kernel
theorem dX0_byAnswer_66 : decode cX0_byAnswer 66 = .ok (.invokestatic 19, 3) := by decide +kernel
theorem dX0_byAnswer_69 : decode cX0_byAnswer 69 = .ok (.iconst 1, 1) := by decide +kernel
theorem dX0_byAnswer_70 : decode cX0_byAnswer 70 = .ok (.iand, 1) := by decide +kernel
theorem dX0_byAnswer_71 : decode cX0_byAnswer 71 = .ok (.ifCond .ne 7, 3) := by decide +kernel
theorem dX0_byAnswer_74 : decode cX0_byAnswer 74 = .ok (.iconst 4, 1) := by decide +kernel
theorem dX0_byAnswer_75 : decode cX0_byAnswer 75 = .ok (.goto 4, 3) := by decide +kernel
theorem dX0_byAnswer_78 : decode cX0_byAnswer 78 = .ok (.iconst 0, 1) := by decide +kernel
theorem dX0_byAnswer_79 : decode cX0_byAnswer 79 = .ok (.ior, 1) := by decide +kernel
theorem dX0_byAnswer_80 : decode cX0_byAnswer 80 = .ok (.putfield 9, 3) := by decide +kernel
theorem dX0_byAnswer_83 : decode cX0_byAnswer 83 = .ok (.iload_n 1, 1) := by decide +kernel
theorem dX0_byAnswer_84 : decode cX0_byAnswer 84 = .ok (.ireturn, 1) := by decide +kernel
theorem dX0_operation_0 : decode cX0_operation 0 = .ok (.iload_n 1, 1) := by decide +kernel
theorem dX0_operation_1 : decode cX0_operation 1 = .ok (.tableswitch 177 0 11 #[63, 73, 83, 98, 113, 123, 133, 143, 155, 177, 177, 167], 63) := by decide +kernel
theorem dX0_operation_64 : decode cX0_operation 64 = .ok (.aload_n 0, 1) := by decide +kernel
theorem dX0_operation_65 : decode cX0_operation 65 = .ok (.iload_n 2, 1) := by decide +kernel
theorem dX0_operation_66 : decode cX0_operation 66 = .ok (.iload_n 3, 1) := by decide +kernel
theorem dX0_operation_67 : decode cX0_operation 67 = .ok (.iconst 0, 1) := by decide +kernel
theorem dX0_operation_68 : decode cX0_operation 68 = .ok (.iload 4, 2) := by decide +kernel
theorem dX0_operation_70 : decode cX0_operation 70 = .ok (.invokevirtual 25, 3) := by decide +kernel
theorem dX0_operation_73 : decode cX0_operation 73 = .ok (.ireturn, 1) := by decide +kernel
theorem dX0_operation_74 : decode cX0_operation 74 = .ok (.aload_n 0, 1) := by decide +kernel
theorem dX0_operation_75 : decode cX0_operation 75 = .ok (.iload_n 2, 1) := by decide +kernel
theorem dX0_operation_76 : decode cX0_operation 76 = .ok (.iload_n 3, 1) := by decide +kernel
theorem dX0_operation_77 : decode cX0_operation 77 = .ok (.ior, 1) := by decide +kernel
theorem dX0_operation_78 : decode cX0_operation 78 = .ok (.iload 4, 2) := by decide +kernel
theorem dX0_operation_80 : decode cX0_operation 80 = .ok (.invokevirtual 29, 3) := by decide +kernel
theorem dX0_operation_83 : decode cX0_operation 83 = .ok (.ireturn, 1) := by decide +kernel
theorem dX0_operation_84 : decode cX0_operation 84 = .ok (.aload_n 0, 1) := by decide +kernel
theorem dX0_operation_85 : decode cX0_operation 85 = .ok (.iload_n 2, 1) := by decide +kernel
theorem dX0_operation_86 : decode cX0_operation 86 = .ok (.iload_n 3, 1) := by decide +kernel
theorem dX0_operation_87 : decode cX0_operation 87 = .ok (.aload_n 0, 1) := by decide +kernel
theorem dX0_operation_88 : decode cX0_operation 88 = .ok (.getfield 9, 3) := by decide +kernel
theorem dX0_operation_91 : decode cX0_operation 91 = .ok (.iconst 1, 1) := by decide +kernel
theorem dX0_operation_92 : decode cX0_operation 92 = .ok (.iand, 1) := by decide +kernel
theorem dX0_operation_93 : decode cX0_operation 93 = .ok (.iload 4, 2) := by decide +kernel
theorem dX0_operation_95 : decode cX0_operation 95 = .ok (.invokevirtual 25, 3) := by decide +kernel
theorem dX0_operation_98 : decode cX0_operation 98 = .ok (.ireturn, 1) := by decide +kernel
theorem dX0_operation_99 : decode cX0_operation 99 = .ok (.aload_n 0, 1) := by decide +kernel
theorem dX0_operation_100 : decode cX0_operation 100 = .ok (.iload_n 2, 1) := by decide +kernel
theorem dX0_operation_101 : decode cX0_operation 101 = .ok (.iload_n 3, 1) := by decide +kernel
theorem dX0_operation_102 : decode cX0_operation 102 = .ok (.aload_n 0, 1) := by decide +kernel
theorem dX0_operation_103 : decode cX0_operation 103 = .ok (.getfield 9, 3) := by decide +kernel
theorem dX0_operation_106 : decode cX0_operation 106 = .ok (.iconst 1, 1) := by decide +kernel
theorem dX0_operation_107 : decode cX0_operation 107 = .ok (.iand, 1) := by decide +kernel
theorem dX0_operation_108 : decode cX0_operation 108 = .ok (.iload 4, 2) := by decide +kernel
theorem dX0_operation_110 : decode cX0_operation 110 = .ok (.invokevirtual 33, 3) := by decide +kernel
theorem dX0_operation_113 : decode cX0_operation 113 = .ok (.ireturn, 1) := by decide +kernel
theorem dX0_operation_114 : decode cX0_operation 114 = .ok (.aload_n 0, 1) := by decide +kernel
theorem dX0_operation_115 : decode cX0_operation 115 = .ok (.iload_n 2, 1) := by decide +kernel
theorem dX0_operation_116 : decode cX0_operation 116 = .ok (.iload_n 3, 1) := by decide +kernel
theorem dX0_operation_117 : decode cX0_operation 117 = .ok (.iand, 1) := by decide +kernel
theorem dX0_operation_118 : decode cX0_operation 118 = .ok (.iload 4, 2) := by decide +kernel
theorem dX0_operation_120 : decode cX0_operation 120 = .ok (.invokevirtual 29, 3) := by decide +kernel
theorem dX0_operation_123 : decode cX0_operation 123 = .ok (.ireturn, 1) := by decide +kernel
theorem dX0_operation_124 : decode cX0_operation 124 = .ok (.aload_n 0, 1) := by decide +kernel
theorem dX0_operation_125 : decode cX0_operation 125 = .ok (.iload_n 2, 1) := by decide +kernel
theorem dX0_operation_126 : decode cX0_operation 126 = .ok (.iload_n 3, 1) := by decide +kernel
theorem dX0_operation_127 : decode cX0_operation 127 = .ok (.iconst 0, 1) := by decide +kernel
theorem dX0_operation_128 : decode cX0_operation 128 = .ok (.iload 4, 2) := by decide +kernel
theorem dX0_operation_130 : decode cX0_operation 130 = .ok (.invokevirtual 33, 3) := by decide +kernel
theorem dX0_operation_133 : decode cX0_operation 133 = .ok (.ireturn, 1) := by decide +kernel
theorem dX0_operation_134 : decode cX0_operation 134 = .ok (.aload_n 0, 1) := by decide +kernel
theorem dX0_operation_135 : decode cX0_operation 135 = .ok (.iload_n 2, 1) := by decide +kernel
theorem dX0_operation_136 : decode cX0_operation 136 = .ok (.iload_n 3, 1) := by decide +kernel
theorem dX0_operation_137 : decode cX0_operation 137 = .ok (.ixor, 1) := by decide +kernel
theorem dX0_operation_138 : decode cX0_operation 138 = .ok (.iload 4, 2) := by decide +kernel
theorem dX0_operation_140 : decode cX0_operation 140 = .ok (.invokevirtual 29, 3) := by decide +kernel
theorem dX0_operation_143 : decode cX0_operation 143 = .ok (.ireturn, 1) := by decide +kernel
theorem dX0_operation_144 : decode cX0_operation 144 = .ok (.aload_n 0, 1) := by decide +kernel
theorem dX0_operation_145 : decode cX0_operation 145 = .ok (.iload_n 2, 1) := by decide +kernel
theorem dX0_operation_146 : decode cX0_operation 146 = .ok (.iload_n 3, 1) := by decide +kernel
theorem dX0_operation_147 : decode cX0_operation 147 = .ok (.iconst 0, 1) := by decide +kernel
theorem dX0_operation_148 : decode cX0_operation 148 = .ok (.iload 4, 2) := by decide +kernel
theorem dX0_operation_150 : decode cX0_operation 150 = .ok (.invokevirtual 33, 3) := by decide +kernel
theorem dX0_operation_153 : decode cX0_operation 153 = .ok (.pop, 1) := by decide +kernel
theorem dX0_operation_154 : decode cX0_operation 154 = .ok (.iload_n 2, 1) := by decide +kernel
theorem dX0_operation_155 : decode cX0_operation 155 = .ok (.ireturn, 1) := by decide +kernel
theorem dX0_operation_156 : decode cX0_operation 156 = .ok (.aload_n 0, 1) := by decide +kernel
theorem dX0_operation_157 : decode cX0_operation 157 = .ok (.iload_n 2, 1) := by decide +kernel
theorem dX0_operation_158 : decode cX0_operation 158 = .ok (.iload_n 3, 1) := by decide +kernel
theorem dX0_operation_159 : decode cX0_operation 159 = .ok (.iand, 1) := by decide +kernel
theorem dX0_operation_160 : decode cX0_operation 160 = .ok (.iload 4, 2) := by decide +kernel
theorem dX0_operation_162 : decode cX0_operation 162 = .ok (.invokevirtual 29, 3) := by decide +kernel
theorem dX0_operation_165 : decode cX0_operation 165 = .ok (.pop, 1) := by decide +kernel
theorem dX0_operation_166 : decode cX0_operation 166 = .ok (.iload_n 2, 1) := by decide +kernel
theorem dX0_operation_167 : decode cX0_operation 167 = .ok (.ireturn, 1) := by decide +kernel
theorem dX0_operation_168 : decode cX0_operation 168 = .ok (.aload_n 0, 1) := by decide +kernel
theorem dX0_operation_169 : decode cX0_operation 169 = .ok (.iconst 0, 1) := by decide +kernel
theorem dX0_operation_170 : decode cX0_operation 170 = .ok (.iload_n 2, 1) := by decide +kernel
theorem dX0_operation_171 : decode cX0_operation 171 = .ok (.iconst 0, 1) := by decide +kernel
theorem dX0_operation_172 : decode cX0_operation 172 = .ok (.iload 4, 2) := by decide +kernel
theorem dX0_operation_174 : decode cX0_operation 174 = .ok (.invokevirtual 33, 3) := by decide +kernel
theorem dX0_operation_177 : decode cX0_operation 177 = .ok (.ireturn, 1) := by decide +kernel
theorem dX0_operation_178 : decode cX0_operation 178 = .ok (.iload_n 2, 1) := by decide +kernel
theorem dX0_operation_179 : decode cX0_operation 179 = .ok (.iconst (-1), 1) := by decide +kernel
theorem dX0_operation_180 : decode cX0_operation 180 = .ok (.ixor, 1) := by decide +kernel
theorem dX0_operation_181 : decode cX0_operation 181 = .ok (.iload 4, 2) := by decide +kernel
theorem dX0_operation_183 : decode cX0_operation 183 = .ok (.invokestatic 36, 3) := by decide +kernel
theorem dX0_operation_186 : decode cX0_operation 186 = .ok (.iand, 1) := by decide +kernel
theorem dX0_operation_187 : decode cX0_operation 187 = .ok (.ireturn, 1) := by decide +kernel
theorem dX0_compare_0 : decode cX0_compare 0 = .ok (.aload_n 0, 1) := by decide +kernel
theorem dX0_compare_1 : decode cX0_compare 1 = .ok (.iload_n 1, 1) := by decide +kernel
theorem dX0_compare_2 : decode cX0_compare 2 = .ok (.iload_n 2, 1) := by decide +kernel
theorem dX0_compare_3 : decode cX0_compare 3 = .ok (.iconst 0, 1) := by decide +kernel
theorem dX0_compare_4 : decode cX0_compare 4 = .ok (.iload_n 3, 1) := by decide +kernel
theorem dX0_compare_5 : decode cX0_compare 5 = .ok (.invokevirtual 33, 3) := by decide +kernel
theorem dX0_compare_8 : decode cX0_compare 8 = .ok (.pop, 1) := by decide +kernel
theorem dX0_compare_9 : decode cX0_compare 9 = .ok (.return_, 1) := by decide +kernel
theorem dX0_byOne_0 : decode cX0_byOne 0 = .ok (.aload_n 0, 1) := by decide +kernel
theorem dX0_byOne_1 : decode cX0_byOne 1 = .ok (.getfield 9, 3) := by decide +kernel
theorem dX0_byOne_4 : decode cX0_byOne 4 = .ok (.iconst 1, 1) := by decide +kernel
theorem dX0_byOne_5 : decode cX0_byOne 5 = .ok (.iand, 1) := by decide +kernel
theorem dX0_byOne_6 : decode cX0_byOne 6 = .ok (.istore 4, 2) := by decide +kernel
theorem dX0_byOne_8 : decode cX0_byOne 8 = .ok (.iload_n 2, 1) := by decide +kernel
theorem dX0_byOne_9 : decode cX0_byOne 9 = .ok (.ifCond .eq 14, 3) := by decide +kernel
theorem dX0_byOne_12 : decode cX0_byOne 12 = .ok (.aload_n 0, 1) := by decide +kernel
theorem dX0_byOne_13 : decode cX0_byOne 13 = .ok (.iload_n 1, 1) := by decide +kernel
theorem dX0_byOne_14 : decode cX0_byOne 14 = .ok (.iconst 1, 1) := by decide +kernel
theorem dX0_byOne_15 : decode cX0_byOne 15 = .ok (.iconst 0, 1) := by decide +kernel
theorem dX0_byOne_16 : decode cX0_byOne 16 = .ok (.iload_n 3, 1) := by decide +kernel
theorem dX0_byOne_17 : decode cX0_byOne 17 = .ok (.invokevirtual 33, 3) := by decide +kernel
theorem dX0_byOne_20 : decode cX0_byOne 20 = .ok (.goto 11, 3) := by decide +kernel
theorem dX0_byOne_23 : decode cX0_byOne 23 = .ok (.aload_n 0, 1) := by decide +kernel
theorem dX0_byOne_24 : decode cX0_byOne 24 = .ok (.iload_n 1, 1) := by decide +kernel
theorem dX0_byOne_25 : decode cX0_byOne 25 = .ok (.iconst 1, 1) := by decide +kernel
theorem dX0_byOne_26 : decode cX0_byOne 26 = .ok (.iconst 0, 1) := by decide +kernel
theorem dX0_byOne_27 : decode cX0_byOne 27 = .ok (.iload_n 3, 1) := by decide +kernel
theorem dX0_byOne_28 : decode cX0_byOne 28 = .ok (.invokevirtual 25, 3) := by decide +kernel
theorem dX0_byOne_31 : decode cX0_byOne 31 = .ok (.istore 5, 2) := by decide +kernel
theorem dX0_byOne_33 : decode cX0_byOne 33 = .ok (.aload_n 0, 1) := by decide +kernel
theorem dX0_byOne_34 : decode cX0_byOne 34 = .ok (.aload_n 0, 1) := by decide +kernel
theorem dX0_byOne_35 : decode cX0_byOne 35 = .ok (.getfield 9, 3) := by decide +kernel
theorem dX0_byOne_38 : decode cX0_byOne 38 = .ok (.bipush (-2), 2) := by decide +kernel
theorem dX0_byOne_40 : decode cX0_byOne 40 = .ok (.iand, 1) := by decide +kernel
theorem dX0_byOne_41 : decode cX0_byOne 41 = .ok (.iload 4, 2) := by decide +kernel
theorem dX0_byOne_43 : decode cX0_byOne 43 = .ok (.ior, 1) := by decide +kernel
theorem dX0_byOne_44 : decode cX0_byOne 44 = .ok (.putfield 9, 3) := by decide +kernel
theorem dX0_byOne_47 : decode cX0_byOne 47 = .ok (.iload 5, 2) := by decide +kernel
theorem dX0_byOne_49 : decode cX0_byOne 49 = .ok (.ireturn, 1) := by decide +kernel
theorem dX0_sum_0 : decode cX0_sum 0 = .ok (.iload_n 1, 1) := by decide +kernel
theorem dX0_sum_1 : decode cX0_sum 1 = .ok (.iload 4, 2) := by decide +kernel
theorem dX0_sum_3 : decode cX0_sum 3 = .ok (.invokestatic 39, 3) := by decide +kernel
theorem dX0_sum_6 : decode cX0_sum 6 = .ok (.iload_n 2, 1) := by decide +kernel
theorem dX0_sum_7 : decode cX0_sum 7 = .ok (.iload 4, 2) := by decide +kernel
theorem dX0_sum_9 : decode cX0_sum 9 = .ok (.invokestatic 39, 3) := by decide +kernel
theorem dX0_sum_12 : decode cX0_sum 12 = .ok (.iadd, 1) := by decide +kernel
theorem dX0_sum_13 : decode cX0_sum 13 = .ok (.iload_n 3, 1) := by decide +kernel
theorem dX0_sum_14 : decode cX0_sum 14 = .ok (.iadd, 1) := by decide +kernel
theorem dX0_sum_15 : decode cX0_sum 15 = .ok (.istore 5, 2) := by decide +kernel
theorem dX0_sum_17 : decode cX0_sum 17 = .ok (.aload_n 0, 1) := by decide +kernel
theorem dX0_sum_18 : decode cX0_sum 18 = .ok (.aload_n 0, 1) := by decide +kernel
theorem dX0_sum_19 : decode cX0_sum 19 = .ok (.iload_n 1, 1) := by decide +kernel
theorem dX0_sum_20 : decode cX0_sum 20 = .ok (.iload_n 2, 1) := by decide +kernel
theorem dX0_sum_21 : decode cX0_sum 21 = .ok (.iadd, 1) := by decide +kernel
theorem dX0_sum_22 : decode cX0_sum 22 = .ok (.iload_n 3, 1) := by decide +kernel
theorem dX0_sum_23 : decode cX0_sum 23 = .ok (.iadd, 1) := by decide +kernel
theorem dX0_sum_24 : decode cX0_sum 24 = .ok (.iload 5, 2) := by decide +kernel
theorem dX0_sum_26 : decode cX0_sum 26 = .ok (.iload_n 1, 1) := by decide +kernel
theorem dX0_sum_27 : decode cX0_sum 27 = .ok (.bipush 15, 2) := by decide +kernel
theorem dX0_sum_29 : decode cX0_sum 29 = .ok (.iand, 1) := by decide +kernel
theorem dX0_sum_30 : decode cX0_sum 30 = .ok (.iload_n 2, 1) := by decide +kernel
theorem dX0_sum_31 : decode cX0_sum 31 = .ok (.bipush 15, 2) := by decide +kernel
theorem dX0_sum_33 : decode cX0_sum 33 = .ok (.iand, 1) := by decide +kernel
theorem dX0_sum_34 : decode cX0_sum 34 = .ok (.iadd, 1) := by decide +kernel
theorem dX0_sum_35 : decode cX0_sum 35 = .ok (.iload_n 3, 1) := by decide +kernel
theorem dX0_sum_36 : decode cX0_sum 36 = .ok (.iadd, 1) := by decide +kernel
theorem dX0_sum_37 : decode cX0_sum 37 = .ok (.iload 4, 2) := by decide +kernel
theorem dX0_sum_39 : decode cX0_sum 39 = .ok (.invokevirtual 42, 3) := by decide +kernel
theorem dX0_sum_42 : decode cX0_sum 42 = .ok (.iload 4, 2) := by decide +kernel
theorem dX0_sum_44 : decode cX0_sum 44 = .ok (.invokevirtual 45, 3) := by decide +kernel
theorem dX0_sum_47 : decode cX0_sum 47 = .ok (.ireturn, 1) := by decide +kernel
theorem dX0_difference_0 : decode cX0_difference 0 = .ok (.iload_n 1, 1) := by decide +kernel
theorem dX0_difference_1 : decode cX0_difference 1 = .ok (.iload 4, 2) := by decide +kernel
theorem dX0_difference_3 : decode cX0_difference 3 = .ok (.invokestatic 39, 3) := by decide +kernel
theorem dX0_difference_6 : decode cX0_difference 6 = .ok (.iload_n 2, 1) := by decide +kernel
theorem dX0_difference_7 : decode cX0_difference 7 = .ok (.iload 4, 2) := by decide +kernel
theorem dX0_difference_9 : decode cX0_difference 9 = .ok (.invokestatic 39, 3) := by decide +kernel
theorem dX0_difference_12 : decode cX0_difference 12 = .ok (.isub, 1) := by decide +kernel
theorem dX0_difference_13 : decode cX0_difference 13 = .ok (.iload_n 3, 1) := by decide +kernel
theorem dX0_difference_14 : decode cX0_difference 14 = .ok (.isub, 1) := by decide +kernel
theorem dX0_difference_15 : decode cX0_difference 15 = .ok (.istore 5, 2) := by decide +kernel
theorem dX0_difference_17 : decode cX0_difference 17 = .ok (.aload_n 0, 1) := by decide +kernel
theorem dX0_difference_18 : decode cX0_difference 18 = .ok (.aload_n 0, 1) := by decide +kernel
theorem dX0_difference_19 : decode cX0_difference 19 = .ok (.iload_n 1, 1) := by decide +kernel
theorem dX0_difference_20 : decode cX0_difference 20 = .ok (.iload_n 2, 1) := by decide +kernel
theorem dX0_difference_21 : decode cX0_difference 21 = .ok (.isub, 1) := by decide +kernel
theorem dX0_difference_22 : decode cX0_difference 22 = .ok (.iload_n 3, 1) := by decide +kernel
theorem dX0_difference_23 : decode cX0_difference 23 = .ok (.isub, 1) := by decide +kernel
theorem dX0_difference_24 : decode cX0_difference 24 = .ok (.iload 5, 2) := by decide +kernel
theorem dX0_difference_26 : decode cX0_difference 26 = .ok (.iload_n 1, 1) := by decide +kernel
theorem dX0_difference_27 : decode cX0_difference 27 = .ok (.bipush 15, 2) := by decide +kernel
theorem dX0_difference_29 : decode cX0_difference 29 = .ok (.iand, 1) := by decide +kernel
theorem dX0_difference_30 : decode cX0_difference 30 = .ok (.iload_n 2, 1) := by decide +kernel
theorem dX0_difference_31 : decode cX0_difference 31 = .ok (.bipush 15, 2) := by decide +kernel
theorem dX0_difference_33 : decode cX0_difference 33 = .ok (.iand, 1) := by decide +kernel
theorem dX0_difference_34 : decode cX0_difference 34 = .ok (.isub, 1) := by decide +kernel
theorem dX0_difference_35 : decode cX0_difference 35 = .ok (.iload_n 3, 1) := by decide +kernel
theorem dX0_difference_36 : decode cX0_difference 36 = .ok (.isub, 1) := by decide +kernel
theorem dX0_difference_37 : decode cX0_difference 37 = .ok (.iload 4, 2) := by decide +kernel
theorem dX0_difference_39 : decode cX0_difference 39 = .ok (.invokevirtual 42, 3) := by decide +kernel
theorem dX0_difference_42 : decode cX0_difference 42 = .ok (.iload 4, 2) := by decide +kernel
theorem dX0_difference_44 : decode cX0_difference 44 = .ok (.invokevirtual 45, 3) := by decide +kernel
theorem dX0_difference_47 : decode cX0_difference 47 = .ok (.ireturn, 1) := by decide +kernel
theorem dX0_settle_0 : decode cX0_settle 0 = .ok (.iload_n 1, 1) := by decide +kernel
theorem dX0_settle_1 : decode cX0_settle 1 = .ok (.iload 4, 2) := by decide +kernel
theorem dX0_settle_3 : decode cX0_settle 3 = .ok (.invokestatic 36, 3) := by decide +kernel
theorem dX0_settle_6 : decode cX0_settle 6 = .ok (.iand, 1) := by decide +kernel
theorem dX0_settle_7 : decode cX0_settle 7 = .ok (.istore 5, 2) := by decide +kernel
theorem dX0_settle_9 : decode cX0_settle 9 = .ok (.aload_n 0, 1) := by decide +kernel
theorem dX0_settle_10 : decode cX0_settle 10 = .ok (.iconst 1, 1) := by decide +kernel
theorem dX0_settle_11 : decode cX0_settle 11 = .ok (.iload_n 1, 1) := by decide +kernel
theorem dX0_settle_12 : decode cX0_settle 12 = .ok (.iload 5, 2) := by decide +kernel
theorem dX0_settle_14 : decode cX0_settle 14 = .ok (.if_icmp .eq 7, 3) := by decide +kernel
theorem dX0_settle_17 : decode cX0_settle 17 = .ok (.iconst 1, 1) := by decide +kernel
theorem dX0_settle_18 : decode cX0_settle 18 = .ok (.goto 4, 3) := by decide +kernel
theorem dX0_settle_21 : decode cX0_settle 21 = .ok (.iconst 0, 1) := by decide +kernel
theorem dX0_settle_22 : decode cX0_settle 22 = .ok (.invokevirtual 48, 3) := by decide +kernel
theorem dX0_settle_25 : decode cX0_settle 25 = .ok (.aload_n 0, 1) := by decide +kernel
theorem dX0_settle_26 : decode cX0_settle 26 = .ok (.bipush 16, 2) := by decide +kernel
theorem dX0_settle_28 : decode cX0_settle 28 = .ok (.iload_n 3, 1) := by decide +kernel
theorem dX0_settle_29 : decode cX0_settle 29 = .ok (.bipush 15, 2) := by decide +kernel
theorem dX0_settle_31 : decode cX0_settle 31 = .ok (.iand, 1) := by decide +kernel
theorem dX0_settle_32 : decode cX0_settle 32 = .ok (.iload_n 3, 1) := by decide +kernel
theorem dX0_settle_33 : decode cX0_settle 33 = .ok (.if_icmp .eq 7, 3) := by decide +kernel
theorem dX0_settle_36 : decode cX0_settle 36 = .ok (.iconst 1, 1) := by decide +kernel
theorem dX0_settle_37 : decode cX0_settle 37 = .ok (.goto 4, 3) := by decide +kernel
theorem dX0_settle_40 : decode cX0_settle 40 = .ok (.iconst 0, 1) := by decide +kernel
theorem dX0_settle_41 : decode cX0_settle 41 = .ok (.invokevirtual 48, 3) := by decide +kernel
theorem dX0_settle_44 : decode cX0_settle 44 = .ok (.aload_n 0, 1) := by decide +kernel
theorem dX0_settle_45 : decode cX0_settle 45 = .ok (.sipush 2048, 3) := by decide +kernel
theorem dX0_settle_48 : decode cX0_settle 48 = .ok (.iload_n 2, 1) := by decide +kernel
theorem dX0_settle_49 : decode cX0_settle 49 = .ok (.iload 5, 2) := by decide +kernel
theorem dX0_settle_51 : decode cX0_settle 51 = .ok (.iload 4, 2) := by decide +kernel
theorem dX0_settle_53 : decode cX0_settle 53 = .ok (.invokestatic 39, 3) := by decide +kernel
theorem dX0_settle_56 : decode cX0_settle 56 = .ok (.if_icmp .eq 7, 3) := by decide +kernel
theorem dX0_settle_59 : decode cX0_settle 59 = .ok (.iconst 1, 1) := by decide +kernel
theorem dX0_settle_60 : decode cX0_settle 60 = .ok (.goto 4, 3) := by decide +kernel
theorem dX0_settle_63 : decode cX0_settle 63 = .ok (.iconst 0, 1) := by decide +kernel
theorem dX0_settle_64 : decode cX0_settle 64 = .ok (.invokevirtual 48, 3) := by decide +kernel
theorem dX0_settle_67 : decode cX0_settle 67 = .ok (.iload 5, 2) := by decide +kernel
theorem dX0_settle_69 : decode cX0_settle 69 = .ok (.ireturn, 1) := by decide +kernel
theorem dX0_bits_0 : decode cX0_bits 0 = .ok (.aload_n 0, 1) := by decide +kernel
theorem dX0_bits_1 : decode cX0_bits 1 = .ok (.dup, 1) := by decide +kernel
theorem dX0_bits_2 : decode cX0_bits 2 = .ok (.getfield 9, 3) := by decide +kernel
theorem dX0_bits_5 : decode cX0_bits 5 = .ok (.sipush (-2066), 3) := by decide +kernel
theorem dX0_bits_8 : decode cX0_bits 8 = .ok (.iand, 1) := by decide +kernel
theorem dX0_bits_9 : decode cX0_bits 9 = .ok (.putfield 9, 3) := by decide +kernel
theorem dX0_bits_12 : decode cX0_bits 12 = .ok (.aload_n 0, 1) := by decide +kernel
theorem dX0_bits_13 : decode cX0_bits 13 = .ok (.iload_n 1, 1) := by decide +kernel
theorem dX0_bits_14 : decode cX0_bits 14 = .ok (.iload_n 2, 1) := by decide +kernel
theorem dX0_bits_15 : decode cX0_bits 15 = .ok (.invokevirtual 45, 3) := by decide +kernel
theorem dX0_bits_18 : decode cX0_bits 18 = .ok (.ireturn, 1) := by decide +kernel
theorem dX0_shift_0 : decode cX0_shift 0 = .ok (.iload_n 2, 1) := by decide +kernel
theorem dX0_shift_1 : decode cX0_shift 1 = .ok (.istore 5, 2) := by decide +kernel
theorem dX0_shift_3 : decode cX0_shift 3 = .ok (.iconst 0, 1) := by decide +kernel
theorem dX0_shift_4 : decode cX0_shift 4 = .ok (.istore 6, 2) := by decide +kernel
theorem dX0_shift_6 : decode cX0_shift 6 = .ok (.iload 6, 2) := by decide +kernel
theorem dX0_shift_8 : decode cX0_shift 8 = .ok (.iload_n 3, 1) := by decide +kernel
theorem dX0_shift_9 : decode cX0_shift 9 = .ok (.if_icmp .ge 20, 3) := by decide +kernel
theorem dX0_shift_12 : decode cX0_shift 12 = .ok (.aload_n 0, 1) := by decide +kernel
theorem dX0_shift_13 : decode cX0_shift 13 = .ok (.iload_n 1, 1) := by decide +kernel
theorem dX0_shift_14 : decode cX0_shift 14 = .ok (.iload 5, 2) := by decide +kernel
theorem dX0_shift_16 : decode cX0_shift 16 = .ok (.iload 4, 2) := by decide +kernel
theorem dX0_shift_18 : decode cX0_shift 18 = .ok (.invokevirtual 52, 3) := by decide +kernel
theorem dX0_shift_21 : decode cX0_shift 21 = .ok (.istore 5, 2) := by decide +kernel
theorem dX0_shift_23 : decode cX0_shift 23 = .ok (.iinc 6 1, 3) := by decide +kernel
theorem dX0_shift_26 : decode cX0_shift 26 = .ok (.goto (-20), 3) := by decide +kernel
theorem dX0_shift_29 : decode cX0_shift 29 = .ok (.iload 5, 2) := by decide +kernel
theorem dX0_shift_31 : decode cX0_shift 31 = .ok (.ireturn, 1) := by decide +kernel
theorem dX0_shiftOnce_0 : decode cX0_shiftOnce 0 = .ok (.iload_n 3, 1) := by decide +kernel
theorem dX0_shiftOnce_1 : decode cX0_shiftOnce 1 = .ok (.invokestatic 15, 3) := by decide +kernel
theorem dX0_shiftOnce_4 : decode cX0_shiftOnce 4 = .ok (.istore 4, 2) := by decide +kernel
theorem dX0_shiftOnce_6 : decode cX0_shiftOnce 6 = .ok (.iload_n 1, 1) := by decide +kernel
theorem dX0_shiftOnce_7 : decode cX0_shiftOnce 7 = .ok (.iconst 1, 1) := by decide +kernel
theorem dX0_shiftOnce_8 : decode cX0_shiftOnce 8 = .ok (.iand, 1) := by decide +kernel
theorem dX0_shiftOnce_9 : decode cX0_shiftOnce 9 = .ok (.ifCond .ne 7, 3) := by decide +kernel
theorem dX0_shiftOnce_12 : decode cX0_shiftOnce 12 = .ok (.iconst 1, 1) := by decide +kernel
theorem dX0_shiftOnce_13 : decode cX0_shiftOnce 13 = .ok (.goto 4, 3) := by decide +kernel
theorem dX0_shiftOnce_16 : decode cX0_shiftOnce 16 = .ok (.iconst 0, 1) := by decide +kernel
theorem dX0_shiftOnce_17 : decode cX0_shiftOnce 17 = .ok (.istore 5, 2) := by decide +kernel
theorem dX0_shiftOnce_19 : decode cX0_shiftOnce 19 = .ok (.iload_n 2, 1) := by decide +kernel
theorem dX0_shiftOnce_20 : decode cX0_shiftOnce 20 = .ok (.iload 5, 2) := by decide +kernel
theorem dX0_shiftOnce_22 : decode cX0_shiftOnce 22 = .ok (.ifCond .eq 8, 3) := by decide +kernel
theorem dX0_shiftOnce_25 : decode cX0_shiftOnce 25 = .ok (.iload 4, 2) := by decide +kernel
theorem dX0_shiftOnce_27 : decode cX0_shiftOnce 27 = .ok (.goto 4, 3) := by decide +kernel
theorem dX0_shiftOnce_30 : decode cX0_shiftOnce 30 = .ok (.iconst 1, 1) := by decide +kernel
theorem dX0_shiftOnce_31 : decode cX0_shiftOnce 31 = .ok (.iand, 1) := by decide +kernel
theorem dX0_shiftOnce_32 : decode cX0_shiftOnce 32 = .ok (.ifCond .eq 7, 3) := by decide +kernel
theorem dX0_shiftOnce_35 : decode cX0_shiftOnce 35 = .ok (.iconst 1, 1) := by decide +kernel
theorem dX0_shiftOnce_36 : decode cX0_shiftOnce 36 = .ok (.goto 4, 3) := by decide +kernel
theorem dX0_shiftOnce_39 : decode cX0_shiftOnce 39 = .ok (.iconst 0, 1) := by decide +kernel
theorem dX0_shiftOnce_40 : decode cX0_shiftOnce 40 = .ok (.istore 6, 2) := by decide +kernel
theorem dX0_shiftOnce_42 : decode cX0_shiftOnce 42 = .ok (.aload_n 0, 1) := by decide +kernel
theorem dX0_shiftOnce_43 : decode cX0_shiftOnce 43 = .ok (.iload_n 1, 1) := by decide +kernel
theorem dX0_shiftOnce_44 : decode cX0_shiftOnce 44 = .ok (.iload 6, 2) := by decide +kernel
theorem dX0_shiftOnce_46 : decode cX0_shiftOnce 46 = .ok (.iload_n 2, 1) := by decide +kernel
theorem dX0_shiftOnce_47 : decode cX0_shiftOnce 47 = .ok (.iload 4, 2) := by decide +kernel
theorem dX0_shiftOnce_49 : decode cX0_shiftOnce 49 = .ok (.iand, 1) := by decide +kernel
theorem dX0_shiftOnce_50 : decode cX0_shiftOnce 50 = .ok (.ifCond .eq 7, 3) := by decide +kernel
theorem dX0_shiftOnce_53 : decode cX0_shiftOnce 53 = .ok (.iconst 1, 1) := by decide +kernel
theorem dX0_shiftOnce_54 : decode cX0_shiftOnce 54 = .ok (.goto 4, 3) := by decide +kernel
theorem dX0_shiftOnce_57 : decode cX0_shiftOnce 57 = .ok (.iconst 0, 1) := by decide +kernel
theorem dX0_shiftOnce_58 : decode cX0_shiftOnce 58 = .ok (.invokevirtual 56, 3) := by decide +kernel
theorem dX0_shiftOnce_61 : decode cX0_shiftOnce 61 = .ok (.istore 7, 2) := by decide +kernel
theorem dX0_shiftOnce_63 : decode cX0_shiftOnce 63 = .ok (.iload 5, 2) := by decide +kernel
theorem dX0_shiftOnce_65 : decode cX0_shiftOnce 65 = .ok (.ifCond .eq 25, 3) := by decide +kernel
theorem dX0_shiftOnce_68 : decode cX0_shiftOnce 68 = .ok (.iload_n 2, 1) := by decide +kernel
theorem dX0_shiftOnce_69 : decode cX0_shiftOnce 69 = .ok (.iconst 1, 1) := by decide +kernel
theorem dX0_shiftOnce_70 : decode cX0_shiftOnce 70 = .ok (.ishl, 1) := by decide +kernel
theorem dX0_shiftOnce_71 : decode cX0_shiftOnce 71 = .ok (.iload_n 3, 1) := by decide +kernel
theorem dX0_shiftOnce_72 : decode cX0_shiftOnce 72 = .ok (.invokestatic 36, 3) := by decide +kernel
theorem dX0_shiftOnce_75 : decode cX0_shiftOnce 75 = .ok (.iand, 1) := by decide +kernel
theorem dX0_shiftOnce_76 : decode cX0_shiftOnce 76 = .ok (.iload 7, 2) := by decide +kernel
theorem dX0_shiftOnce_78 : decode cX0_shiftOnce 78 = .ok (.ifCond .eq 7, 3) := by decide +kernel
theorem dX0_shiftOnce_81 : decode cX0_shiftOnce 81 = .ok (.iconst 1, 1) := by decide +kernel
theorem dX0_shiftOnce_82 : decode cX0_shiftOnce 82 = .ok (.goto 4, 3) := by decide +kernel
theorem dX0_shiftOnce_85 : decode cX0_shiftOnce 85 = .ok (.iconst 0, 1) := by decide +kernel
theorem dX0_shiftOnce_86 : decode cX0_shiftOnce 86 = .ok (.ior, 1) := by decide +kernel
theorem dX0_shiftOnce_87 : decode cX0_shiftOnce 87 = .ok (.goto 18, 3) := by decide +kernel
theorem dX0_shiftOnce_90 : decode cX0_shiftOnce 90 = .ok (.iload_n 2, 1) := by decide +kernel
theorem dX0_shiftOnce_91 : decode cX0_shiftOnce 91 = .ok (.iconst 1, 1) := by decide +kernel
theorem dX0_shiftOnce_92 : decode cX0_shiftOnce 92 = .ok (.ishr, 1) := by decide +kernel
theorem dX0_shiftOnce_93 : decode cX0_shiftOnce 93 = .ok (.iload 7, 2) := by decide +kernel
theorem dX0_shiftOnce_95 : decode cX0_shiftOnce 95 = .ok (.ifCond .eq 8, 3) := by decide +kernel
theorem dX0_shiftOnce_98 : decode cX0_shiftOnce 98 = .ok (.iload 4, 2) := by decide +kernel
theorem dX0_shiftOnce_100 : decode cX0_shiftOnce 100 = .ok (.goto 4, 3) := by decide +kernel
theorem dX0_shiftOnce_103 : decode cX0_shiftOnce 103 = .ok (.iconst 0, 1) := by decide +kernel
theorem dX0_shiftOnce_104 : decode cX0_shiftOnce 104 = .ok (.ior, 1) := by decide +kernel
theorem dX0_shiftOnce_105 : decode cX0_shiftOnce 105 = .ok (.istore 8, 2) := by decide +kernel
theorem dX0_shiftOnce_107 : decode cX0_shiftOnce 107 = .ok (.aload_n 0, 1) := by decide +kernel
theorem dX0_shiftOnce_108 : decode cX0_shiftOnce 108 = .ok (.iconst 1, 1) := by decide +kernel
theorem dX0_shiftOnce_109 : decode cX0_shiftOnce 109 = .ok (.iload 6, 2) := by decide +kernel
theorem dX0_shiftOnce_111 : decode cX0_shiftOnce 111 = .ok (.invokevirtual 48, 3) := by decide +kernel
theorem dX0_shiftOnce_114 : decode cX0_shiftOnce 114 = .ok (.aload_n 0, 1) := by decide +kernel
theorem dX0_shiftOnce_115 : decode cX0_shiftOnce 115 = .ok (.sipush 2048, 3) := by decide +kernel
theorem dX0_shiftOnce_118 : decode cX0_shiftOnce 118 = .ok (.aload_n 0, 1) := by decide +kernel
theorem dX0_shiftOnce_119 : decode cX0_shiftOnce 119 = .ok (.iload_n 1, 1) := by decide +kernel
theorem dX0_shiftOnce_120 : decode cX0_shiftOnce 120 = .ok (.iload_n 2, 1) := by decide +kernel
theorem dX0_shiftOnce_121 : decode cX0_shiftOnce 121 = .ok (.iload 8, 2) := by decide +kernel
theorem dX0_shiftOnce_123 : decode cX0_shiftOnce 123 = .ok (.iload 4, 2) := by decide +kernel
theorem dX0_shiftOnce_125 : decode cX0_shiftOnce 125 = .ok (.invokevirtual 60, 3) := by decide +kernel
theorem dX0_shiftOnce_128 : decode cX0_shiftOnce 128 = .ok (.invokevirtual 48, 3) := by decide +kernel
theorem dX0_shiftOnce_131 : decode cX0_shiftOnce 131 = .ok (.iload_n 1, 1) := by decide +kernel
theorem dX0_shiftOnce_132 : decode cX0_shiftOnce 132 = .ok (.iconst 4, 1) := by decide +kernel
theorem dX0_shiftOnce_133 : decode cX0_shiftOnce 133 = .ok (.if_icmp .lt 11, 3) := by decide +kernel
theorem dX0_shiftOnce_136 : decode cX0_shiftOnce 136 = .ok (.aload_n 0, 1) := by decide +kernel
theorem dX0_shiftOnce_137 : decode cX0_shiftOnce 137 = .ok (.iload 8, 2) := by decide +kernel
theorem dX0_shiftOnce_139 : decode cX0_shiftOnce 139 = .ok (.iload_n 3, 1) := by decide +kernel
theorem dX0_shiftOnce_140 : decode cX0_shiftOnce 140 = .ok (.invokevirtual 45, 3) := by decide +kernel
theorem dX0_shiftOnce_143 : decode cX0_shiftOnce 143 = .ok (.pop, 1) := by decide +kernel
theorem dX0_shiftOnce_144 : decode cX0_shiftOnce 144 = .ok (.iload 8, 2) := by decide +kernel
theorem dX0_shiftOnce_146 : decode cX0_shiftOnce 146 = .ok (.ireturn, 1) := by decide +kernel
theorem dX0_comesIn_0 : decode cX0_comesIn 0 = .ok (.iload_n 1, 1) := by decide +kernel
theorem dX0_comesIn_1 : decode cX0_comesIn 1 = .ok (.tableswitch 57 0 7 #[47, 47, 49, 49, 57, 57, 57, 55], 47) := by decide +kernel
theorem dX0_comesIn_48 : decode cX0_comesIn 48 = .ok (.iload_n 2, 1) := by decide +kernel
theorem dX0_comesIn_49 : decode cX0_comesIn 49 = .ok (.ireturn, 1) := by decide +kernel
theorem dX0_comesIn_50 : decode cX0_comesIn 50 = .ok (.aload_n 0, 1) := by decide +kernel
theorem dX0_comesIn_51 : decode cX0_comesIn 51 = .ok (.iconst 1, 1) := by decide +kernel
theorem dX0_comesIn_52 : decode cX0_comesIn 52 = .ok (.invokevirtual 64, 3) := by decide +kernel
theorem dX0_comesIn_55 : decode cX0_comesIn 55 = .ok (.ireturn, 1) := by decide +kernel
theorem dX0_comesIn_56 : decode cX0_comesIn 56 = .ok (.iload_n 3, 1) := by decide +kernel
theorem dX0_comesIn_57 : decode cX0_comesIn 57 = .ok (.ireturn, 1) := by decide +kernel
theorem dX0_comesIn_58 : decode cX0_comesIn 58 = .ok (.iconst 0, 1) := by decide +kernel
theorem dX0_comesIn_59 : decode cX0_comesIn 59 = .ok (.ireturn, 1) := by decide +kernel
theorem dX0_shiftOverflows_0 : decode cX0_shiftOverflows 0 = .ok (.iload_n 1, 1) := by decide +kernel
theorem dX0_shiftOverflows_1 : decode cX0_shiftOverflows 1 = .ok (.tableswitch 75 1 7 #[43, 75, 43, 75, 60, 75, 73], 43) := by decide +kernel
theorem dX0_shiftOverflows_44 : decode cX0_shiftOverflows 44 = .ok (.iload_n 3, 1) := by decide +kernel
theorem dX0_shiftOverflows_45 : decode cX0_shiftOverflows 45 = .ok (.iload_n 3, 1) := by decide +kernel
theorem dX0_shiftOverflows_46 : decode cX0_shiftOverflows 46 = .ok (.iconst 1, 1) := by decide +kernel
theorem dX0_shiftOverflows_47 : decode cX0_shiftOverflows 47 = .ok (.ishl, 1) := by decide +kernel
theorem dX0_shiftOverflows_48 : decode cX0_shiftOverflows 48 = .ok (.ixor, 1) := by decide +kernel
theorem dX0_shiftOverflows_49 : decode cX0_shiftOverflows 49 = .ok (.iload 4, 2) := by decide +kernel
theorem dX0_shiftOverflows_51 : decode cX0_shiftOverflows 51 = .ok (.iand, 1) := by decide +kernel
theorem dX0_shiftOverflows_52 : decode cX0_shiftOverflows 52 = .ok (.ifCond .eq 7, 3) := by decide +kernel
theorem dX0_shiftOverflows_55 : decode cX0_shiftOverflows 55 = .ok (.iconst 1, 1) := by decide +kernel
theorem dX0_shiftOverflows_56 : decode cX0_shiftOverflows 56 = .ok (.goto 4, 3) := by decide +kernel
theorem dX0_shiftOverflows_59 : decode cX0_shiftOverflows 59 = .ok (.iconst 0, 1) := by decide +kernel
theorem dX0_shiftOverflows_60 : decode cX0_shiftOverflows 60 = .ok (.ireturn, 1) := by decide +kernel
theorem dX0_shiftOverflows_61 : decode cX0_shiftOverflows 61 = .ok (.iload_n 2, 1) := by decide +kernel
theorem dX0_shiftOverflows_62 : decode cX0_shiftOverflows 62 = .ok (.iload 4, 2) := by decide +kernel
theorem dX0_shiftOverflows_64 : decode cX0_shiftOverflows 64 = .ok (.iand, 1) := by decide +kernel
theorem dX0_shiftOverflows_65 : decode cX0_shiftOverflows 65 = .ok (.ifCond .eq 7, 3) := by decide +kernel
theorem dX0_shiftOverflows_68 : decode cX0_shiftOverflows 68 = .ok (.iconst 1, 1) := by decide +kernel
theorem dX0_shiftOverflows_69 : decode cX0_shiftOverflows 69 = .ok (.goto 4, 3) := by decide +kernel
theorem dX0_shiftOverflows_72 : decode cX0_shiftOverflows 72 = .ok (.iconst 0, 1) := by decide +kernel
theorem dX0_shiftOverflows_73 : decode cX0_shiftOverflows 73 = .ok (.ireturn, 1) := by decide +kernel
theorem dX0_shiftOverflows_74 : decode cX0_shiftOverflows 74 = .ok (.iconst 0, 1) := by decide +kernel
theorem dX0_shiftOverflows_75 : decode cX0_shiftOverflows 75 = .ok (.ireturn, 1) := by decide +kernel
theorem dX0_shiftOverflows_76 : decode cX0_shiftOverflows 76 = .ok (.aload_n 0, 1) := by decide +kernel
theorem dX0_shiftOverflows_77 : decode cX0_shiftOverflows 77 = .ok (.iconst 1, 1) := by decide +kernel
theorem dX0_shiftOverflows_78 : decode cX0_shiftOverflows 78 = .ok (.invokevirtual 64, 3) := by decide +kernel
theorem dX0_shiftOverflows_81 : decode cX0_shiftOverflows 81 = .ok (.iload_n 3, 1) := by decide +kernel
theorem dX0_shiftOverflows_82 : decode cX0_shiftOverflows 82 = .ok (.iload 4, 2) := by decide +kernel
theorem dX0_shiftOverflows_84 : decode cX0_shiftOverflows 84 = .ok (.iand, 1) := by decide +kernel
theorem dX0_shiftOverflows_85 : decode cX0_shiftOverflows 85 = .ok (.ifCond .eq 7, 3) := by decide +kernel
theorem dX0_shiftOverflows_88 : decode cX0_shiftOverflows 88 = .ok (.iconst 1, 1) := by decide +kernel
theorem dX0_shiftOverflows_89 : decode cX0_shiftOverflows 89 = .ok (.goto 4, 3) := by decide +kernel
theorem dX0_shiftOverflows_92 : decode cX0_shiftOverflows 92 = .ok (.iconst 0, 1) := by decide +kernel
theorem dX0_shiftOverflows_93 : decode cX0_shiftOverflows 93 = .ok (.if_icmp .eq 7, 3) := by decide +kernel
theorem dX0_shiftOverflows_96 : decode cX0_shiftOverflows 96 = .ok (.iconst 1, 1) := by decide +kernel
theorem dX0_shiftOverflows_97 : decode cX0_shiftOverflows 97 = .ok (.goto 4, 3) := by decide +kernel
theorem dX0_shiftOverflows_100 : decode cX0_shiftOverflows 100 = .ok (.iconst 0, 1) := by decide +kernel
theorem dX0_shiftOverflows_101 : decode cX0_shiftOverflows 101 = .ok (.ireturn, 1) := by decide +kernel
theorem dX0_product_0 : decode cX0_product 0 = .ok (.iload 4, 2) := by decide +kernel
theorem dX0_product_2 : decode cX0_product 2 = .ok (.ifCond .eq 19, 3) := by decide +kernel
theorem dX0_product_5 : decode cX0_product 5 = .ok (.iload_n 1, 1) := by decide +kernel
theorem dX0_product_6 : decode cX0_product 6 = .ok (.iload_n 3, 1) := by decide +kernel
theorem dX0_product_7 : decode cX0_product 7 = .ok (.invokestatic 39, 3) := by decide +kernel
theorem dX0_product_10 : decode cX0_product 10 = .ok (.i2l, 1) := by decide +kernel
theorem dX0_product_11 : decode cX0_product 11 = .ok (.iload_n 2, 1) := by decide +kernel
theorem dX0_product_12 : decode cX0_product 12 = .ok (.iload_n 3, 1) := by decide +kernel
theorem dX0_product_13 : decode cX0_product 13 = .ok (.invokestatic 39, 3) := by decide +kernel
theorem dX0_product_16 : decode cX0_product 16 = .ok (.i2l, 1) := by decide +kernel
theorem dX0_product_17 : decode cX0_product 17 = .ok (.lmul, 1) := by decide +kernel
theorem dX0_product_18 : decode cX0_product 18 = .ok (.goto 8, 3) := by decide +kernel
theorem dX0_product_21 : decode cX0_product 21 = .ok (.iload_n 1, 1) := by decide +kernel
theorem dX0_product_22 : decode cX0_product 22 = .ok (.i2l, 1) := by decide +kernel
theorem dX0_product_23 : decode cX0_product 23 = .ok (.iload_n 2, 1) := by decide +kernel
theorem dX0_product_24 : decode cX0_product 24 = .ok (.i2l, 1) := by decide +kernel
theorem dX0_product_25 : decode cX0_product 25 = .ok (.lmul, 1) := by decide +kernel
theorem dX0_product_26 : decode cX0_product 26 = .ok (.lstore 5, 2) := by decide +kernel
theorem dX0_product_28 : decode cX0_product 28 = .ok (.lload 5, 2) := by decide +kernel
theorem dX0_product_30 : decode cX0_product 30 = .ok (.l2i, 1) := by decide +kernel
theorem dX0_product_31 : decode cX0_product 31 = .ok (.iload_n 3, 1) := by decide +kernel
theorem dX0_product_32 : decode cX0_product 32 = .ok (.invokestatic 36, 3) := by decide +kernel
theorem dX0_product_35 : decode cX0_product 35 = .ok (.iand, 1) := by decide +kernel
theorem dX0_product_36 : decode cX0_product 36 = .ok (.istore 7, 2) := by decide +kernel
theorem dX0_product_38 : decode cX0_product 38 = .ok (.lload 5, 2) := by decide +kernel
theorem dX0_product_40 : decode cX0_product 40 = .ok (.iload 4, 2) := by decide +kernel
theorem dX0_product_42 : decode cX0_product 42 = .ok (.ifCond .eq 12, 3) := by decide +kernel
theorem dX0_product_45 : decode cX0_product 45 = .ok (.iload 7, 2) := by decide +kernel
theorem dX0_product_47 : decode cX0_product 47 = .ok (.iload_n 3, 1) := by decide +kernel
theorem dX0_product_48 : decode cX0_product 48 = .ok (.invokestatic 39, 3) := by decide +kernel
theorem dX0_product_51 : decode cX0_product 51 = .ok (.goto 5, 3) := by decide +kernel
theorem dX0_product_54 : decode cX0_product 54 = .ok (.iload 7, 2) := by decide +kernel
theorem dX0_product_56 : decode cX0_product 56 = .ok (.i2l, 1) := by decide +kernel
theorem dX0_product_57 : decode cX0_product 57 = .ok (.lcmp, 1) := by decide +kernel
theorem dX0_product_58 : decode cX0_product 58 = .ok (.ifCond .eq 7, 3) := by decide +kernel
theorem dX0_product_61 : decode cX0_product 61 = .ok (.iconst 1, 1) := by decide +kernel
theorem dX0_product_62 : decode cX0_product 62 = .ok (.goto 4, 3) := by decide +kernel
theorem dX0_product_65 : decode cX0_product 65 = .ok (.iconst 0, 1) := by decide +kernel
theorem dX0_product_66 : decode cX0_product 66 = .ok (.istore 8, 2) := by decide +kernel
theorem dX0_product_68 : decode cX0_product 68 = .ok (.aload_n 0, 1) := by decide +kernel
theorem dX0_product_69 : decode cX0_product 69 = .ok (.iconst 1, 1) := by decide +kernel
theorem dX0_product_70 : decode cX0_product 70 = .ok (.iload 8, 2) := by decide +kernel
theorem dX0_product_72 : decode cX0_product 72 = .ok (.invokevirtual 48, 3) := by decide +kernel
theorem dX0_product_75 : decode cX0_product 75 = .ok (.aload_n 0, 1) := by decide +kernel
theorem dX0_product_76 : decode cX0_product 76 = .ok (.sipush 2048, 3) := by decide +kernel
theorem dX0_product_79 : decode cX0_product 79 = .ok (.iload 8, 2) := by decide +kernel
theorem dX0_product_81 : decode cX0_product 81 = .ok (.invokevirtual 48, 3) := by decide +kernel
theorem dX0_product_84 : decode cX0_product 84 = .ok (.lload 5, 2) := by decide +kernel
theorem dX0_product_86 : decode cX0_product 86 = .ok (.l2i, 1) := by decide +kernel
theorem dX0_product_87 : decode cX0_product 87 = .ok (.ireturn, 1) := by decide +kernel
theorem dX0_fits_0 : decode cX0_fits 0 = .ok (.iload_n 3, 1) := by decide +kernel
theorem dX0_fits_1 : decode cX0_fits 1 = .ok (.ifCond .eq 13, 3) := by decide +kernel
theorem dX0_fits_4 : decode cX0_fits 4 = .ok (.iload_n 2, 1) := by decide +kernel
theorem dX0_fits_5 : decode cX0_fits 5 = .ok (.invokestatic 15, 3) := by decide +kernel
theorem dX0_fits_8 : decode cX0_fits 8 = .ok (.iconst 1, 1) := by decide +kernel
theorem dX0_fits_9 : decode cX0_fits 9 = .ok (.isub, 1) := by decide +kernel
theorem dX0_fits_10 : decode cX0_fits 10 = .ok (.i2l, 1) := by decide +kernel
theorem dX0_fits_11 : decode cX0_fits 11 = .ok (.goto 8, 3) := by decide +kernel
theorem dX0_fits_14 : decode cX0_fits 14 = .ok (.iload_n 2, 1) := by decide +kernel
theorem dX0_fits_15 : decode cX0_fits 15 = .ok (.invokestatic 36, 3) := by decide +kernel
theorem dX0_fits_18 : decode cX0_fits 18 = .ok (.i2l, 1) := by decide +kernel
theorem dX0_fits_19 : decode cX0_fits 19 = .ok (.lstore 4, 2) := by decide +kernel
theorem dX0_fits_21 : decode cX0_fits 21 = .ok (.lload_n 0, 1) := by decide +kernel
theorem dX0_fits_22 : decode cX0_fits 22 = .ok (.lload 4, 2) := by decide +kernel
theorem dX0_fits_24 : decode cX0_fits 24 = .ok (.lcmp, 1) := by decide +kernel
theorem dX0_fits_25 : decode cX0_fits 25 = .ok (.ifCond .gt 23, 3) := by decide +kernel
theorem dX0_fits_28 : decode cX0_fits 28 = .ok (.lload_n 0, 1) := by decide +kernel
theorem dX0_fits_29 : decode cX0_fits 29 = .ok (.iload_n 3, 1) := by decide +kernel
theorem dX0_fits_30 : decode cX0_fits 30 = .ok (.ifCond .eq 9, 3) := by decide +kernel
theorem dX0_fits_33 : decode cX0_fits 33 = .ok (.lload 4, 2) := by decide +kernel
theorem dX0_fits_35 : decode cX0_fits 35 = .ok (.lneg, 1) := by decide +kernel
theorem dX0_fits_36 : decode cX0_fits 36 = .ok (.goto 4, 3) := by decide +kernel
theorem dX0_fits_39 : decode cX0_fits 39 = .ok (.lconst 0, 1) := by decide +kernel
theorem dX0_fits_40 : decode cX0_fits 40 = .ok (.lcmp, 1) := by decide +kernel
theorem dX0_fits_41 : decode cX0_fits 41 = .ok (.ifCond .lt 7, 3) := by decide +kernel
theorem dX0_fits_44 : decode cX0_fits 44 = .ok (.iconst 1, 1) := by decide +kernel
theorem dX0_fits_45 : decode cX0_fits 45 = .ok (.goto 4, 3) := by decide +kernel
theorem dX0_fits_48 : decode cX0_fits 48 = .ok (.iconst 0, 1) := by decide +kernel
theorem dX0_fits_49 : decode cX0_fits 49 = .ok (.ireturn, 1) := by decide +kernel
theorem dX0_adjustment_0 : decode cX0_adjustment 0 = .ok (.iload_n 1, 1) := by decide +kernel
theorem dX0_adjustment_1 : decode cX0_adjustment 1 = .ok (.tableswitch 74 0 4 #[35, 42, 49, 56, 63], 35) := by decide +kernel
theorem dX0_adjustment_36 : decode cX0_adjustment 36 = .ok (.aload_n 0, 1) := by decide +kernel
theorem dX0_adjustment_37 : decode cX0_adjustment 37 = .ok (.iload_n 2, 1) := by decide +kernel
theorem dX0_adjustment_38 : decode cX0_adjustment 38 = .ok (.iconst 1, 1) := by decide +kernel
theorem dX0_adjustment_39 : decode cX0_adjustment 39 = .ok (.invokevirtual 68, 3) := by decide +kernel
theorem dX0_adjustment_42 : decode cX0_adjustment 42 = .ok (.ireturn, 1) := by decide +kernel
theorem dX0_adjustment_43 : decode cX0_adjustment 43 = .ok (.aload_n 0, 1) := by decide +kernel
theorem dX0_adjustment_44 : decode cX0_adjustment 44 = .ok (.iload_n 2, 1) := by decide +kernel
theorem dX0_adjustment_45 : decode cX0_adjustment 45 = .ok (.iconst (-1), 1) := by decide +kernel
theorem dX0_adjustment_46 : decode cX0_adjustment 46 = .ok (.invokevirtual 68, 3) := by decide +kernel
theorem dX0_adjustment_49 : decode cX0_adjustment 49 = .ok (.ireturn, 1) := by decide +kernel
theorem dX0_adjustment_50 : decode cX0_adjustment 50 = .ok (.aload_n 0, 1) := by decide +kernel
theorem dX0_adjustment_51 : decode cX0_adjustment 51 = .ok (.iload_n 2, 1) := by decide +kernel
theorem dX0_adjustment_52 : decode cX0_adjustment 52 = .ok (.iconst 1, 1) := by decide +kernel
theorem dX0_adjustment_53 : decode cX0_adjustment 53 = .ok (.invokevirtual 72, 3) := by decide +kernel
theorem dX0_adjustment_56 : decode cX0_adjustment 56 = .ok (.ireturn, 1) := by decide +kernel
theorem dX0_adjustment_57 : decode cX0_adjustment 57 = .ok (.aload_n 0, 1) := by decide +kernel
theorem dX0_adjustment_58 : decode cX0_adjustment 58 = .ok (.iload_n 2, 1) := by decide +kernel
theorem dX0_adjustment_59 : decode cX0_adjustment 59 = .ok (.iconst (-1), 1) := by decide +kernel
theorem dX0_adjustment_60 : decode cX0_adjustment 60 = .ok (.invokevirtual 72, 3) := by decide +kernel
theorem dX0_adjustment_63 : decode cX0_adjustment 63 = .ok (.ireturn, 1) := by decide +kernel
theorem dX0_adjustment_64 : decode cX0_adjustment 64 = .ok (.aload_n 0, 1) := by decide +kernel
theorem dX0_adjustment_65 : decode cX0_adjustment 65 = .ok (.iload_n 2, 1) := by decide +kernel
theorem dX0_adjustment_66 : decode cX0_adjustment 66 = .ok (.sipush 255, 3) := by decide +kernel
theorem dX0_adjustment_69 : decode cX0_adjustment 69 = .ok (.iand, 1) := by decide +kernel
theorem dX0_adjustment_70 : decode cX0_adjustment 70 = .ok (.iload_n 3, 1) := by decide +kernel
theorem dX0_adjustment_71 : decode cX0_adjustment 71 = .ok (.invokevirtual 75, 3) := by decide +kernel
theorem dX0_adjustment_74 : decode cX0_adjustment 74 = .ok (.ireturn, 1) := by decide +kernel
theorem dX0_adjustment_75 : decode cX0_adjustment 75 = .ok (.aload_n 0, 1) := by decide +kernel
theorem dX0_adjustment_76 : decode cX0_adjustment 76 = .ok (.iload_n 2, 1) := by decide +kernel
theorem dX0_adjustment_77 : decode cX0_adjustment 77 = .ok (.iload_n 3, 1) := by decide +kernel
theorem dX0_adjustment_78 : decode cX0_adjustment 78 = .ok (.invokevirtual 78, 3) := by decide +kernel
theorem dX0_adjustment_81 : decode cX0_adjustment 81 = .ok (.ireturn, 1) := by decide +kernel
theorem dX0_decimal_0 : decode cX0_decimal 0 = .ok (.iload_n 1, 1) := by decide +kernel
theorem dX0_decimal_1 : decode cX0_decimal 1 = .ok (.sipush 255, 3) := by decide +kernel
theorem dX0_decimal_4 : decode cX0_decimal 4 = .ok (.iand, 1) := by decide +kernel
theorem dX0_decimal_5 : decode cX0_decimal 5 = .ok (.istore_n 3, 1) := by decide +kernel
theorem dX0_decimal_6 : decode cX0_decimal 6 = .ok (.iload_n 3, 1) := by decide +kernel
theorem dX0_decimal_7 : decode cX0_decimal 7 = .ok (.bipush 15, 2) := by decide +kernel
theorem dX0_decimal_9 : decode cX0_decimal 9 = .ok (.iand, 1) := by decide +kernel
theorem dX0_decimal_10 : decode cX0_decimal 10 = .ok (.bipush 9, 2) := by decide +kernel
theorem dX0_decimal_12 : decode cX0_decimal 12 = .ok (.if_icmp .gt 12, 3) := by decide +kernel
theorem dX0_decimal_15 : decode cX0_decimal 15 = .ok (.aload_n 0, 1) := by decide +kernel
theorem dX0_decimal_16 : decode cX0_decimal 16 = .ok (.bipush 16, 2) := by decide +kernel
theorem dX0_decimal_18 : decode cX0_decimal 18 = .ok (.invokevirtual 64, 3) := by decide +kernel
theorem dX0_decimal_21 : decode cX0_decimal 21 = .ok (.ifCond .eq 7, 3) := by decide +kernel
theorem dX0_decimal_24 : decode cX0_decimal 24 = .ok (.iconst 1, 1) := by decide +kernel
theorem dX0_decimal_25 : decode cX0_decimal 25 = .ok (.goto 4, 3) := by decide +kernel
theorem dX0_decimal_28 : decode cX0_decimal 28 = .ok (.iconst 0, 1) := by decide +kernel
theorem dX0_decimal_29 : decode cX0_decimal 29 = .ok (.istore 4, 2) := by decide +kernel
theorem dX0_decimal_31 : decode cX0_decimal 31 = .ok (.iload_n 3, 1) := by decide +kernel
theorem dX0_decimal_32 : decode cX0_decimal 32 = .ok (.sipush 153, 3) := by decide +kernel
theorem dX0_decimal_35 : decode cX0_decimal 35 = .ok (.if_icmp .gt 11, 3) := by decide +kernel
theorem dX0_decimal_38 : decode cX0_decimal 38 = .ok (.aload_n 0, 1) := by decide +kernel
theorem dX0_decimal_39 : decode cX0_decimal 39 = .ok (.iconst 1, 1) := by decide +kernel
theorem dX0_decimal_40 : decode cX0_decimal 40 = .ok (.invokevirtual 64, 3) := by decide +kernel
theorem dX0_decimal_43 : decode cX0_decimal 43 = .ok (.ifCond .eq 7, 3) := by decide +kernel
theorem dX0_decimal_46 : decode cX0_decimal 46 = .ok (.iconst 1, 1) := by decide +kernel
theorem dX0_decimal_47 : decode cX0_decimal 47 = .ok (.goto 4, 3) := by decide +kernel
theorem dX0_decimal_50 : decode cX0_decimal 50 = .ok (.iconst 0, 1) := by decide +kernel
theorem dX0_decimal_51 : decode cX0_decimal 51 = .ok (.istore 5, 2) := by decide +kernel
theorem dX0_decimal_53 : decode cX0_decimal 53 = .ok (.iload_n 2, 1) := by decide +kernel
theorem dX0_decimal_54 : decode cX0_decimal 54 = .ok (.ifCond .ge 18, 3) := by decide +kernel
theorem dX0_decimal_57 : decode cX0_decimal 57 = .ok (.iload 4, 2) := by decide +kernel
theorem dX0_decimal_59 : decode cX0_decimal 59 = .ok (.ifCond .eq 13, 3) := by decide +kernel
theorem dX0_decimal_62 : decode cX0_decimal 62 = .ok (.iload_n 3, 1) := by decide +kernel
theorem dX0_decimal_63 : decode cX0_decimal 63 = .ok (.bipush 6, 2) := by decide +kernel
theorem dX0_decimal_65 : decode cX0_decimal 65 = .ok (.if_icmp .ge 7, 3) := by decide +kernel
theorem dX0_decimal_68 : decode cX0_decimal 68 = .ok (.iconst 1, 1) := by decide +kernel
theorem dX0_decimal_69 : decode cX0_decimal 69 = .ok (.goto 4, 3) := by decide +kernel
theorem dX0_decimal_72 : decode cX0_decimal 72 = .ok (.iconst 0, 1) := by decide +kernel
theorem dX0_decimal_73 : decode cX0_decimal 73 = .ok (.istore 6, 2) := by decide +kernel
theorem dX0_decimal_75 : decode cX0_decimal 75 = .ok (.iload_n 3, 1) := by decide +kernel
theorem dX0_decimal_76 : decode cX0_decimal 76 = .ok (.iload_n 2, 1) := by decide +kernel
theorem dX0_decimal_77 : decode cX0_decimal 77 = .ok (.iload 4, 2) := by decide +kernel
theorem dX0_decimal_79 : decode cX0_decimal 79 = .ok (.ifCond .eq 8, 3) := by decide +kernel
theorem dX0_decimal_82 : decode cX0_decimal 82 = .ok (.bipush 6, 2) := by decide +kernel
theorem dX0_decimal_84 : decode cX0_decimal 84 = .ok (.goto 4, 3) := by decide +kernel
theorem dX0_decimal_87 : decode cX0_decimal 87 = .ok (.iconst 0, 1) := by decide +kernel
theorem dX0_decimal_88 : decode cX0_decimal 88 = .ok (.iload 5, 2) := by decide +kernel
theorem dX0_decimal_90 : decode cX0_decimal 90 = .ok (.ifCond .eq 8, 3) := by decide +kernel
theorem dX0_decimal_93 : decode cX0_decimal 93 = .ok (.bipush 96, 2) := by decide +kernel
theorem dX0_decimal_95 : decode cX0_decimal 95 = .ok (.goto 4, 3) := by decide +kernel
theorem dX0_decimal_98 : decode cX0_decimal 98 = .ok (.iconst 0, 1) := by decide +kernel
theorem dX0_decimal_99 : decode cX0_decimal 99 = .ok (.iadd, 1) := by decide +kernel
theorem dX0_decimal_100 : decode cX0_decimal 100 = .ok (.imul, 1) := by decide +kernel
theorem dX0_decimal_101 : decode cX0_decimal 101 = .ok (.iadd, 1) := by decide +kernel
theorem dX0_decimal_102 : decode cX0_decimal 102 = .ok (.sipush 255, 3) := by decide +kernel
theorem dX0_decimal_105 : decode cX0_decimal 105 = .ok (.iand, 1) := by decide +kernel
theorem dX0_decimal_106 : decode cX0_decimal 106 = .ok (.istore 7, 2) := by decide +kernel
theorem dX0_decimal_108 : decode cX0_decimal 108 = .ok (.aload_n 0, 1) := by decide +kernel
theorem dX0_decimal_109 : decode cX0_decimal 109 = .ok (.bipush 16, 2) := by decide +kernel
theorem dX0_decimal_111 : decode cX0_decimal 111 = .ok (.iload 4, 2) := by decide +kernel
theorem dX0_decimal_113 : decode cX0_decimal 113 = .ok (.invokevirtual 48, 3) := by decide +kernel
theorem dX0_decimal_116 : decode cX0_decimal 116 = .ok (.aload_n 0, 1) := by decide +kernel
theorem dX0_decimal_117 : decode cX0_decimal 117 = .ok (.iconst 1, 1) := by decide +kernel
theorem dX0_decimal_118 : decode cX0_decimal 118 = .ok (.iload 5, 2) := by decide +kernel
theorem dX0_decimal_120 : decode cX0_decimal 120 = .ok (.ifCond .ne 8, 3) := by decide +kernel
theorem dX0_decimal_123 : decode cX0_decimal 123 = .ok (.iload 6, 2) := by decide +kernel
theorem dX0_decimal_125 : decode cX0_decimal 125 = .ok (.ifCond .eq 7, 3) := by decide +kernel
theorem dX0_decimal_128 : decode cX0_decimal 128 = .ok (.iconst 1, 1) := by decide +kernel
theorem dX0_decimal_129 : decode cX0_decimal 129 = .ok (.goto 4, 3) := by decide +kernel
theorem dX0_decimal_132 : decode cX0_decimal 132 = .ok (.iconst 0, 1) := by decide +kernel
theorem dX0_decimal_133 : decode cX0_decimal 133 = .ok (.invokevirtual 48, 3) := by decide +kernel
theorem dX0_decimal_136 : decode cX0_decimal 136 = .ok (.aload_n 0, 1) := by decide +kernel
theorem dX0_decimal_137 : decode cX0_decimal 137 = .ok (.iload 7, 2) := by decide +kernel
theorem dX0_decimal_139 : decode cX0_decimal 139 = .ok (.iconst 0, 1) := by decide +kernel
theorem dX0_decimal_140 : decode cX0_decimal 140 = .ok (.invokevirtual 45, 3) := by decide +kernel
theorem dX0_decimal_143 : decode cX0_decimal 143 = .ok (.pop, 1) := by decide +kernel
theorem dX0_decimal_144 : decode cX0_decimal 144 = .ok (.iload_n 1, 1) := by decide +kernel
theorem dX0_decimal_145 : decode cX0_decimal 145 = .ok (.ldc 81, 2) := by decide +kernel
theorem dX0_decimal_147 : decode cX0_decimal 147 = .ok (.iand, 1) := by decide +kernel
theorem dX0_decimal_148 : decode cX0_decimal 148 = .ok (.iload 7, 2) := by decide +kernel
theorem dX0_decimal_150 : decode cX0_decimal 150 = .ok (.ior, 1) := by decide +kernel
theorem dX0_decimal_151 : decode cX0_decimal 151 = .ok (.ireturn, 1) := by decide +kernel
theorem dX0_unpacked_0 : decode cX0_unpacked 0 = .ok (.iload_n 1, 1) := by decide +kernel
theorem dX0_unpacked_1 : decode cX0_unpacked 1 = .ok (.bipush 15, 2) := by decide +kernel
theorem dX0_unpacked_3 : decode cX0_unpacked 3 = .ok (.iand, 1) := by decide +kernel
theorem dX0_unpacked_4 : decode cX0_unpacked 4 = .ok (.bipush 9, 2) := by decide +kernel
theorem dX0_unpacked_6 : decode cX0_unpacked 6 = .ok (.if_icmp .gt 12, 3) := by decide +kernel
theorem dX0_unpacked_9 : decode cX0_unpacked 9 = .ok (.aload_n 0, 1) := by decide +kernel
theorem dX0_unpacked_10 : decode cX0_unpacked 10 = .ok (.bipush 16, 2) := by decide +kernel
theorem dX0_unpacked_12 : decode cX0_unpacked 12 = .ok (.invokevirtual 64, 3) := by decide +kernel
theorem dX0_unpacked_15 : decode cX0_unpacked 15 = .ok (.ifCond .eq 7, 3) := by decide +kernel
theorem dX0_unpacked_18 : decode cX0_unpacked 18 = .ok (.iconst 1, 1) := by decide +kernel
theorem dX0_unpacked_19 : decode cX0_unpacked 19 = .ok (.goto 4, 3) := by decide +kernel
theorem dX0_unpacked_22 : decode cX0_unpacked 22 = .ok (.iconst 0, 1) := by decide +kernel
theorem dX0_unpacked_23 : decode cX0_unpacked 23 = .ok (.istore_n 3, 1) := by decide +kernel
theorem dX0_unpacked_24 : decode cX0_unpacked 24 = .ok (.iload_n 1, 1) := by decide +kernel
theorem dX0_unpacked_25 : decode cX0_unpacked 25 = .ok (.iload_n 3, 1) := by decide +kernel
theorem dX0_unpacked_26 : decode cX0_unpacked 26 = .ok (.ifCond .eq 10, 3) := by decide +kernel
theorem dX0_unpacked_29 : decode cX0_unpacked 29 = .ok (.bipush 6, 2) := by decide +kernel
theorem dX0_unpacked_31 : decode cX0_unpacked 31 = .ok (.iload_n 2, 1) := by decide +kernel
theorem dX0_unpacked_32 : decode cX0_unpacked 32 = .ok (.imul, 1) := by decide +kernel
theorem dX0_unpacked_33 : decode cX0_unpacked 33 = .ok (.goto 4, 3) := by decide +kernel
theorem dX0_unpacked_36 : decode cX0_unpacked 36 = .ok (.iconst 0, 1) := by decide +kernel
theorem dX0_unpacked_37 : decode cX0_unpacked 37 = .ok (.iadd, 1) := by decide +kernel
theorem dX0_unpacked_38 : decode cX0_unpacked 38 = .ok (.bipush 15, 2) := by decide +kernel
theorem dX0_unpacked_40 : decode cX0_unpacked 40 = .ok (.iand, 1) := by decide +kernel
theorem dX0_unpacked_41 : decode cX0_unpacked 41 = .ok (.istore 4, 2) := by decide +kernel
theorem dX0_unpacked_43 : decode cX0_unpacked 43 = .ok (.iload_n 1, 1) := by decide +kernel
theorem dX0_unpacked_44 : decode cX0_unpacked 44 = .ok (.bipush 8, 2) := by decide +kernel
theorem dX0_unpacked_46 : decode cX0_unpacked 46 = .ok (.ishr, 1) := by decide +kernel
theorem dX0_unpacked_47 : decode cX0_unpacked 47 = .ok (.iload_n 3, 1) := by decide +kernel
theorem dX0_unpacked_48 : decode cX0_unpacked 48 = .ok (.ifCond .eq 7, 3) := by decide +kernel
theorem dX0_unpacked_51 : decode cX0_unpacked 51 = .ok (.iload_n 2, 1) := by decide +kernel
theorem dX0_unpacked_52 : decode cX0_unpacked 52 = .ok (.goto 4, 3) := by decide +kernel
theorem dX0_unpacked_55 : decode cX0_unpacked 55 = .ok (.iconst 0, 1) := by decide +kernel
theorem dX0_unpacked_56 : decode cX0_unpacked 56 = .ok (.iadd, 1) := by decide +kernel
theorem dX0_unpacked_57 : decode cX0_unpacked 57 = .ok (.sipush 255, 3) := by decide +kernel
theorem dX0_unpacked_60 : decode cX0_unpacked 60 = .ok (.iand, 1) := by decide +kernel
theorem dX0_unpacked_61 : decode cX0_unpacked 61 = .ok (.istore 5, 2) := by decide +kernel
theorem dX0_unpacked_63 : decode cX0_unpacked 63 = .ok (.aload_n 0, 1) := by decide +kernel
theorem dX0_unpacked_64 : decode cX0_unpacked 64 = .ok (.bipush 16, 2) := by decide +kernel
theorem dX0_unpacked_66 : decode cX0_unpacked 66 = .ok (.iload_n 3, 1) := by decide +kernel
theorem dX0_unpacked_67 : decode cX0_unpacked 67 = .ok (.invokevirtual 48, 3) := by decide +kernel
theorem dX0_unpacked_70 : decode cX0_unpacked 70 = .ok (.aload_n 0, 1) := by decide +kernel
theorem dX0_unpacked_71 : decode cX0_unpacked 71 = .ok (.iconst 1, 1) := by decide +kernel
theorem dX0_unpacked_72 : decode cX0_unpacked 72 = .ok (.iload_n 3, 1) := by decide +kernel
theorem dX0_unpacked_73 : decode cX0_unpacked 73 = .ok (.invokevirtual 48, 3) := by decide +kernel
theorem dX0_unpacked_76 : decode cX0_unpacked 76 = .ok (.iload 5, 2) := by decide +kernel
theorem dX0_unpacked_78 : decode cX0_unpacked 78 = .ok (.bipush 8, 2) := by decide +kernel
theorem dX0_unpacked_80 : decode cX0_unpacked 80 = .ok (.ishl, 1) := by decide +kernel
theorem dX0_unpacked_81 : decode cX0_unpacked 81 = .ok (.iload 4, 2) := by decide +kernel
theorem dX0_unpacked_83 : decode cX0_unpacked 83 = .ok (.ior, 1) := by decide +kernel
theorem dX0_unpacked_84 : decode cX0_unpacked 84 = .ok (.ireturn, 1) := by decide +kernel
theorem dX0_parts_0 : decode cX0_parts 0 = .ok (.iload_n 2, 1) := by decide +kernel
theorem dX0_parts_1 : decode cX0_parts 1 = .ok (.ifCond .ne 5, 3) := by decide +kernel
theorem dX0_parts_4 : decode cX0_parts 4 = .ok (.iload_n 1, 1) := by decide +kernel
theorem dX0_parts_5 : decode cX0_parts 5 = .ok (.ireturn, 1) := by decide +kernel
theorem dX0_parts_6 : decode cX0_parts 6 = .ok (.aload_n 0, 1) := by decide +kernel
theorem dX0_parts_7 : decode cX0_parts 7 = .ok (.iload_n 1, 1) := by decide +kernel
theorem dX0_parts_8 : decode cX0_parts 8 = .ok (.iload_n 2, 1) := by decide +kernel
theorem dX0_parts_9 : decode cX0_parts 9 = .ok (.irem, 1) := by decide +kernel
theorem dX0_parts_10 : decode cX0_parts 10 = .ok (.iconst 0, 1) := by decide +kernel
theorem dX0_parts_11 : decode cX0_parts 11 = .ok (.invokevirtual 45, 3) := by decide +kernel
theorem dX0_parts_14 : decode cX0_parts 14 = .ok (.pop, 1) := by decide +kernel
theorem dX0_parts_15 : decode cX0_parts 15 = .ok (.iload_n 1, 1) := by decide +kernel
theorem dX0_parts_16 : decode cX0_parts 16 = .ok (.iload_n 2, 1) := by decide +kernel
theorem dX0_parts_17 : decode cX0_parts 17 = .ok (.idiv, 1) := by decide +kernel
theorem dX0_parts_18 : decode cX0_parts 18 = .ok (.bipush 8, 2) := by decide +kernel
theorem dX0_parts_20 : decode cX0_parts 20 = .ok (.ishl, 1) := by decide +kernel
theorem dX0_parts_21 : decode cX0_parts 21 = .ok (.iload_n 1, 1) := by decide +kernel
theorem dX0_parts_22 : decode cX0_parts 22 = .ok (.iload_n 2, 1) := by decide +kernel
theorem dX0_parts_23 : decode cX0_parts 23 = .ok (.irem, 1) := by decide +kernel
theorem dX0_parts_24 : decode cX0_parts 24 = .ok (.ior, 1) := by decide +kernel
theorem dX0_parts_25 : decode cX0_parts 25 = .ok (.ireturn, 1) := by decide +kernel
theorem dX0_whole_0 : decode cX0_whole 0 = .ok (.iload_n 1, 1) := by decide +kernel
theorem dX0_whole_1 : decode cX0_whole 1 = .ok (.bipush 8, 2) := by decide +kernel
theorem dX0_whole_3 : decode cX0_whole 3 = .ok (.ishr, 1) := by decide +kernel
theorem dX0_whole_4 : decode cX0_whole 4 = .ok (.iload_n 2, 1) := by decide +kernel
theorem dX0_whole_5 : decode cX0_whole 5 = .ok (.imul, 1) := by decide +kernel
theorem dX0_whole_6 : decode cX0_whole 6 = .ok (.iload_n 1, 1) := by decide +kernel
theorem dX0_whole_7 : decode cX0_whole 7 = .ok (.iadd, 1) := by decide +kernel
theorem dX0_whole_8 : decode cX0_whole 8 = .ok (.sipush 255, 3) := by decide +kernel
theorem dX0_whole_11 : decode cX0_whole 11 = .ok (.iand, 1) := by decide +kernel
theorem dX0_whole_12 : decode cX0_whole 12 = .ok (.istore_n 3, 1) := by decide +kernel
theorem dX0_whole_13 : decode cX0_whole 13 = .ok (.aload_n 0, 1) := by decide +kernel
theorem dX0_whole_14 : decode cX0_whole 14 = .ok (.iload_n 3, 1) := by decide +kernel
theorem dX0_whole_15 : decode cX0_whole 15 = .ok (.iconst 0, 1) := by decide +kernel
theorem dX0_whole_16 : decode cX0_whole 16 = .ok (.invokevirtual 45, 3) := by decide +kernel
theorem dX0_whole_19 : decode cX0_whole 19 = .ok (.pop, 1) := by decide +kernel
theorem dX0_whole_20 : decode cX0_whole 20 = .ok (.iload_n 3, 1) := by decide +kernel
theorem dX0_whole_21 : decode cX0_whole 21 = .ok (.ireturn, 1) := by decide +kernel
theorem dX0_holds_0 : decode cX0_holds 0 = .ok (.iload_n 1, 1) := by decide +kernel
theorem dX0_holds_1 : decode cX0_holds 1 = .ok (.iconst 1, 1) := by decide +kernel
theorem dX0_holds_2 : decode cX0_holds 2 = .ok (.iand, 1) := by decide +kernel
theorem dX0_holds_3 : decode cX0_holds 3 = .ok (.ifCond .eq 7, 3) := by decide +kernel
theorem dX0_holds_6 : decode cX0_holds 6 = .ok (.iconst 1, 1) := by decide +kernel
theorem dX0_holds_7 : decode cX0_holds 7 = .ok (.goto 4, 3) := by decide +kernel
theorem dX0_holds_10 : decode cX0_holds 10 = .ok (.iconst 0, 1) := by decide +kernel
theorem dX0_holds_11 : decode cX0_holds 11 = .ok (.istore_n 2, 1) := by decide +kernel
theorem dX0_holds_12 : decode cX0_holds 12 = .ok (.aload_n 0, 1) := by decide +kernel
theorem dX0_holds_13 : decode cX0_holds 13 = .ok (.iload_n 1, 1) := by decide +kernel
theorem dX0_holds_14 : decode cX0_holds 14 = .ok (.iconst 1, 1) := by decide +kernel
theorem dX0_holds_15 : decode cX0_holds 15 = .ok (.ishr, 1) := by decide +kernel
theorem dX0_holds_16 : decode cX0_holds 16 = .ok (.invokevirtual 82, 3) := by decide +kernel
theorem dX0_holds_19 : decode cX0_holds 19 = .ok (.iload_n 2, 1) := by decide +kernel
theorem dX0_holds_20 : decode cX0_holds 20 = .ok (.if_icmp .eq 7, 3) := by decide +kernel
theorem dX0_holds_23 : decode cX0_holds 23 = .ok (.iconst 1, 1) := by decide +kernel
theorem dX0_holds_24 : decode cX0_holds 24 = .ok (.goto 4, 3) := by decide +kernel
theorem dX0_holds_27 : decode cX0_holds 27 = .ok (.iconst 0, 1) := by decide +kernel
theorem dX0_holds_28 : decode cX0_holds 28 = .ok (.ireturn, 1) := by decide +kernel
theorem dX0_pairHolds_0 : decode cX0_pairHolds 0 = .ok (.aload_n 0, 1) := by decide +kernel
theorem dX0_pairHolds_1 : decode cX0_pairHolds 1 = .ok (.sipush 128, 3) := by decide +kernel
theorem dX0_pairHolds_4 : decode cX0_pairHolds 4 = .ok (.invokevirtual 64, 3) := by decide +kernel
theorem dX0_pairHolds_7 : decode cX0_pairHolds 7 = .ok (.aload_n 0, 1) := by decide +kernel
theorem dX0_pairHolds_8 : decode cX0_pairHolds 8 = .ok (.sipush 2048, 3) := by decide +kernel
theorem dX0_pairHolds_11 : decode cX0_pairHolds 11 = .ok (.invokevirtual 64, 3) := by decide +kernel
theorem dX0_pairHolds_14 : decode cX0_pairHolds 14 = .ok (.if_icmp .eq 7, 3) := by decide +kernel
theorem dX0_pairHolds_17 : decode cX0_pairHolds 17 = .ok (.iconst 1, 1) := by decide +kernel
theorem dX0_pairHolds_18 : decode cX0_pairHolds 18 = .ok (.goto 4, 3) := by decide +kernel
theorem dX0_pairHolds_21 : decode cX0_pairHolds 21 = .ok (.iconst 0, 1) := by decide +kernel
theorem dX0_pairHolds_22 : decode cX0_pairHolds 22 = .ok (.istore_n 2, 1) := by decide +kernel
theorem dX0_pairHolds_23 : decode cX0_pairHolds 23 = .ok (.iload_n 1, 1) := by decide +kernel
theorem dX0_pairHolds_24 : decode cX0_pairHolds 24 = .ok (.tableswitch 104 0 6 #[44, 52, 58, 65, 88, 96, 102], 44) := by decide +kernel
theorem dX0_pairHolds_68 : decode cX0_pairHolds 68 = .ok (.aload_n 0, 1) := by decide +kernel
theorem dX0_pairHolds_69 : decode cX0_pairHolds 69 = .ok (.sipush 2048, 3) := by decide +kernel
theorem dX0_pairHolds_72 : decode cX0_pairHolds 72 = .ok (.invokevirtual 64, 3) := by decide +kernel
theorem dX0_pairHolds_75 : decode cX0_pairHolds 75 = .ok (.ireturn, 1) := by decide +kernel
theorem dX0_pairHolds_76 : decode cX0_pairHolds 76 = .ok (.aload_n 0, 1) := by decide +kernel
theorem dX0_pairHolds_77 : decode cX0_pairHolds 77 = .ok (.iconst 1, 1) := by decide +kernel
theorem dX0_pairHolds_78 : decode cX0_pairHolds 78 = .ok (.invokevirtual 64, 3) := by decide +kernel
theorem dX0_pairHolds_81 : decode cX0_pairHolds 81 = .ok (.ireturn, 1) := by decide +kernel
theorem dX0_pairHolds_82 : decode cX0_pairHolds 82 = .ok (.aload_n 0, 1) := by decide +kernel
theorem dX0_pairHolds_83 : decode cX0_pairHolds 83 = .ok (.bipush 64, 2) := by decide +kernel
theorem dX0_pairHolds_85 : decode cX0_pairHolds 85 = .ok (.invokevirtual 64, 3) := by decide +kernel
theorem dX0_pairHolds_88 : decode cX0_pairHolds 88 = .ok (.ireturn, 1) := by decide +kernel
theorem dX0_pairHolds_89 : decode cX0_pairHolds 89 = .ok (.aload_n 0, 1) := by decide +kernel
theorem dX0_pairHolds_90 : decode cX0_pairHolds 90 = .ok (.iconst 1, 1) := by decide +kernel
theorem dX0_pairHolds_91 : decode cX0_pairHolds 91 = .ok (.invokevirtual 64, 3) := by decide +kernel
theorem dX0_pairHolds_94 : decode cX0_pairHolds 94 = .ok (.ifCond .ne 12, 3) := by decide +kernel
theorem dX0_pairHolds_97 : decode cX0_pairHolds 97 = .ok (.aload_n 0, 1) := by decide +kernel
theorem dX0_pairHolds_98 : decode cX0_pairHolds 98 = .ok (.bipush 64, 2) := by decide +kernel
theorem dX0_pairHolds_100 : decode cX0_pairHolds 100 = .ok (.invokevirtual 64, 3) := by decide +kernel
theorem dX0_pairHolds_103 : decode cX0_pairHolds 103 = .ok (.ifCond .eq 7, 3) := by decide +kernel
theorem dX0_pairHolds_106 : decode cX0_pairHolds 106 = .ok (.iconst 1, 1) := by decide +kernel
theorem dX0_pairHolds_107 : decode cX0_pairHolds 107 = .ok (.goto 4, 3) := by decide +kernel
theorem dX0_pairHolds_110 : decode cX0_pairHolds 110 = .ok (.iconst 0, 1) := by decide +kernel
theorem dX0_pairHolds_111 : decode cX0_pairHolds 111 = .ok (.ireturn, 1) := by decide +kernel
theorem dX0_pairHolds_112 : decode cX0_pairHolds 112 = .ok (.aload_n 0, 1) := by decide +kernel
theorem dX0_pairHolds_113 : decode cX0_pairHolds 113 = .ok (.sipush 128, 3) := by decide +kernel
theorem dX0_pairHolds_116 : decode cX0_pairHolds 116 = .ok (.invokevirtual 64, 3) := by decide +kernel
theorem dX0_pairHolds_119 : decode cX0_pairHolds 119 = .ok (.ireturn, 1) := by decide +kernel
theorem dX0_pairHolds_120 : decode cX0_pairHolds 120 = .ok (.aload_n 0, 1) := by decide +kernel
theorem dX0_pairHolds_121 : decode cX0_pairHolds 121 = .ok (.iconst 4, 1) := by decide +kernel
theorem dX0_pairHolds_122 : decode cX0_pairHolds 122 = .ok (.invokevirtual 64, 3) := by decide +kernel
theorem dX0_pairHolds_125 : decode cX0_pairHolds 125 = .ok (.ireturn, 1) := by decide +kernel
theorem dX0_pairHolds_126 : decode cX0_pairHolds 126 = .ok (.iload_n 2, 1) := by decide +kernel
theorem dX0_pairHolds_127 : decode cX0_pairHolds 127 = .ok (.ireturn, 1) := by decide +kernel
theorem dX0_pairHolds_128 : decode cX0_pairHolds 128 = .ok (.iload_n 2, 1) := by decide +kernel
theorem dX0_pairHolds_129 : decode cX0_pairHolds 129 = .ok (.ifCond .ne 12, 3) := by decide +kernel
theorem dX0_pairHolds_132 : decode cX0_pairHolds 132 = .ok (.aload_n 0, 1) := by decide +kernel
theorem dX0_pairHolds_133 : decode cX0_pairHolds 133 = .ok (.bipush 64, 2) := by decide +kernel
theorem dX0_pairHolds_135 : decode cX0_pairHolds 135 = .ok (.invokevirtual 64, 3) := by decide +kernel
theorem dX0_pairHolds_138 : decode cX0_pairHolds 138 = .ok (.ifCond .eq 7, 3) := by decide +kernel
theorem dX0_pairHolds_141 : decode cX0_pairHolds 141 = .ok (.iconst 1, 1) := by decide +kernel
theorem dX0_pairHolds_142 : decode cX0_pairHolds 142 = .ok (.goto 4, 3) := by decide +kernel
theorem dX0_pairHolds_145 : decode cX0_pairHolds 145 = .ok (.iconst 0, 1) := by decide +kernel
theorem dX0_pairHolds_146 : decode cX0_pairHolds 146 = .ok (.ireturn, 1) := by decide +kernel
