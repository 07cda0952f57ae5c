theorem dX6_operation_123 : decode cX6_operation 123 = .ok (.ireturn, 1) := by decide +kernel
theorem dX6_operation_124 : decode cX6_operation 124 = .ok (.aload_n 0, 1) := by decide +kernel
theorem dX6_operation_125 : decode cX6_operation 125 = .ok (.iload_n 2, 1) := by decide +kernel
theorem dX6_operation_126 : decode cX6_operation 126 = .ok (.iload_n 3, 1) := by decide +kernel
theorem dX6_operation_127 : decode cX6_operation 127 = .ok (.iconst 0, 1) := by decide +kernel
theorem dX6_operation_128 : decode cX6_operation 128 = .ok (.iload 4, 2) := by decide +kernel
theorem dX6_operation_130 : decode cX6_operation 130 = .ok (.invokevirtual 91, 3) := by decide +kernel
theorem dX6_operation_133 : decode cX6_operation 133 = .ok (.ireturn, 1) := by decide +kernel
theorem dX6_operation_134 : decode cX6_operation 134 = .ok (.aload_n 0, 1) := by decide +kernel
theorem dX6_operation_135 : decode cX6_operation 135 = .ok (.iload_n 2, 1) := by decide +kernel
theorem dX6_operation_136 : decode cX6_operation 136 = .ok (.iload_n 3, 1) := by decide +kernel
theorem dX6_operation_137 : decode cX6_operation 137 = .ok (.ixor, 1) := by decide +kernel
theorem dX6_operation_138 : decode cX6_operation 138 = .ok (.iload 4, 2) := by decide +kernel
theorem dX6_operation_140 : decode cX6_operation 140 = .ok (.invokevirtual 88, 3) := by decide +kernel
theorem dX6_operation_143 : decode cX6_operation 143 = .ok (.ireturn, 1) := by decide +kernel
theorem dX6_operation_144 : decode cX6_operation 144 = .ok (.aload_n 0, 1) := by decide +kernel
theorem dX6_operation_145 : decode cX6_operation 145 = .ok (.iload_n 2, 1) := by decide +kernel
theorem dX6_operation_146 : decode cX6_operation 146 = .ok (.iload_n 3, 1) := by decide +kernel
theorem dX6_operation_147 : decode cX6_operation 147 = .ok (.iconst 0, 1) := by decide +kernel
theorem dX6_operation_148 : decode cX6_operation 148 = .ok (.iload 4, 2) := by decide +kernel
theorem dX6_operation_150 : decode cX6_operation 150 = .ok (.invokevirtual 91, 3) := by decide +kernel
theorem dX6_operation_153 : decode cX6_operation 153 = .ok (.istore 6, 2) := by decide +kernel
theorem dX6_operation_155 : decode cX6_operation 155 = .ok (.iload_n 2, 1) := by decide +kernel
theorem dX6_operation_156 : decode cX6_operation 156 = .ok (.ireturn, 1) := by decide +kernel
theorem dX6_operation_157 : decode cX6_operation 157 = .ok (.aload_n 0, 1) := by decide +kernel
theorem dX6_operation_158 : decode cX6_operation 158 = .ok (.iload_n 2, 1) := by decide +kernel
theorem dX6_operation_159 : decode cX6_operation 159 = .ok (.iload_n 3, 1) := by decide +kernel
theorem dX6_operation_160 : decode cX6_operation 160 = .ok (.iand, 1) := by decide +kernel
theorem dX6_operation_161 : decode cX6_operation 161 = .ok (.iload 4, 2) := by decide +kernel
theorem dX6_operation_163 : decode cX6_operation 163 = .ok (.invokevirtual 88, 3) := by decide +kernel
theorem dX6_operation_166 : decode cX6_operation 166 = .ok (.istore 6, 2) := by decide +kernel
theorem dX6_operation_168 : decode cX6_operation 168 = .ok (.iload_n 2, 1) := by decide +kernel
theorem dX6_operation_169 : decode cX6_operation 169 = .ok (.ireturn, 1) := by decide +kernel
theorem dX6_operation_170 : decode cX6_operation 170 = .ok (.aload_n 0, 1) := by decide +kernel
theorem dX6_operation_171 : decode cX6_operation 171 = .ok (.iload_n 2, 1) := by decide +kernel
theorem dX6_operation_172 : decode cX6_operation 172 = .ok (.iconst 1, 1) := by decide +kernel
theorem dX6_operation_173 : decode cX6_operation 173 = .ok (.iconst 0, 1) := by decide +kernel
theorem dX6_operation_174 : decode cX6_operation 174 = .ok (.iload 4, 2) := by decide +kernel
theorem dX6_operation_176 : decode cX6_operation 176 = .ok (.invokevirtual 84, 3) := by decide +kernel
theorem dX6_operation_179 : decode cX6_operation 179 = .ok (.istore 6, 2) := by decide +kernel
theorem dX6_operation_181 : decode cX6_operation 181 = .ok (.aload_n 0, 1) := by decide +kernel
theorem dX6_operation_182 : decode cX6_operation 182 = .ok (.iconst 1, 1) := by decide +kernel
theorem dX6_operation_183 : decode cX6_operation 183 = .ok (.iload 5, 2) := by decide +kernel
theorem dX6_operation_185 : decode cX6_operation 185 = .ok (.ifCond .le 7, 3) := by decide +kernel
theorem dX6_operation_188 : decode cX6_operation 188 = .ok (.iconst 1, 1) := by decide +kernel
theorem dX6_operation_189 : decode cX6_operation 189 = .ok (.goto 4, 3) := by decide +kernel
theorem dX6_operation_192 : decode cX6_operation 192 = .ok (.iconst 0, 1) := by decide +kernel
theorem dX6_operation_193 : decode cX6_operation 193 = .ok (.invokevirtual 73, 3) := by decide +kernel
theorem dX6_operation_196 : decode cX6_operation 196 = .ok (.iload 6, 2) := by decide +kernel
theorem dX6_operation_198 : decode cX6_operation 198 = .ok (.ireturn, 1) := by decide +kernel
theorem dX6_operation_199 : decode cX6_operation 199 = .ok (.aload_n 0, 1) := by decide +kernel
theorem dX6_operation_200 : decode cX6_operation 200 = .ok (.iload_n 2, 1) := by decide +kernel
theorem dX6_operation_201 : decode cX6_operation 201 = .ok (.iconst 1, 1) := by decide +kernel
theorem dX6_operation_202 : decode cX6_operation 202 = .ok (.iconst 0, 1) := by decide +kernel
theorem dX6_operation_203 : decode cX6_operation 203 = .ok (.iload 4, 2) := by decide +kernel
theorem dX6_operation_205 : decode cX6_operation 205 = .ok (.invokevirtual 91, 3) := by decide +kernel
theorem dX6_operation_208 : decode cX6_operation 208 = .ok (.istore 6, 2) := by decide +kernel
theorem dX6_operation_210 : decode cX6_operation 210 = .ok (.aload_n 0, 1) := by decide +kernel
theorem dX6_operation_211 : decode cX6_operation 211 = .ok (.iconst 1, 1) := by decide +kernel
theorem dX6_operation_212 : decode cX6_operation 212 = .ok (.iload 5, 2) := by decide +kernel
theorem dX6_operation_214 : decode cX6_operation 214 = .ok (.ifCond .le 7, 3) := by decide +kernel
theorem dX6_operation_217 : decode cX6_operation 217 = .ok (.iconst 1, 1) := by decide +kernel
theorem dX6_operation_218 : decode cX6_operation 218 = .ok (.goto 4, 3) := by decide +kernel
theorem dX6_operation_221 : decode cX6_operation 221 = .ok (.iconst 0, 1) := by decide +kernel
theorem dX6_operation_222 : decode cX6_operation 222 = .ok (.invokevirtual 73, 3) := by decide +kernel
theorem dX6_operation_225 : decode cX6_operation 225 = .ok (.iload 6, 2) := by decide +kernel
theorem dX6_operation_227 : decode cX6_operation 227 = .ok (.ireturn, 1) := by decide +kernel
theorem dX6_operation_228 : decode cX6_operation 228 = .ok (.aload_n 0, 1) := by decide +kernel
theorem dX6_operation_229 : decode cX6_operation 229 = .ok (.iconst 0, 1) := by decide +kernel
theorem dX6_operation_230 : decode cX6_operation 230 = .ok (.iload_n 2, 1) := by decide +kernel
theorem dX6_operation_231 : decode cX6_operation 231 = .ok (.iconst 0, 1) := by decide +kernel
theorem dX6_operation_232 : decode cX6_operation 232 = .ok (.iload 4, 2) := by decide +kernel
theorem dX6_operation_234 : decode cX6_operation 234 = .ok (.invokevirtual 91, 3) := by decide +kernel
theorem dX6_operation_237 : decode cX6_operation 237 = .ok (.ireturn, 1) := by decide +kernel
theorem dX6_operation_238 : decode cX6_operation 238 = .ok (.iload_n 2, 1) := by decide +kernel
theorem dX6_operation_239 : decode cX6_operation 239 = .ok (.iload 4, 2) := by decide +kernel
theorem dX6_operation_241 : decode cX6_operation 241 = .ok (.invokestatic 70, 3) := by decide +kernel
theorem dX6_operation_244 : decode cX6_operation 244 = .ok (.ixor, 1) := by decide +kernel
theorem dX6_operation_245 : decode cX6_operation 245 = .ok (.ireturn, 1) := by decide +kernel
set_option maxRecDepth 20000 in
theorem ggX6_shift_X6_top : GoodIn wsX6_shift wsX6_top := goodIn_r _ [5, 6] (by decide +kernel) (by decide +kernel)
set_option maxRecDepth 20000 in
theorem gX6_shift_X6_top : GoodIn wsX6_shift (va_wsS RX6 66 yX6_top wsX6_top) := goodIn_app (goodIn_of _ (by decide +kernel)) ggX6_shift_X6_top
set_option maxRecDepth 20000 in
theorem ggX6_shift_X6_all : GoodIn wsX6_shift wsX6_all := goodIn_r _ [9, 10] (by decide +kernel) (by decide +kernel)
set_option maxRecDepth 20000 in
theorem gX6_shift_X6_all : GoodIn wsX6_shift (va_wsS RX6 70 yX6_all wsX6_all) := goodIn_app (goodIn_of _ (by decide +kernel)) ggX6_shift_X6_all
set_option maxRecDepth 20000 in
theorem ggX6_shift_X6_mark : GoodIn wsX6_shift wsX6_mark := goodIn_r _ [14, 1, 19, 20, 21, 22, 23, 24, 25, 26, 27, 28, 29, 30, 31, 32, 33, 34, 35, 36, 37, 38, 39, 40, 41, 42, 43, 44, 45, 46, 47] (by decide +kernel) (by decide +kernel)
set_option maxRecDepth 20000 in
theorem gX6_shift_X6_mark : GoodIn wsX6_shift (wsV RX6 73 RX6 yX6_mark wsX6_mark) := goodIn_app (goodIn_of _ (by decide +kernel)) ggX6_shift_X6_mark
set_option maxRecDepth 20000 in
theorem ggX6_shift_X6_byAnswer : GoodIn wsX6_shift wsX6_byAnswer := goodIn_r _ [18, 11, 12, 13, 4, 14, 1, 2, 3, 5, 6, 19, 20, 21, 22, 23, 24, 25, 26, 27, 28, 29, 30, 31, 32, 33, 34, 35, 36, 37, 38, 39, 40, 41, 42, 43, 44, 45, 46, 47] (by decide +kernel) (by decide +kernel)
set_option maxRecDepth 20000 in
theorem gX6_shift_X6_byAnswer : GoodIn wsX6_shift (wsV RX6 81 RX6 yX6_byAnswer wsX6_byAnswer) := goodIn_app (goodIn_of _ (by decide +kernel)) ggX6_shift_X6_byAnswer
theorem dX6_shift_0 : decode cX6_shift 0 = .ok (.iload_n 3, 1) := by decide +kernel
theorem dX6_shift_1 : decode cX6_shift 1 = .ok (.invokestatic 66, 3) := by decide +kernel
theorem dX6_shift_4 : decode cX6_shift 4 = .ok (.istore 4, 2) := by decide +kernel
theorem dX6_shift_6 : decode cX6_shift 6 = .ok (.iload_n 3, 1) := by decide +kernel
theorem dX6_shift_7 : decode cX6_shift 7 = .ok (.invokestatic 70, 3) := by decide +kernel
theorem dX6_shift_10 : decode cX6_shift 10 = .ok (.istore 5, 2) := by decide +kernel
theorem dX6_shift_12 : decode cX6_shift 12 = .ok (.iload_n 1, 1) := by decide +kernel
theorem dX6_shift_13 : decode cX6_shift 13 = .ok (.ifCond .eq 19, 3) := by decide +kernel
theorem dX6_shift_16 : decode cX6_shift 16 = .ok (.iload_n 1, 1) := by decide +kernel
theorem dX6_shift_17 : decode cX6_shift 17 = .ok (.iconst 2, 1) := by decide +kernel
theorem dX6_shift_18 : decode cX6_shift 18 = .ok (.if_icmp .eq 14, 3) := by decide +kernel
theorem dX6_shift_21 : decode cX6_shift 21 = .ok (.iload_n 1, 1) := by decide +kernel
theorem dX6_shift_22 : decode cX6_shift 22 = .ok (.iconst 4, 1) := by decide +kernel
theorem dX6_shift_23 : decode cX6_shift 23 = .ok (.if_icmp .eq 9, 3) := by decide +kernel
theorem dX6_shift_26 : decode cX6_shift 26 = .ok (.iload_n 1, 1) := by decide +kernel
theorem dX6_shift_27 : decode cX6_shift 27 = .ok (.bipush 6, 2) := by decide +kernel
theorem dX6_shift_29 : decode cX6_shift 29 = .ok (.if_icmp .ne 7, 3) := by decide +kernel
theorem dX6_shift_32 : decode cX6_shift 32 = .ok (.iconst 1, 1) := by decide +kernel
theorem dX6_shift_33 : decode cX6_shift 33 = .ok (.goto 4, 3) := by decide +kernel
theorem dX6_shift_36 : decode cX6_shift 36 = .ok (.iconst 0, 1) := by decide +kernel
theorem dX6_shift_37 : decode cX6_shift 37 = .ok (.istore 6, 2) := by decide +kernel
theorem dX6_shift_39 : decode cX6_shift 39 = .ok (.iload 6, 2) := by decide +kernel
theorem dX6_shift_41 : decode cX6_shift 41 = .ok (.ifCond .eq 10, 3) := by decide +kernel
theorem dX6_shift_44 : decode cX6_shift 44 = .ok (.iload_n 2, 1) := by decide +kernel
theorem dX6_shift_45 : decode cX6_shift 45 = .ok (.iload 4, 2) := by decide +kernel
theorem dX6_shift_47 : decode cX6_shift 47 = .ok (.idiv, 1) := by decide +kernel
theorem dX6_shift_48 : decode cX6_shift 48 = .ok (.goto 6, 3) := by decide +kernel
theorem dX6_shift_51 : decode cX6_shift 51 = .ok (.iload_n 2, 1) := by decide +kernel
theorem dX6_shift_52 : decode cX6_shift 52 = .ok (.iconst 1, 1) := by decide +kernel
theorem dX6_shift_53 : decode cX6_shift 53 = .ok (.iand, 1) := by decide +kernel
theorem dX6_shift_54 : decode cX6_shift 54 = .ok (.istore 7, 2) := by decide +kernel
theorem dX6_shift_56 : decode cX6_shift 56 = .ok (.aload_n 0, 1) := by decide +kernel
theorem dX6_shift_57 : decode cX6_shift 57 = .ok (.getfield 54, 3) := by decide +kernel
theorem dX6_shift_60 : decode cX6_shift 60 = .ok (.iconst 1, 1) := by decide +kernel
theorem dX6_shift_61 : decode cX6_shift 61 = .ok (.iand, 1) := by decide +kernel
theorem dX6_shift_62 : decode cX6_shift 62 = .ok (.istore 8, 2) := by decide +kernel
theorem dX6_shift_64 : decode cX6_shift 64 = .ok (.iload_n 1, 1) := by decide +kernel
theorem dX6_shift_65 : decode cX6_shift 65 = .ok (.iconst 2, 1) := by decide +kernel
theorem dX6_shift_66 : decode cX6_shift 66 = .ok (.if_icmp .ge 8, 3) := by decide +kernel
theorem dX6_shift_69 : decode cX6_shift 69 = .ok (.iload 7, 2) := by decide +kernel
theorem dX6_shift_71 : decode cX6_shift 71 = .ok (.goto 27, 3) := by decide +kernel
theorem dX6_shift_74 : decode cX6_shift 74 = .ok (.iload_n 1, 1) := by decide +kernel
theorem dX6_shift_75 : decode cX6_shift 75 = .ok (.iconst 4, 1) := by decide +kernel
theorem dX6_shift_76 : decode cX6_shift 76 = .ok (.if_icmp .ge 8, 3) := by decide +kernel
theorem dX6_shift_79 : decode cX6_shift 79 = .ok (.iload 8, 2) := by decide +kernel
theorem dX6_shift_81 : decode cX6_shift 81 = .ok (.goto 17, 3) := by decide +kernel
theorem dX6_shift_84 : decode cX6_shift 84 = .ok (.iload_n 1, 1) := by decide +kernel
theorem dX6_shift_85 : decode cX6_shift 85 = .ok (.bipush 7, 2) := by decide +kernel
theorem dX6_shift_87 : decode cX6_shift 87 = .ok (.if_icmp .ne 10, 3) := by decide +kernel
theorem dX6_shift_90 : decode cX6_shift 90 = .ok (.iload_n 2, 1) := by decide +kernel
theorem dX6_shift_91 : decode cX6_shift 91 = .ok (.iload 4, 2) := by decide +kernel
theorem dX6_shift_93 : decode cX6_shift 93 = .ok (.idiv, 1) := by decide +kernel
theorem dX6_shift_94 : decode cX6_shift 94 = .ok (.goto 4, 3) := by decide +kernel
theorem dX6_shift_97 : decode cX6_shift 97 = .ok (.iconst 0, 1) := by decide +kernel
theorem dX6_shift_98 : decode cX6_shift 98 = .ok (.istore 9, 2) := by decide +kernel
theorem dX6_shift_100 : decode cX6_shift 100 = .ok (.iload 6, 2) := by decide +kernel
theorem dX6_shift_102 : decode cX6_shift 102 = .ok (.ifCond .eq 15, 3) := by decide +kernel
theorem dX6_shift_105 : decode cX6_shift 105 = .ok (.iconst 2, 1) := by decide +kernel
theorem dX6_shift_106 : decode cX6_shift 106 = .ok (.iload_n 2, 1) := by decide +kernel
theorem dX6_shift_107 : decode cX6_shift 107 = .ok (.imul, 1) := by decide +kernel
theorem dX6_shift_108 : decode cX6_shift 108 = .ok (.iload 9, 2) := by decide +kernel
theorem dX6_shift_110 : decode cX6_shift 110 = .ok (.iadd, 1) := by decide +kernel
theorem dX6_shift_111 : decode cX6_shift 111 = .ok (.iload 5, 2) := by decide +kernel
theorem dX6_shift_113 : decode cX6_shift 113 = .ok (.iand, 1) := by decide +kernel
theorem dX6_shift_114 : decode cX6_shift 114 = .ok (.goto 12, 3) := by decide +kernel
theorem dX6_shift_117 : decode cX6_shift 117 = .ok (.iload_n 2, 1) := by decide +kernel
theorem dX6_shift_118 : decode cX6_shift 118 = .ok (.iconst 2, 1) := by decide +kernel
theorem dX6_shift_119 : decode cX6_shift 119 = .ok (.idiv, 1) := by decide +kernel
theorem dX6_shift_120 : decode cX6_shift 120 = .ok (.iload 9, 2) := by decide +kernel
theorem dX6_shift_122 : decode cX6_shift 122 = .ok (.iload 4, 2) := by decide +kernel
theorem dX6_shift_124 : decode cX6_shift 124 = .ok (.imul, 1) := by decide +kernel
theorem dX6_shift_125 : decode cX6_shift 125 = .ok (.iadd, 1) := by decide +kernel
theorem dX6_shift_126 : decode cX6_shift 126 = .ok (.istore 10, 2) := by decide +kernel
theorem dX6_shift_128 : decode cX6_shift 128 = .ok (.aload_n 0, 1) := by decide +kernel
theorem dX6_shift_129 : decode cX6_shift 129 = .ok (.iconst 1, 1) := by decide +kernel
theorem dX6_shift_130 : decode cX6_shift 130 = .ok (.iload 7, 2) := by decide +kernel
theorem dX6_shift_132 : decode cX6_shift 132 = .ok (.iconst 1, 1) := by decide +kernel
theorem dX6_shift_133 : decode cX6_shift 133 = .ok (.if_icmp .ne 7, 3) := by decide +kernel
theorem dX6_shift_136 : decode cX6_shift 136 = .ok (.iconst 1, 1) := by decide +kernel
theorem dX6_shift_137 : decode cX6_shift 137 = .ok (.goto 4, 3) := by decide +kernel
theorem dX6_shift_140 : decode cX6_shift 140 = .ok (.iconst 0, 1) := by decide +kernel
theorem dX6_shift_141 : decode cX6_shift 141 = .ok (.invokevirtual 73, 3) := by decide +kernel
theorem dX6_shift_144 : decode cX6_shift 144 = .ok (.iload 10, 2) := by decide +kernel
theorem dX6_shift_146 : decode cX6_shift 146 = .ok (.iload 4, 2) := by decide +kernel
theorem dX6_shift_148 : decode cX6_shift 148 = .ok (.idiv, 1) := by decide +kernel
theorem dX6_shift_149 : decode cX6_shift 149 = .ok (.iconst 1, 1) := by decide +kernel
theorem dX6_shift_150 : decode cX6_shift 150 = .ok (.if_icmp .ne 7, 3) := by decide +kernel
theorem dX6_shift_153 : decode cX6_shift 153 = .ok (.iconst 1, 1) := by decide +kernel
theorem dX6_shift_154 : decode cX6_shift 154 = .ok (.goto 4, 3) := by decide +kernel
theorem dX6_shift_157 : decode cX6_shift 157 = .ok (.iconst 0, 1) := by decide +kernel
theorem dX6_shift_158 : decode cX6_shift 158 = .ok (.istore 11, 2) := by decide +kernel
theorem dX6_shift_160 : decode cX6_shift 160 = .ok (.iload 10, 2) := by decide +kernel
theorem dX6_shift_162 : decode cX6_shift 162 = .ok (.iload 4, 2) := by decide +kernel
theorem dX6_shift_164 : decode cX6_shift 164 = .ok (.iconst 2, 1) := by decide +kernel
theorem dX6_shift_165 : decode cX6_shift 165 = .ok (.idiv, 1) := by decide +kernel
theorem dX6_shift_166 : decode cX6_shift 166 = .ok (.iand, 1) := by decide +kernel
theorem dX6_shift_167 : decode cX6_shift 167 = .ok (.ifCond .eq 7, 3) := by decide +kernel
theorem dX6_shift_170 : decode cX6_shift 170 = .ok (.iconst 1, 1) := by decide +kernel
theorem dX6_shift_171 : decode cX6_shift 171 = .ok (.goto 4, 3) := by decide +kernel
theorem dX6_shift_174 : decode cX6_shift 174 = .ok (.iconst 0, 1) := by decide +kernel
theorem dX6_shift_175 : decode cX6_shift 175 = .ok (.istore 12, 2) := by decide +kernel
theorem dX6_shift_177 : decode cX6_shift 177 = .ok (.aload_n 0, 1) := by decide +kernel
theorem dX6_shift_178 : decode cX6_shift 178 = .ok (.sipush 2048, 3) := by decide +kernel
theorem dX6_shift_181 : decode cX6_shift 181 = .ok (.iload 6, 2) := by decide +kernel
theorem dX6_shift_183 : decode cX6_shift 183 = .ok (.ifCond .eq 27, 3) := by decide +kernel
theorem dX6_shift_186 : decode cX6_shift 186 = .ok (.iload 11, 2) := by decide +kernel
theorem dX6_shift_188 : decode cX6_shift 188 = .ok (.iload 7, 2) := by decide +kernel
theorem dX6_shift_190 : decode cX6_shift 190 = .ok (.iconst 1, 1) := by decide +kernel
theorem dX6_shift_191 : decode cX6_shift 191 = .ok (.if_icmp .ne 7, 3) := by decide +kernel
theorem dX6_shift_194 : decode cX6_shift 194 = .ok (.iconst 1, 1) := by decide +kernel
theorem dX6_shift_195 : decode cX6_shift 195 = .ok (.goto 4, 3) := by decide +kernel
theorem dX6_shift_198 : decode cX6_shift 198 = .ok (.iconst 0, 1) := by decide +kernel
theorem dX6_shift_199 : decode cX6_shift 199 = .ok (.if_icmp .eq 7, 3) := by decide +kernel
theorem dX6_shift_202 : decode cX6_shift 202 = .ok (.iconst 1, 1) := by decide +kernel
theorem dX6_shift_203 : decode cX6_shift 203 = .ok (.goto 50, 3) := by decide +kernel
theorem dX6_shift_206 : decode cX6_shift 206 = .ok (.iconst 0, 1) := by decide +kernel
theorem dX6_shift_207 : decode cX6_shift 207 = .ok (.goto 46, 3) := by decide +kernel
theorem dX6_shift_210 : decode cX6_shift 210 = .ok (.iload_n 1, 1) := by decide +kernel
theorem dX6_shift_211 : decode cX6_shift 211 = .ok (.iconst 1, 1) := by decide +kernel
theorem dX6_shift_212 : decode cX6_shift 212 = .ok (.if_icmp .eq 8, 3) := by decide +kernel
theorem dX6_shift_215 : decode cX6_shift 215 = .ok (.iload_n 1, 1) := by decide +kernel
theorem dX6_shift_216 : decode cX6_shift 216 = .ok (.iconst 3, 1) := by decide +kernel
theorem dX6_shift_217 : decode cX6_shift 217 = .ok (.if_icmp .ne 18, 3) := by decide +kernel
theorem dX6_shift_220 : decode cX6_shift 220 = .ok (.iload 11, 2) := by decide +kernel
theorem dX6_shift_222 : decode cX6_shift 222 = .ok (.iload 12, 2) := by decide +kernel
theorem dX6_shift_224 : decode cX6_shift 224 = .ok (.if_icmp .eq 7, 3) := by decide +kernel
theorem dX6_shift_227 : decode cX6_shift 227 = .ok (.iconst 1, 1) := by decide +kernel
theorem dX6_shift_228 : decode cX6_shift 228 = .ok (.goto 25, 3) := by decide +kernel
theorem dX6_shift_231 : decode cX6_shift 231 = .ok (.iconst 0, 1) := by decide +kernel
theorem dX6_shift_232 : decode cX6_shift 232 = .ok (.goto 21, 3) := by decide +kernel
theorem dX6_shift_235 : decode cX6_shift 235 = .ok (.iload_n 1, 1) := by decide +kernel
theorem dX6_shift_236 : decode cX6_shift 236 = .ok (.iconst 5, 1) := by decide +kernel
theorem dX6_shift_237 : decode cX6_shift 237 = .ok (.if_icmp .ne 15, 3) := by decide +kernel
theorem dX6_shift_240 : decode cX6_shift 240 = .ok (.iload_n 2, 1) := by decide +kernel
theorem dX6_shift_241 : decode cX6_shift 241 = .ok (.iload 4, 2) := by decide +kernel
theorem dX6_shift_243 : decode cX6_shift 243 = .ok (.idiv, 1) := by decide +kernel
theorem dX6_shift_244 : decode cX6_shift 244 = .ok (.iconst 1, 1) := by decide +kernel
theorem dX6_shift_245 : decode cX6_shift 245 = .ok (.if_icmp .ne 7, 3) := by decide +kernel
theorem dX6_shift_248 : decode cX6_shift 248 = .ok (.iconst 1, 1) := by decide +kernel
theorem dX6_shift_249 : decode cX6_shift 249 = .ok (.goto 4, 3) := by decide +kernel
theorem dX6_shift_252 : decode cX6_shift 252 = .ok (.iconst 0, 1) := by decide +kernel
theorem dX6_shift_253 : decode cX6_shift 253 = .ok (.invokevirtual 73, 3) := by decide +kernel
theorem dX6_shift_256 : decode cX6_shift 256 = .ok (.iload_n 1, 1) := by decide +kernel
theorem dX6_shift_257 : decode cX6_shift 257 = .ok (.iconst 3, 1) := by decide +kernel
theorem dX6_shift_258 : decode cX6_shift 258 = .ok (.if_icmp .le 10, 3) := by decide +kernel
theorem dX6_shift_261 : decode cX6_shift 261 = .ok (.aload_n 0, 1) := by decide +kernel
theorem dX6_shift_262 : decode cX6_shift 262 = .ok (.iload 10, 2) := by decide +kernel
theorem dX6_shift_264 : decode cX6_shift 264 = .ok (.iload_n 3, 1) := by decide +kernel
theorem dX6_shift_265 : decode cX6_shift 265 = .ok (.invokevirtual 81, 3) := by decide +kernel
theorem dX6_shift_268 : decode cX6_shift 268 = .ok (.iload 10, 2) := by decide +kernel
theorem dX6_shift_270 : decode cX6_shift 270 = .ok (.ireturn, 1) := by decide +kernel
set_option maxRecDepth 20000 in
theorem ggX6_shifts_X6_shift : GoodIn wsX6_shifts wsX6_shift := goodIn_r _ [5, 6, 7, 8, 4, 9, 10, 11, 12, 13, 14, 15, 16, 17, 18, 19, 20, 21, 22, 23, 24, 25, 26, 27, 28, 29, 30, 31, 32, 33, 34, 35, 36, 37, 38, 39, 40, 41, 42, 43, 44, 45, 46, 47, 48, 49, 50, 51] (by decide +kernel) (by decide +kernel)
set_option maxRecDepth 20000 in
theorem gX6_shifts_X6_shift : GoodIn wsX6_shifts (wsV RX6 94 RX6 yX6_shift wsX6_shift) := goodIn_app (goodIn_of _ (by decide +kernel)) ggX6_shifts_X6_shift
theorem dX6_shifts_0 : decode cX6_shifts 0 = .ok (.iload_n 2, 1) := by decide +kernel
theorem dX6_shifts_1 : decode cX6_shifts 1 = .ok (.istore 5, 2) := by decide +kernel
theorem dX6_shifts_3 : decode cX6_shifts 3 = .ok (.iconst 0, 1) := by decide +kernel
theorem dX6_shifts_4 : decode cX6_shifts 4 = .ok (.istore 6, 2) := by decide +kernel
theorem dX6_shifts_6 : decode cX6_shifts 6 = .ok (.iload 6, 2) := by decide +kernel
theorem dX6_shifts_8 : decode cX6_shifts 8 = .ok (.iload_n 3, 1) := by decide +kernel
theorem dX6_shifts_9 : decode cX6_shifts 9 = .ok (.if_icmp .ge 20, 3) := by decide +kernel
theorem dX6_shifts_12 : decode cX6_shifts 12 = .ok (.aload_n 0, 1) := by decide +kernel
theorem dX6_shifts_13 : decode cX6_shifts 13 = .ok (.iload_n 1, 1) := by decide +kernel
theorem dX6_shifts_14 : decode cX6_shifts 14 = .ok (.iload 5, 2) := by decide +kernel
theorem dX6_shifts_16 : decode cX6_shifts 16 = .ok (.iload 4, 2) := by decide +kernel
theorem dX6_shifts_18 : decode cX6_shifts 18 = .ok (.invokevirtual 94, 3) := by decide +kernel
theorem dX6_shifts_21 : decode cX6_shifts 21 = .ok (.istore 5, 2) := by decide +kernel
theorem dX6_shifts_23 : decode cX6_shifts 23 = .ok (.iinc 6 1, 3) := by decide +kernel
theorem dX6_shifts_26 : decode cX6_shifts 26 = .ok (.goto (-20), 3) := by decide +kernel
theorem dX6_shifts_29 : decode cX6_shifts 29 = .ok (.iload 5, 2) := by decide +kernel
theorem dX6_shifts_31 : decode cX6_shifts 31 = .ok (.ireturn, 1) := by decide +kernel
set_option maxRecDepth 20000 in
theorem ggX6_adjustDecimal_X6_has : GoodIn wsX6_adjustDecimal wsX6_has := goodIn_r _ [6, 7, 26, 27, 28, 29, 30, 31, 32, 33, 34, 35, 36, 37, 38, 39, 40, 41, 42, 43, 44, 45, 46, 47, 48, 49, 50, 51, 52, 53, 54] (by decide +kernel) (by decide +kernel)
set_option maxRecDepth 20000 in
theorem gX6_adjustDecimal_X6_has : GoodIn wsX6_adjustDecimal (wsV RX6 97 RX6 yX6_has wsX6_has) := goodIn_app (goodIn_of _ (by decide +kernel)) ggX6_adjustDecimal_X6_has
set_option maxRecDepth 20000 in
theorem ggX6_adjustDecimal_X6_mark : GoodIn wsX6_adjustDecimal wsX6_mark := goodIn_r _ [11, 7, 26, 27, 28, 29, 30, 31, 32, 33, 34, 35, 36, 37, 38, 39, 40, 41, 42, 43, 44, 45, 46, 47, 48, 49, 50, 51, 52, 53, 54] (by decide +kernel) (by decide +kernel)
set_option maxRecDepth 20000 in
theorem gX6_adjustDecimal_X6_mark : GoodIn wsX6_adjustDecimal (wsV RX6 73 RX6 yX6_mark wsX6_mark) := goodIn_app (goodIn_of _ (by decide +kernel)) ggX6_adjustDecimal_X6_mark
set_option maxRecDepth 20000 in
theorem ggX6_adjustDecimal_X6_setRegister : GoodIn wsX6_adjustDecimal wsX6_setRegister := goodIn_r _ [15, 1, 16, 17, 26, 27, 28, 29, 30, 31, 32, 33, 34, 35, 36, 37, 38, 39, 40, 41, 42, 43, 44, 45, 46, 47, 48, 49, 50, 51, 52, 53, 54] (by decide +kernel) (by decide +kernel)
set_option maxRecDepth 20000 in
theorem gX6_adjustDecimal_X6_setRegister : GoodIn wsX6_adjustDecimal (wsV RX6 101 RX6 yX6_setRegister wsX6_setRegister) := goodIn_app (goodIn_of _ (by decide +kernel)) ggX6_adjustDecimal_X6_setRegister
set_option maxRecDepth 20000 in
theorem ggX6_adjustDecimal_X6_byAnswer : GoodIn wsX6_adjustDecimal wsX6_byAnswer := goodIn_r _ [21, 8, 9, 10, 5, 11, 7, 22, 23, 24, 25, 26, 27, 28, 29, 30, 31, 32, 33, 34, 35, 36, 37, 38, 39, 40, 41, 42, 43, 44, 45, 46, 47, 48, 49, 50, 51, 52, 53, 54] (by decide +kernel) (by decide +kernel)
set_option maxRecDepth 20000 in
theorem gX6_adjustDecimal_X6_byAnswer : GoodIn wsX6_adjustDecimal (wsV RX6 81 RX6 yX6_byAnswer wsX6_byAnswer) := goodIn_app (goodIn_of _ (by decide +kernel)) ggX6_adjustDecimal_X6_byAnswer
theorem dX6_adjustDecimal_0 : decode cX6_adjustDecimal 0 = .ok (.aload_n 0, 1) := by decide +kernel
theorem dX6_adjustDecimal_1 : decode cX6_adjustDecimal 1 = .ok (.getfield 7, 3) := by decide +kernel
theorem dX6_adjustDecimal_4 : decode cX6_adjustDecimal 4 = .ok (.iconst 0, 1) := by decide +kernel
theorem dX6_adjustDecimal_5 : decode cX6_adjustDecimal 5 = .ok (.iaload, 1) := by decide +kernel
theorem dX6_adjustDecimal_6 : decode cX6_adjustDecimal 6 = .ok (.sipush 255, 3) := by decide +kernel
theorem dX6_adjustDecimal_9 : decode cX6_adjustDecimal 9 = .ok (.iand, 1) := by decide +kernel
theorem dX6_adjustDecimal_10 : decode cX6_adjustDecimal 10 = .ok (.istore_n 2, 1) := by decide +kernel
theorem dX6_adjustDecimal_11 : decode cX6_adjustDecimal 11 = .ok (.iload_n 2, 1) := by decide +kernel
theorem dX6_adjustDecimal_12 : decode cX6_adjustDecimal 12 = .ok (.bipush 15, 2) := by decide +kernel
theorem dX6_adjustDecimal_14 : decode cX6_adjustDecimal 14 = .ok (.iand, 1) := by decide +kernel
theorem dX6_adjustDecimal_15 : decode cX6_adjustDecimal 15 = .ok (.bipush 9, 2) := by decide +kernel
theorem dX6_adjustDecimal_17 : decode cX6_adjustDecimal 17 = .ok (.if_icmp .gt 12, 3) := by decide +kernel
theorem dX6_adjustDecimal_20 : decode cX6_adjustDecimal 20 = .ok (.aload_n 0, 1) := by decide +kernel
theorem dX6_adjustDecimal_21 : decode cX6_adjustDecimal 21 = .ok (.bipush 16, 2) := by decide +kernel
theorem dX6_adjustDecimal_23 : decode cX6_adjustDecimal 23 = .ok (.invokevirtual 97, 3) := by decide +kernel
theorem dX6_adjustDecimal_26 : decode cX6_adjustDecimal 26 = .ok (.ifCond .eq 7, 3) := by decide +kernel
theorem dX6_adjustDecimal_29 : decode cX6_adjustDecimal 29 = .ok (.iconst 1, 1) := by decide +kernel
theorem dX6_adjustDecimal_30 : decode cX6_adjustDecimal 30 = .ok (.goto 4, 3) := by decide +kernel
theorem dX6_adjustDecimal_33 : decode cX6_adjustDecimal 33 = .ok (.iconst 0, 1) := by decide +kernel
theorem dX6_adjustDecimal_34 : decode cX6_adjustDecimal 34 = .ok (.istore_n 3, 1) := by decide +kernel
theorem dX6_adjustDecimal_35 : decode cX6_adjustDecimal 35 = .ok (.iload_n 2, 1) := by decide +kernel
theorem dX6_adjustDecimal_36 : decode cX6_adjustDecimal 36 = .ok (.sipush 153, 3) := by decide +kernel
theorem dX6_adjustDecimal_39 : decode cX6_adjustDecimal 39 = .ok (.if_icmp .gt 11, 3) := by decide +kernel
theorem dX6_adjustDecimal_42 : decode cX6_adjustDecimal 42 = .ok (.aload_n 0, 1) := by decide +kernel
theorem dX6_adjustDecimal_43 : decode cX6_adjustDecimal 43 = .ok (.iconst 1, 1) := by decide +kernel
theorem dX6_adjustDecimal_44 : decode cX6_adjustDecimal 44 = .ok (.invokevirtual 97, 3) := by decide +kernel
theorem dX6_adjustDecimal_47 : decode cX6_adjustDecimal 47 = .ok (.ifCond .eq 7, 3) := by decide +kernel
theorem dX6_adjustDecimal_50 : decode cX6_adjustDecimal 50 = .ok (.iconst 1, 1) := by decide +kernel
theorem dX6_adjustDecimal_51 : decode cX6_adjustDecimal 51 = .ok (.goto 4, 3) := by decide +kernel
theorem dX6_adjustDecimal_54 : decode cX6_adjustDecimal 54 = .ok (.iconst 0, 1) := by decide +kernel
theorem dX6_adjustDecimal_55 : decode cX6_adjustDecimal 55 = .ok (.istore 4, 2) := by decide +kernel
theorem dX6_adjustDecimal_57 : decode cX6_adjustDecimal 57 = .ok (.iload_n 3, 1) := by decide +kernel
theorem dX6_adjustDecimal_58 : decode cX6_adjustDecimal 58 = .ok (.ifCond .eq 8, 3) := by decide +kernel
theorem dX6_adjustDecimal_61 : decode cX6_adjustDecimal 61 = .ok (.bipush 6, 2) := by decide +kernel
theorem dX6_adjustDecimal_63 : decode cX6_adjustDecimal 63 = .ok (.goto 4, 3) := by decide +kernel
theorem dX6_adjustDecimal_66 : decode cX6_adjustDecimal 66 = .ok (.iconst 0, 1) := by decide +kernel
theorem dX6_adjustDecimal_67 : decode cX6_adjustDecimal 67 = .ok (.iload 4, 2) := by decide +kernel
theorem dX6_adjustDecimal_69 : decode cX6_adjustDecimal 69 = .ok (.ifCond .eq 8, 3) := by decide +kernel
theorem dX6_adjustDecimal_72 : decode cX6_adjustDecimal 72 = .ok (.bipush 96, 2) := by decide +kernel
theorem dX6_adjustDecimal_74 : decode cX6_adjustDecimal 74 = .ok (.goto 4, 3) := by decide +kernel
theorem dX6_adjustDecimal_77 : decode cX6_adjustDecimal 77 = .ok (.iconst 0, 1) := by decide +kernel
theorem dX6_adjustDecimal_78 : decode cX6_adjustDecimal 78 = .ok (.iadd, 1) := by decide +kernel
theorem dX6_adjustDecimal_79 : decode cX6_adjustDecimal 79 = .ok (.istore 5, 2) := by decide +kernel
theorem dX6_adjustDecimal_81 : decode cX6_adjustDecimal 81 = .ok (.iload_n 1, 1) := by decide +kernel
theorem dX6_adjustDecimal_82 : decode cX6_adjustDecimal 82 = .ok (.ifCond .eq 14, 3) := by decide +kernel
theorem dX6_adjustDecimal_85 : decode cX6_adjustDecimal 85 = .ok (.iload_n 2, 1) := by decide +kernel
theorem dX6_adjustDecimal_86 : decode cX6_adjustDecimal 86 = .ok (.iload 5, 2) := by decide +kernel
theorem dX6_adjustDecimal_88 : decode cX6_adjustDecimal 88 = .ok (.isub, 1) := by decide +kernel
theorem dX6_adjustDecimal_89 : decode cX6_adjustDecimal 89 = .ok (.sipush 255, 3) := by decide +kernel
theorem dX6_adjustDecimal_92 : decode cX6_adjustDecimal 92 = .ok (.iand, 1) := by decide +kernel
theorem dX6_adjustDecimal_93 : decode cX6_adjustDecimal 93 = .ok (.goto 11, 3) := by decide +kernel
theorem dX6_adjustDecimal_96 : decode cX6_adjustDecimal 96 = .ok (.iload_n 2, 1) := by decide +kernel
theorem dX6_adjustDecimal_97 : decode cX6_adjustDecimal 97 = .ok (.iload 5, 2) := by decide +kernel
theorem dX6_adjustDecimal_99 : decode cX6_adjustDecimal 99 = .ok (.iadd, 1) := by decide +kernel
theorem dX6_adjustDecimal_100 : decode cX6_adjustDecimal 100 = .ok (.sipush 255, 3) := by decide +kernel
theorem dX6_adjustDecimal_103 : decode cX6_adjustDecimal 103 = .ok (.iand, 1) := by decide +kernel
theorem dX6_adjustDecimal_104 : decode cX6_adjustDecimal 104 = .ok (.istore 6, 2) := by decide +kernel
theorem dX6_adjustDecimal_106 : decode cX6_adjustDecimal 106 = .ok (.aload_n 0, 1) := by decide +kernel
theorem dX6_adjustDecimal_107 : decode cX6_adjustDecimal 107 = .ok (.bipush 16, 2) := by decide +kernel
theorem dX6_adjustDecimal_109 : decode cX6_adjustDecimal 109 = .ok (.iload_n 3, 1) := by decide +kernel
theorem dX6_adjustDecimal_110 : decode cX6_adjustDecimal 110 = .ok (.invokevirtual 73, 3) := by decide +kernel
theorem dX6_adjustDecimal_113 : decode cX6_adjustDecimal 113 = .ok (.aload_n 0, 1) := by decide +kernel
theorem dX6_adjustDecimal_114 : decode cX6_adjustDecimal 114 = .ok (.iconst 1, 1) := by decide +kernel
theorem dX6_adjustDecimal_115 : decode cX6_adjustDecimal 115 = .ok (.iload 4, 2) := by decide +kernel
theorem dX6_adjustDecimal_117 : decode cX6_adjustDecimal 117 = .ok (.ifCond .ne 17, 3) := by decide +kernel
theorem dX6_adjustDecimal_120 : decode cX6_adjustDecimal 120 = .ok (.iload_n 1, 1) := by decide +kernel
theorem dX6_adjustDecimal_121 : decode cX6_adjustDecimal 121 = .ok (.ifCond .eq 17, 3) := by decide +kernel
theorem dX6_adjustDecimal_124 : decode cX6_adjustDecimal 124 = .ok (.iload_n 3, 1) := by decide +kernel
theorem dX6_adjustDecimal_125 : decode cX6_adjustDecimal 125 = .ok (.ifCond .eq 13, 3) := by decide +kernel
theorem dX6_adjustDecimal_128 : decode cX6_adjustDecimal 128 = .ok (.iload_n 2, 1) := by decide +kernel
theorem dX6_adjustDecimal_129 : decode cX6_adjustDecimal 129 = .ok (.bipush 6, 2) := by decide +kernel
theorem dX6_adjustDecimal_131 : decode cX6_adjustDecimal 131 = .ok (.if_icmp .ge 7, 3) := by decide +kernel
theorem dX6_adjustDecimal_134 : decode cX6_adjustDecimal 134 = .ok (.iconst 1, 1) := by decide +kernel
theorem dX6_adjustDecimal_135 : decode cX6_adjustDecimal 135 = .ok (.goto 4, 3) := by decide +kernel
theorem dX6_adjustDecimal_138 : decode cX6_adjustDecimal 138 = .ok (.iconst 0, 1) := by decide +kernel
theorem dX6_adjustDecimal_139 : decode cX6_adjustDecimal 139 = .ok (.invokevirtual 73, 3) := by decide +kernel
theorem dX6_adjustDecimal_142 : decode cX6_adjustDecimal 142 = .ok (.aload_n 0, 1) := by decide +kernel
theorem dX6_adjustDecimal_143 : decode cX6_adjustDecimal 143 = .ok (.iconst 0, 1) := by decide +kernel
theorem dX6_adjustDecimal_144 : decode cX6_adjustDecimal 144 = .ok (.iconst 0, 1) := by decide +kernel
theorem dX6_adjustDecimal_145 : decode cX6_adjustDecimal 145 = .ok (.iload 6, 2) := by decide +kernel
theorem dX6_adjustDecimal_147 : decode cX6_adjustDecimal 147 = .ok (.invokevirtual 101, 3) := by decide +kernel
theorem dX6_adjustDecimal_150 : decode cX6_adjustDecimal 150 = .ok (.aload_n 0, 1) := by decide +kernel
theorem dX6_adjustDecimal_151 : decode cX6_adjustDecimal 151 = .ok (.iload 6, 2) := by decide +kernel
theorem dX6_adjustDecimal_153 : decode cX6_adjustDecimal 153 = .ok (.iconst 0, 1) := by decide +kernel
theorem dX6_adjustDecimal_154 : decode cX6_adjustDecimal 154 = .ok (.invokevirtual 81, 3) := by decide +kernel
theorem dX6_adjustDecimal_157 : decode cX6_adjustDecimal 157 = .ok (.return_, 1) := by decide +kernel
set_option maxRecDepth 20000 in
theorem ggX6_adjustDigit_X6_has : GoodIn wsX6_adjustDigit wsX6_has := goodIn_r _ [6, 7, 12, 13, 14, 15, 16, 17, 18, 19, 20, 21, 22, 23, 24, 25, 26, 27, 28, 29, 30, 31, 32, 33, 34, 35, 36, 37, 38, 39, 40] (by decide +kernel) (by decide +kernel)
set_option maxRecDepth 20000 in
theorem gX6_adjustDigit_X6_has : GoodIn wsX6_adjustDigit (wsV RX6 97 RX6 yX6_has wsX6_has) := goodIn_app (goodIn_of _ (by decide +kernel)) ggX6_adjustDigit_X6_has
set_option maxRecDepth 20000 in
theorem ggX6_adjustDigit_X6_mark : GoodIn wsX6_adjustDigit wsX6_mark := goodIn_r _ [11, 7, 12, 13, 14, 15, 16, 17, 18, 19, 20, 21, 22, 23, 24, 25, 26, 27, 28, 29, 30, 31, 32, 33, 34, 35, 36, 37, 38, 39, 40] (by decide +kernel) (by decide +kernel)
set_option maxRecDepth 20000 in
theorem gX6_adjustDigit_X6_mark : GoodIn wsX6_adjustDigit (wsV RX6 73 RX6 yX6_mark wsX6_mark) := goodIn_app (goodIn_of _ (by decide +kernel)) ggX6_adjustDigit_X6_mark
theorem dX6_adjustDigit_0 : decode cX6_adjustDigit 0 = .ok (.aload_n 0, 1) := by decide +kernel
theorem dX6_adjustDigit_1 : decode cX6_adjustDigit 1 = .ok (.getfield 7, 3) := by decide +kernel
theorem dX6_adjustDigit_4 : decode cX6_adjustDigit 4 = .ok (.iconst 0, 1) := by decide +kernel
theorem dX6_adjustDigit_5 : decode cX6_adjustDigit 5 = .ok (.iaload, 1) := by decide +kernel
theorem dX6_adjustDigit_6 : decode cX6_adjustDigit 6 = .ok (.sipush 255, 3) := by decide +kernel
theorem dX6_adjustDigit_9 : decode cX6_adjustDigit 9 = .ok (.iand, 1) := by decide +kernel
theorem dX6_adjustDigit_10 : decode cX6_adjustDigit 10 = .ok (.istore_n 2, 1) := by decide +kernel
theorem dX6_adjustDigit_11 : decode cX6_adjustDigit 11 = .ok (.aload_n 0, 1) := by decide +kernel
theorem dX6_adjustDigit_12 : decode cX6_adjustDigit 12 = .ok (.getfield 7, 3) := by decide +kernel
theorem dX6_adjustDigit_15 : decode cX6_adjustDigit 15 = .ok (.iconst 0, 1) := by decide +kernel
theorem dX6_adjustDigit_16 : decode cX6_adjustDigit 16 = .ok (.iaload, 1) := by decide +kernel
theorem dX6_adjustDigit_17 : decode cX6_adjustDigit 17 = .ok (.bipush 8, 2) := by decide +kernel
theorem dX6_adjustDigit_19 : decode cX6_adjustDigit 19 = .ok (.ishr, 1) := by decide +kernel
theorem dX6_adjustDigit_20 : decode cX6_adjustDigit 20 = .ok (.istore_n 3, 1) := by decide +kernel
theorem dX6_adjustDigit_21 : decode cX6_adjustDigit 21 = .ok (.iload_n 2, 1) := by decide +kernel
theorem dX6_adjustDigit_22 : decode cX6_adjustDigit 22 = .ok (.bipush 15, 2) := by decide +kernel
theorem dX6_adjustDigit_24 : decode cX6_adjustDigit 24 = .ok (.iand, 1) := by decide +kernel
theorem dX6_adjustDigit_25 : decode cX6_adjustDigit 25 = .ok (.bipush 9, 2) := by decide +kernel
theorem dX6_adjustDigit_27 : decode cX6_adjustDigit 27 = .ok (.if_icmp .gt 12, 3) := by decide +kernel
theorem dX6_adjustDigit_30 : decode cX6_adjustDigit 30 = .ok (.aload_n 0, 1) := by decide +kernel
theorem dX6_adjustDigit_31 : decode cX6_adjustDigit 31 = .ok (.bipush 16, 2) := by decide +kernel
theorem dX6_adjustDigit_33 : decode cX6_adjustDigit 33 = .ok (.invokevirtual 97, 3) := by decide +kernel
theorem dX6_adjustDigit_36 : decode cX6_adjustDigit 36 = .ok (.ifCond .eq 7, 3) := by decide +kernel
theorem dX6_adjustDigit_39 : decode cX6_adjustDigit 39 = .ok (.iconst 1, 1) := by decide +kernel
theorem dX6_adjustDigit_40 : decode cX6_adjustDigit 40 = .ok (.goto 4, 3) := by decide +kernel
theorem dX6_adjustDigit_43 : decode cX6_adjustDigit 43 = .ok (.iconst 0, 1) := by decide +kernel
theorem dX6_adjustDigit_44 : decode cX6_adjustDigit 44 = .ok (.istore 4, 2) := by decide +kernel
theorem dX6_adjustDigit_46 : decode cX6_adjustDigit 46 = .ok (.iload 4, 2) := by decide +kernel
theorem dX6_adjustDigit_48 : decode cX6_adjustDigit 48 = .ok (.ifCond .eq 33, 3) := by decide +kernel
theorem dX6_adjustDigit_51 : decode cX6_adjustDigit 51 = .ok (.iload_n 1, 1) := by decide +kernel
theorem dX6_adjustDigit_52 : decode cX6_adjustDigit 52 = .ok (.ifCond .eq 10, 3) := by decide +kernel
theorem dX6_adjustDigit_55 : decode cX6_adjustDigit 55 = .ok (.iload_n 2, 1) := by decide +kernel
theorem dX6_adjustDigit_56 : decode cX6_adjustDigit 56 = .ok (.bipush 6, 2) := by decide +kernel
theorem dX6_adjustDigit_58 : decode cX6_adjustDigit 58 = .ok (.isub, 1) := by decide +kernel
theorem dX6_adjustDigit_59 : decode cX6_adjustDigit 59 = .ok (.goto 7, 3) := by decide +kernel
theorem dX6_adjustDigit_62 : decode cX6_adjustDigit 62 = .ok (.iload_n 2, 1) := by decide +kernel
theorem dX6_adjustDigit_63 : decode cX6_adjustDigit 63 = .ok (.bipush 6, 2) := by decide +kernel
theorem dX6_adjustDigit_65 : decode cX6_adjustDigit 65 = .ok (.iadd, 1) := by decide +kernel
theorem dX6_adjustDigit_66 : decode cX6_adjustDigit 66 = .ok (.istore_n 2, 1) := by decide +kernel
theorem dX6_adjustDigit_67 : decode cX6_adjustDigit 67 = .ok (.iload_n 1, 1) := by decide +kernel
theorem dX6_adjustDigit_68 : decode cX6_adjustDigit 68 = .ok (.ifCond .eq 9, 3) := by decide +kernel
theorem dX6_adjustDigit_71 : decode cX6_adjustDigit 71 = .ok (.iload_n 3, 1) := by decide +kernel
theorem dX6_adjustDigit_72 : decode cX6_adjustDigit 72 = .ok (.iconst 1, 1) := by decide +kernel
theorem dX6_adjustDigit_73 : decode cX6_adjustDigit 73 = .ok (.isub, 1) := by decide +kernel
theorem dX6_adjustDigit_74 : decode cX6_adjustDigit 74 = .ok (.goto 6, 3) := by decide +kernel
theorem dX6_adjustDigit_77 : decode cX6_adjustDigit 77 = .ok (.iload_n 3, 1) := by decide +kernel
theorem dX6_adjustDigit_78 : decode cX6_adjustDigit 78 = .ok (.iconst 1, 1) := by decide +kernel
theorem dX6_adjustDigit_79 : decode cX6_adjustDigit 79 = .ok (.iadd, 1) := by decide +kernel
theorem dX6_adjustDigit_80 : decode cX6_adjustDigit 80 = .ok (.istore_n 3, 1) := by decide +kernel
theorem dX6_adjustDigit_81 : decode cX6_adjustDigit 81 = .ok (.aload_n 0, 1) := by decide +kernel
theorem dX6_adjustDigit_82 : decode cX6_adjustDigit 82 = .ok (.bipush 16, 2) := by decide +kernel
theorem dX6_adjustDigit_84 : decode cX6_adjustDigit 84 = .ok (.iload 4, 2) := by decide +kernel
theorem dX6_adjustDigit_86 : decode cX6_adjustDigit 86 = .ok (.invokevirtual 73, 3) := by decide +kernel
theorem dX6_adjustDigit_89 : decode cX6_adjustDigit 89 = .ok (.aload_n 0, 1) := by decide +kernel
theorem dX6_adjustDigit_90 : decode cX6_adjustDigit 90 = .ok (.iconst 1, 1) := by decide +kernel
theorem dX6_adjustDigit_91 : decode cX6_adjustDigit 91 = .ok (.iload 4, 2) := by decide +kernel
theorem dX6_adjustDigit_93 : decode cX6_adjustDigit 93 = .ok (.invokevirtual 73, 3) := by decide +kernel
theorem dX6_adjustDigit_96 : decode cX6_adjustDigit 96 = .ok (.aload_n 0, 1) := by decide +kernel
theorem dX6_adjustDigit_97 : decode cX6_adjustDigit 97 = .ok (.getfield 7, 3) := by decide +kernel
theorem dX6_adjustDigit_100 : decode cX6_adjustDigit 100 = .ok (.iconst 0, 1) := by decide +kernel
theorem dX6_adjustDigit_101 : decode cX6_adjustDigit 101 = .ok (.iload_n 2, 1) := by decide +kernel
theorem dX6_adjustDigit_102 : decode cX6_adjustDigit 102 = .ok (.bipush 15, 2) := by decide +kernel
theorem dX6_adjustDigit_104 : decode cX6_adjustDigit 104 = .ok (.iand, 1) := by decide +kernel
theorem dX6_adjustDigit_105 : decode cX6_adjustDigit 105 = .ok (.iload_n 3, 1) := by decide +kernel
theorem dX6_adjustDigit_106 : decode cX6_adjustDigit 106 = .ok (.sipush 255, 3) := by decide +kernel
theorem dX6_adjustDigit_109 : decode cX6_adjustDigit 109 = .ok (.iand, 1) := by decide +kernel
theorem dX6_adjustDigit_110 : decode cX6_adjustDigit 110 = .ok (.bipush 8, 2) := by decide +kernel
theorem dX6_adjustDigit_112 : decode cX6_adjustDigit 112 = .ok (.ishl, 1) := by decide +kernel
theorem dX6_adjustDigit_113 : decode cX6_adjustDigit 113 = .ok (.ior, 1) := by decide +kernel
theorem dX6_adjustDigit_114 : decode cX6_adjustDigit 114 = .ok (.iastore, 1) := by decide +kernel
theorem dX6_adjustDigit_115 : decode cX6_adjustDigit 115 = .ok (.return_, 1) := by decide +kernel
set_option maxRecDepth 20000 in
theorem ggX6_product_X6_register : GoodIn wsX6_product wsX6_register := goodIn_r _ [7, 1, 23, 24, 25, 26, 27, 28, 29, 30, 31, 32, 33, 34, 35, 36, 37, 38, 39, 40, 41, 42, 43, 44, 45, 46, 47, 48, 49, 50, 51] (by decide +kernel) (by decide +kernel)
set_option maxRecDepth 20000 in
theorem gX6_product_X6_register : GoodIn wsX6_product (wsV RX6 105 RX6 yX6_register wsX6_register) := goodIn_app (goodIn_of _ (by decide +kernel)) ggX6_product_X6_register
set_option maxRecDepth 20000 in
theorem ggX6_product_X6_signed : GoodIn wsX6_product wsX6_signed := goodIn_r _ [10, 11, 12, 6, 13, 14, 15, 16, 17, 2] (by decide +kernel) (by decide +kernel)
set_option maxRecDepth 20000 in
theorem gX6_product_X6_signed : GoodIn wsX6_product (va_wsS RX6 77 yX6_signed wsX6_signed) := goodIn_app (goodIn_of _ (by decide +kernel)) ggX6_product_X6_signed
set_option maxRecDepth 20000 in
theorem ggX6_product_X6_all : GoodIn wsX6_product wsX6_all := goodIn_r _ [17, 2] (by decide +kernel) (by decide +kernel)
set_option maxRecDepth 20000 in
theorem gX6_product_X6_all : GoodIn wsX6_product (va_wsS RX6 70 yX6_all wsX6_all) := goodIn_app (goodIn_of _ (by decide +kernel)) ggX6_product_X6_all
set_option maxRecDepth 20000 in
theorem ggX6_product_X6_mark : GoodIn wsX6_product wsX6_mark := goodIn_r _ [21, 22, 23, 24, 25, 26, 27, 28, 29, 30, 31, 32, 33, 34, 35, 36, 37, 38, 39, 40, 41, 42, 43, 44, 45, 46, 47, 48, 49, 50, 51] (by decide +kernel) (by decide +kernel)
set_option maxRecDepth 20000 in
theorem gX6_product_X6_mark : GoodIn wsX6_product (wsV RX6 73 RX6 yX6_mark wsX6_mark) := goodIn_app (goodIn_of _ (by decide +kernel)) ggX6_product_X6_mark
theorem dX6_product_0 : decode cX6_product 0 = .ok (.aload_n 0, 1) := by decide +kernel
theorem dX6_product_1 : decode cX6_product 1 = .ok (.iconst 0, 1) := by decide +kernel
theorem dX6_product_2 : decode cX6_product 2 = .ok (.iload_n 3, 1) := by decide +kernel
theorem dX6_product_3 : decode cX6_product 3 = .ok (.invokevirtual 105, 3) := by decide +kernel
theorem dX6_product_6 : decode cX6_product 6 = .ok (.istore 4, 2) := by decide +kernel
theorem dX6_product_8 : decode cX6_product 8 = .ok (.iload_n 2, 1) := by decide +kernel
theorem dX6_product_9 : decode cX6_product 9 = .ok (.ifCond .eq 13, 3) := by decide +kernel
theorem dX6_product_12 : decode cX6_product 12 = .ok (.iload 4, 2) := by decide +kernel
theorem dX6_product_14 : decode cX6_product 14 = .ok (.iload_n 3, 1) := by decide +kernel
theorem dX6_product_15 : decode cX6_product 15 = .ok (.invokestatic 77, 3) := by decide +kernel
theorem dX6_product_18 : decode cX6_product 18 = .ok (.i2l, 1) := by decide +kernel
theorem dX6_product_19 : decode cX6_product 19 = .ok (.goto 6, 3) := by decide +kernel
theorem dX6_product_22 : decode cX6_product 22 = .ok (.iload 4, 2) := by decide +kernel
theorem dX6_product_24 : decode cX6_product 24 = .ok (.i2l, 1) := by decide +kernel
theorem dX6_product_25 : decode cX6_product 25 = .ok (.lstore 5, 2) := by decide +kernel
theorem dX6_product_27 : decode cX6_product 27 = .ok (.iload_n 2, 1) := by decide +kernel
theorem dX6_product_28 : decode cX6_product 28 = .ok (.ifCond .eq 12, 3) := by decide +kernel
theorem dX6_product_31 : decode cX6_product 31 = .ok (.iload_n 1, 1) := by decide +kernel
theorem dX6_product_32 : decode cX6_product 32 = .ok (.iload_n 3, 1) := by decide +kernel
theorem dX6_product_33 : decode cX6_product 33 = .ok (.invokestatic 77, 3) := by decide +kernel
theorem dX6_product_36 : decode cX6_product 36 = .ok (.i2l, 1) := by decide +kernel
theorem dX6_product_37 : decode cX6_product 37 = .ok (.goto 5, 3) := by decide +kernel
theorem dX6_product_40 : decode cX6_product 40 = .ok (.iload_n 1, 1) := by decide +kernel
theorem dX6_product_41 : decode cX6_product 41 = .ok (.i2l, 1) := by decide +kernel
theorem dX6_product_42 : decode cX6_product 42 = .ok (.lstore 7, 2) := by decide +kernel
theorem dX6_product_44 : decode cX6_product 44 = .ok (.lload 5, 2) := by decide +kernel
theorem dX6_product_46 : decode cX6_product 46 = .ok (.lload 7, 2) := by decide +kernel
theorem dX6_product_48 : decode cX6_product 48 = .ok (.lmul, 1) := by decide +kernel
theorem dX6_product_49 : decode cX6_product 49 = .ok (.lstore 9, 2) := by decide +kernel
theorem dX6_product_51 : decode cX6_product 51 = .ok (.lload 9, 2) := by decide +kernel
theorem dX6_product_53 : decode cX6_product 53 = .ok (.l2i, 1) := by decide +kernel
theorem dX6_product_54 : decode cX6_product 54 = .ok (.iload_n 3, 1) := by decide +kernel
theorem dX6_product_55 : decode cX6_product 55 = .ok (.invokestatic 70, 3) := by decide +kernel
theorem dX6_product_58 : decode cX6_product 58 = .ok (.iand, 1) := by decide +kernel
theorem dX6_product_59 : decode cX6_product 59 = .ok (.istore 11, 2) := by decide +kernel
theorem dX6_product_61 : decode cX6_product 61 = .ok (.iload_n 2, 1) := by decide +kernel
theorem dX6_product_62 : decode cX6_product 62 = .ok (.ifCond .eq 13, 3) := by decide +kernel
theorem dX6_product_65 : decode cX6_product 65 = .ok (.iload 11, 2) := by decide +kernel
theorem dX6_product_67 : decode cX6_product 67 = .ok (.iload_n 3, 1) := by decide +kernel
theorem dX6_product_68 : decode cX6_product 68 = .ok (.invokestatic 77, 3) := by decide +kernel
theorem dX6_product_71 : decode cX6_product 71 = .ok (.i2l, 1) := by decide +kernel
theorem dX6_product_72 : decode cX6_product 72 = .ok (.goto 6, 3) := by decide +kernel
theorem dX6_product_75 : decode cX6_product 75 = .ok (.iload 11, 2) := by decide +kernel
theorem dX6_product_77 : decode cX6_product 77 = .ok (.i2l, 1) := by decide +kernel
theorem dX6_product_78 : decode cX6_product 78 = .ok (.lstore 12, 2) := by decide +kernel
theorem dX6_product_80 : decode cX6_product 80 = .ok (.aload_n 0, 1) := by decide +kernel
theorem dX6_product_81 : decode cX6_product 81 = .ok (.iconst 1, 1) := by decide +kernel
theorem dX6_product_82 : decode cX6_product 82 = .ok (.lload 9, 2) := by decide +kernel
theorem dX6_product_84 : decode cX6_product 84 = .ok (.lload 12, 2) := by decide +kernel
theorem dX6_product_86 : decode cX6_product 86 = .ok (.lcmp, 1) := by decide +kernel
theorem dX6_product_87 : decode cX6_product 87 = .ok (.ifCond .eq 7, 3) := by decide +kernel
theorem dX6_product_90 : decode cX6_product 90 = .ok (.iconst 1, 1) := by decide +kernel
theorem dX6_product_91 : decode cX6_product 91 = .ok (.goto 4, 3) := by decide +kernel
theorem dX6_product_94 : decode cX6_product 94 = .ok (.iconst 0, 1) := by decide +kernel
theorem dX6_product_95 : decode cX6_product 95 = .ok (.invokevirtual 73, 3) := by decide +kernel
theorem dX6_product_98 : decode cX6_product 98 = .ok (.aload_n 0, 1) := by decide +kernel
theorem dX6_product_99 : decode cX6_product 99 = .ok (.sipush 2048, 3) := by decide +kernel
theorem dX6_product_102 : decode cX6_product 102 = .ok (.lload 9, 2) := by decide +kernel
theorem dX6_product_104 : decode cX6_product 104 = .ok (.lload 12, 2) := by decide +kernel
theorem dX6_product_106 : decode cX6_product 106 = .ok (.lcmp, 1) := by decide +kernel
theorem dX6_product_107 : decode cX6_product 107 = .ok (.ifCond .eq 7, 3) := by decide +kernel
theorem dX6_product_110 : decode cX6_product 110 = .ok (.iconst 1, 1) := by decide +kernel
theorem dX6_product_111 : decode cX6_product 111 = .ok (.goto 4, 3) := by decide +kernel
theorem dX6_product_114 : decode cX6_product 114 = .ok (.iconst 0, 1) := by decide +kernel
theorem dX6_product_115 : decode cX6_product 115 = .ok (.invokevirtual 73, 3) := by decide +kernel
theorem dX6_product_118 : decode cX6_product 118 = .ok (.iload_n 3, 1) := by decide +kernel
theorem dX6_product_119 : decode cX6_product 119 = .ok (.ifCond .eq 29, 3) := by decide +kernel
theorem dX6_product_122 : decode cX6_product 122 = .ok (.aload_n 0, 1) := by decide +kernel
theorem dX6_product_123 : decode cX6_product 123 = .ok (.getfield 7, 3) := by decide +kernel
theorem dX6_product_126 : decode cX6_product 126 = .ok (.iconst 0, 1) := by decide +kernel
theorem dX6_product_127 : decode cX6_product 127 = .ok (.iload 11, 2) := by decide +kernel
theorem dX6_product_129 : decode cX6_product 129 = .ok (.iastore, 1) := by decide +kernel
theorem dX6_product_130 : decode cX6_product 130 = .ok (.aload_n 0, 1) := by decide +kernel
theorem dX6_product_131 : decode cX6_product 131 = .ok (.getfield 7, 3) := by decide +kernel
theorem dX6_product_134 : decode cX6_product 134 = .ok (.iconst 2, 1) := by decide +kernel
theorem dX6_product_135 : decode cX6_product 135 = .ok (.lload 9, 2) := by decide +kernel
theorem dX6_product_137 : decode cX6_product 137 = .ok (.bipush 16, 2) := by decide +kernel
theorem dX6_product_139 : decode cX6_product 139 = .ok (.lshr, 1) := by decide +kernel
theorem dX6_product_140 : decode cX6_product 140 = .ok (.l2i, 1) := by decide +kernel
theorem dX6_product_141 : decode cX6_product 141 = .ok (.ldc 39, 2) := by decide +kernel
theorem dX6_product_143 : decode cX6_product 143 = .ok (.iand, 1) := by decide +kernel
theorem dX6_product_144 : decode cX6_product 144 = .ok (.iastore, 1) := by decide +kernel
theorem dX6_product_145 : decode cX6_product 145 = .ok (.goto 15, 3) := by decide +kernel
theorem dX6_product_148 : decode cX6_product 148 = .ok (.aload_n 0, 1) := by decide +kernel
theorem dX6_product_149 : decode cX6_product 149 = .ok (.getfield 7, 3) := by decide +kernel
theorem dX6_product_152 : decode cX6_product 152 = .ok (.iconst 0, 1) := by decide +kernel
theorem dX6_product_153 : decode cX6_product 153 = .ok (.lload 9, 2) := by decide +kernel
theorem dX6_product_155 : decode cX6_product 155 = .ok (.l2i, 1) := by decide +kernel
theorem dX6_product_156 : decode cX6_product 156 = .ok (.ldc 39, 2) := by decide +kernel
theorem dX6_product_158 : decode cX6_product 158 = .ok (.iand, 1) := by decide +kernel
theorem dX6_product_159 : decode cX6_product 159 = .ok (.iastore, 1) := by decide +kernel
theorem dX6_product_160 : decode cX6_product 160 = .ok (.return_, 1) := by decide +kernel
set_option maxRecDepth 20000 in
theorem ggX6_quotient_X6_signed : GoodIn wsX6_quotient wsX6_signed := goodIn_r _ [9, 10, 11, 8, 12, 13, 14, 15, 16, 5] (by decide +kernel) (by decide +kernel)
set_option maxRecDepth 20000 in
theorem gX6_quotient_X6_signed : GoodIn wsX6_quotient (va_wsS RX6 77 yX6_signed wsX6_signed) := goodIn_app (goodIn_of _ (by decide +kernel)) ggX6_quotient_X6_signed
set_option maxRecDepth 20000 in
theorem ggX6_quotient_X6_top : GoodIn wsX6_quotient wsX6_top := goodIn_r _ [12, 13] (by decide +kernel) (by decide +kernel)
set_option maxRecDepth 20000 in
theorem gX6_quotient_X6_top : GoodIn wsX6_quotient (va_wsS RX6 66 yX6_top wsX6_top) := goodIn_app (goodIn_of _ (by decide +kernel)) ggX6_quotient_X6_top
set_option maxRecDepth 20000 in
theorem ggX6_quotient_X6_all : GoodIn wsX6_quotient wsX6_all := goodIn_r _ [16, 5] (by decide +kernel) (by decide +kernel)
set_option maxRecDepth 20000 in
theorem gX6_quotient_X6_all : GoodIn wsX6_quotient (va_wsS RX6 70 yX6_all wsX6_all) := goodIn_app (goodIn_of _ (by decide +kernel)) ggX6_quotient_X6_all
theorem dX6_quotient_0 : decode cX6_quotient 0 = .ok (.iload_n 3, 1) := by decide +kernel
theorem dX6_quotient_1 : decode cX6_quotient 1 = .ok (.ifCond .eq 25, 3) := by decide +kernel
theorem dX6_quotient_4 : decode cX6_quotient 4 = .ok (.aload_n 0, 1) := by decide +kernel
theorem dX6_quotient_5 : decode cX6_quotient 5 = .ok (.getfield 7, 3) := by decide +kernel
theorem dX6_quotient_8 : decode cX6_quotient 8 = .ok (.iconst 2, 1) := by decide +kernel
theorem dX6_quotient_9 : decode cX6_quotient 9 = .ok (.iaload, 1) := by decide +kernel
theorem dX6_quotient_10 : decode cX6_quotient 10 = .ok (.i2l, 1) := by decide +kernel
theorem dX6_quotient_11 : decode cX6_quotient 11 = .ok (.ldc2_w 108, 3) := by decide +kernel
theorem dX6_quotient_14 : decode cX6_quotient 14 = .ok (.lmul, 1) := by decide +kernel
theorem dX6_quotient_15 : decode cX6_quotient 15 = .ok (.aload_n 0, 1) := by decide +kernel
theorem dX6_quotient_16 : decode cX6_quotient 16 = .ok (.getfield 7, 3) := by decide +kernel
theorem dX6_quotient_19 : decode cX6_quotient 19 = .ok (.iconst 0, 1) := by decide +kernel
theorem dX6_quotient_20 : decode cX6_quotient 20 = .ok (.iaload, 1) := by decide +kernel
theorem dX6_quotient_21 : decode cX6_quotient 21 = .ok (.i2l, 1) := by decide +kernel
theorem dX6_quotient_22 : decode cX6_quotient 22 = .ok (.ladd, 1) := by decide +kernel
theorem dX6_quotient_23 : decode cX6_quotient 23 = .ok (.goto 10, 3) := by decide +kernel
theorem dX6_quotient_26 : decode cX6_quotient 26 = .ok (.aload_n 0, 1) := by decide +kernel
theorem dX6_quotient_27 : decode cX6_quotient 27 = .ok (.getfield 7, 3) := by decide +kernel
theorem dX6_quotient_30 : decode cX6_quotient 30 = .ok (.iconst 0, 1) := by decide +kernel
theorem dX6_quotient_31 : decode cX6_quotient 31 = .ok (.iaload, 1) := by decide +kernel
theorem dX6_quotient_32 : decode cX6_quotient 32 = .ok (.i2l, 1) := by decide +kernel
theorem dX6_quotient_33 : decode cX6_quotient 33 = .ok (.lstore 4, 2) := by decide +kernel
theorem dX6_quotient_35 : decode cX6_quotient 35 = .ok (.iload_n 3, 1) := by decide +kernel
theorem dX6_quotient_36 : decode cX6_quotient 36 = .ok (.ifCond .eq 9, 3) := by decide +kernel
theorem dX6_quotient_39 : decode cX6_quotient 39 = .ok (.ldc2_w 110, 3) := by decide +kernel
theorem dX6_quotient_42 : decode cX6_quotient 42 = .ok (.goto 6, 3) := by decide +kernel
theorem dX6_quotient_45 : decode cX6_quotient 45 = .ok (.ldc2_w 108, 3) := by decide +kernel
theorem dX6_quotient_48 : decode cX6_quotient 48 = .ok (.lstore 6, 2) := by decide +kernel
theorem dX6_quotient_50 : decode cX6_quotient 50 = .ok (.iload_n 2, 1) := by decide +kernel
theorem dX6_quotient_51 : decode cX6_quotient 51 = .ok (.ifCond .eq 23, 3) := by decide +kernel
theorem dX6_quotient_54 : decode cX6_quotient 54 = .ok (.lload 4, 2) := by decide +kernel
theorem dX6_quotient_56 : decode cX6_quotient 56 = .ok (.lload 6, 2) := by decide +kernel
theorem dX6_quotient_58 : decode cX6_quotient 58 = .ok (.ldc2_w 112, 3) := by decide +kernel
theorem dX6_quotient_61 : decode cX6_quotient 61 = .ok (.ldiv, 1) := by decide +kernel
theorem dX6_quotient_62 : decode cX6_quotient 62 = .ok (.lcmp, 1) := by decide +kernel
theorem dX6_quotient_63 : decode cX6_quotient 63 = .ok (.ifCond .lt 11, 3) := by decide +kernel
theorem dX6_quotient_66 : decode cX6_quotient 66 = .ok (.lload 4, 2) := by decide +kernel
theorem dX6_quotient_68 : decode cX6_quotient 68 = .ok (.lload 6, 2) := by decide +kernel
theorem dX6_quotient_70 : decode cX6_quotient 70 = .ok (.lsub, 1) := by decide +kernel
theorem dX6_quotient_71 : decode cX6_quotient 71 = .ok (.goto 5, 3) := by decide +kernel
theorem dX6_quotient_74 : decode cX6_quotient 74 = .ok (.lload 4, 2) := by decide +kernel
theorem dX6_quotient_76 : decode cX6_quotient 76 = .ok (.lstore 4, 2) := by decide +kernel
theorem dX6_quotient_78 : decode cX6_quotient 78 = .ok (.iload_n 2, 1) := by decide +kernel
theorem dX6_quotient_79 : decode cX6_quotient 79 = .ok (.ifCond .eq 12, 3) := by decide +kernel
theorem dX6_quotient_82 : decode cX6_quotient 82 = .ok (.iload_n 1, 1) := by decide +kernel
theorem dX6_quotient_83 : decode cX6_quotient 83 = .ok (.iload_n 3, 1) := by decide +kernel
theorem dX6_quotient_84 : decode cX6_quotient 84 = .ok (.invokestatic 77, 3) := by decide +kernel
theorem dX6_quotient_87 : decode cX6_quotient 87 = .ok (.i2l, 1) := by decide +kernel
theorem dX6_quotient_88 : decode cX6_quotient 88 = .ok (.goto 5, 3) := by decide +kernel
theorem dX6_quotient_91 : decode cX6_quotient 91 = .ok (.iload_n 1, 1) := by decide +kernel
theorem dX6_quotient_92 : decode cX6_quotient 92 = .ok (.i2l, 1) := by decide +kernel
theorem dX6_quotient_93 : decode cX6_quotient 93 = .ok (.lstore 8, 2) := by decide +kernel
theorem dX6_quotient_95 : decode cX6_quotient 95 = .ok (.lload 8, 2) := by decide +kernel
theorem dX6_quotient_97 : decode cX6_quotient 97 = .ok (.lconst 0, 1) := by decide +kernel
theorem dX6_quotient_98 : decode cX6_quotient 98 = .ok (.lcmp, 1) := by decide +kernel
theorem dX6_quotient_99 : decode cX6_quotient 99 = .ok (.ifCond .ne 5, 3) := by decide +kernel
theorem dX6_quotient_102 : decode cX6_quotient 102 = .ok (.iconst 0, 1) := by decide +kernel
theorem dX6_quotient_103 : decode cX6_quotient 103 = .ok (.ireturn, 1) := by decide +kernel
theorem dX6_quotient_104 : decode cX6_quotient 104 = .ok (.lload 4, 2) := by decide +kernel
theorem dX6_quotient_106 : decode cX6_quotient 106 = .ok (.lload 8, 2) := by decide +kernel
theorem dX6_quotient_108 : decode cX6_quotient 108 = .ok (.ldiv, 1) := by decide +kernel
theorem dX6_quotient_109 : decode cX6_quotient 109 = .ok (.lstore 10, 2) := by decide +kernel
theorem dX6_quotient_111 : decode cX6_quotient 111 = .ok (.iload_n 2, 1) := by decide +kernel
theorem dX6_quotient_112 : decode cX6_quotient 112 = .ok (.ifCond .eq 13, 3) := by decide +kernel
theorem dX6_quotient_115 : decode cX6_quotient 115 = .ok (.iload_n 3, 1) := by decide +kernel
theorem dX6_quotient_116 : decode cX6_quotient 116 = .ok (.invokestatic 66, 3) := by decide +kernel
theorem dX6_quotient_119 : decode cX6_quotient 119 = .ok (.i2l, 1) := by decide +kernel
theorem dX6_quotient_120 : decode cX6_quotient 120 = .ok (.lconst 1, 1) := by decide +kernel
theorem dX6_quotient_121 : decode cX6_quotient 121 = .ok (.lsub, 1) := by decide +kernel
theorem dX6_quotient_122 : decode cX6_quotient 122 = .ok (.goto 8, 3) := by decide +kernel
theorem dX6_quotient_125 : decode cX6_quotient 125 = .ok (.iload_n 3, 1) := by decide +kernel
theorem dX6_quotient_126 : decode cX6_quotient 126 = .ok (.invokestatic 70, 3) := by decide +kernel
theorem dX6_quotient_129 : decode cX6_quotient 129 = .ok (.i2l, 1) := by decide +kernel
theorem dX6_quotient_130 : decode cX6_quotient 130 = .ok (.lstore 12, 2) := by decide +kernel
theorem dX6_quotient_132 : decode cX6_quotient 132 = .ok (.lload 10, 2) := by decide +kernel
theorem dX6_quotient_134 : decode cX6_quotient 134 = .ok (.lload 12, 2) := by decide +kernel
theorem dX6_quotient_136 : decode cX6_quotient 136 = .ok (.lcmp, 1) := by decide +kernel
theorem dX6_quotient_137 : decode cX6_quotient 137 = .ok (.ifCond .gt 20, 3) := by decide +kernel
theorem dX6_quotient_140 : decode cX6_quotient 140 = .ok (.lload 10, 2) := by decide +kernel
theorem dX6_quotient_142 : decode cX6_quotient 142 = .ok (.iload_n 2, 1) := by decide +kernel
theorem dX6_quotient_143 : decode cX6_quotient 143 = .ok (.ifCond .eq 9, 3) := by decide +kernel
theorem dX6_quotient_146 : decode cX6_quotient 146 = .ok (.lload 12, 2) := by decide +kernel
theorem dX6_quotient_148 : decode cX6_quotient 148 = .ok (.lneg, 1) := by decide +kernel
theorem dX6_quotient_149 : decode cX6_quotient 149 = .ok (.goto 4, 3) := by decide +kernel
theorem dX6_quotient_152 : decode cX6_quotient 152 = .ok (.lconst 0, 1) := by decide +kernel
theorem dX6_quotient_153 : decode cX6_quotient 153 = .ok (.lcmp, 1) := by decide +kernel
theorem dX6_quotient_154 : decode cX6_quotient 154 = .ok (.ifCond .ge 5, 3) := by decide +kernel
theorem dX6_quotient_157 : decode cX6_quotient 157 = .ok (.iconst 0, 1) := by decide +kernel
theorem dX6_quotient_158 : decode cX6_quotient 158 = .ok (.ireturn, 1) := by decide +kernel
theorem dX6_quotient_159 : decode cX6_quotient 159 = .ok (.lload 4, 2) := by decide +kernel
theorem dX6_quotient_161 : decode cX6_quotient 161 = .ok (.lload 10, 2) := by decide +kernel
theorem dX6_quotient_163 : decode cX6_quotient 163 = .ok (.lload 8, 2) := by decide +kernel
theorem dX6_quotient_165 : decode cX6_quotient 165 = .ok (.lmul, 1) := by decide +kernel
theorem dX6_quotient_166 : decode cX6_quotient 166 = .ok (.lsub, 1) := by decide +kernel
theorem dX6_quotient_167 : decode cX6_quotient 167 = .ok (.lstore 14, 2) := by decide +kernel
theorem dX6_quotient_169 : decode cX6_quotient 169 = .ok (.iload_n 3, 1) := by decide +kernel
theorem dX6_quotient_170 : decode cX6_quotient 170 = .ok (.ifCond .eq 30, 3) := by decide +kernel
theorem dX6_quotient_173 : decode cX6_quotient 173 = .ok (.aload_n 0, 1) := by decide +kernel
theorem dX6_quotient_174 : decode cX6_quotient 174 = .ok (.getfield 7, 3) := by decide +kernel
theorem dX6_quotient_177 : decode cX6_quotient 177 = .ok (.iconst 0, 1) := by decide +kernel
theorem dX6_quotient_178 : decode cX6_quotient 178 = .ok (.lload 10, 2) := by decide +kernel
theorem dX6_quotient_180 : decode cX6_quotient 180 = .ok (.l2i, 1) := by decide +kernel
theorem dX6_quotient_181 : decode cX6_quotient 181 = .ok (.ldc 39, 2) := by decide +kernel
theorem dX6_quotient_183 : decode cX6_quotient 183 = .ok (.iand, 1) := by decide +kernel
theorem dX6_quotient_184 : decode cX6_quotient 184 = .ok (.iastore, 1) := by decide +kernel
theorem dX6_quotient_185 : decode cX6_quotient 185 = .ok (.aload_n 0, 1) := by decide +kernel
theorem dX6_quotient_186 : decode cX6_quotient 186 = .ok (.getfield 7, 3) := by decide +kernel
theorem dX6_quotient_189 : decode cX6_quotient 189 = .ok (.iconst 2, 1) := by decide +kernel
theorem dX6_quotient_190 : decode cX6_quotient 190 = .ok (.lload 14, 2) := by decide +kernel
theorem dX6_quotient_192 : decode cX6_quotient 192 = .ok (.l2i, 1) := by decide +kernel
theorem dX6_quotient_193 : decode cX6_quotient 193 = .ok (.ldc 39, 2) := by decide +kernel
theorem dX6_quotient_195 : decode cX6_quotient 195 = .ok (.iand, 1) := by decide +kernel
theorem dX6_quotient_196 : decode cX6_quotient 196 = .ok (.iastore, 1) := by decide +kernel
theorem dX6_quotient_197 : decode cX6_quotient 197 = .ok (.goto 27, 3) := by decide +kernel
theorem dX6_quotient_200 : decode cX6_quotient 200 = .ok (.aload_n 0, 1) := by decide +kernel
theorem dX6_quotient_201 : decode cX6_quotient 201 = .ok (.getfield 7, 3) := by decide +kernel
theorem dX6_quotient_204 : decode cX6_quotient 204 = .ok (.iconst 0, 1) := by decide +kernel
theorem dX6_quotient_205 : decode cX6_quotient 205 = .ok (.lload 10, 2) := by decide +kernel
theorem dX6_quotient_207 : decode cX6_quotient 207 = .ok (.l2i, 1) := by decide +kernel
theorem dX6_quotient_208 : decode cX6_quotient 208 = .ok (.sipush 255, 3) := by decide +kernel
theorem dX6_quotient_211 : decode cX6_quotient 211 = .ok (.iand, 1) := by decide +kernel
theorem dX6_quotient_212 : decode cX6_quotient 212 = .ok (.lload 14, 2) := by decide +kernel
theorem dX6_quotient_214 : decode cX6_quotient 214 = .ok (.l2i, 1) := by decide +kernel
theorem dX6_quotient_215 : decode cX6_quotient 215 = .ok (.sipush 255, 3) := by decide +kernel
theorem dX6_quotient_218 : decode cX6_quotient 218 = .ok (.iand, 1) := by decide +kernel
theorem dX6_quotient_219 : decode cX6_quotient 219 = .ok (.bipush 8, 2) := by decide +kernel
theorem dX6_quotient_221 : decode cX6_quotient 221 = .ok (.ishl, 1) := by decide +kernel
theorem dX6_quotient_222 : decode cX6_quotient 222 = .ok (.ior, 1) := by decide +kernel
theorem dX6_quotient_223 : decode cX6_quotient 223 = .ok (.iastore, 1) := by decide +kernel
theorem dX6_quotient_224 : decode cX6_quotient 224 = .ok (.iconst 1, 1) := by decide +kernel
theorem dX6_quotient_225 : decode cX6_quotient 225 = .ok (.ireturn, 1) := by decide +kernel
set_option maxRecDepth 20000 in
theorem ggX6_holds_X6_has : GoodIn wsX6_holds wsX6_has := goodIn_r _ [5, 6, 7, 8, 9, 10, 11, 12, 13, 14, 15, 16, 17, 18, 19, 20, 21, 22, 23, 24, 25, 26, 27, 28, 29, 30, 31, 32, 33, 34, 35] (by decide +kernel) (by decide +kernel)
set_option maxRecDepth 20000 in
theorem gX6_holds_X6_has : GoodIn wsX6_holds (wsV RX6 97 RX6 yX6_has wsX6_has) := goodIn_app (goodIn_of _ (by decide +kernel)) ggX6_holds_X6_has
theorem dX6_holds_0 : decode cX6_holds 0 = .ok (.aload_n 0, 1) := by decide +kernel
theorem dX6_holds_1 : decode cX6_holds 1 = .ok (.sipush 128, 3) := by decide +kernel
theorem dX6_holds_4 : decode cX6_holds 4 = .ok (.invokevirtual 97, 3) := by decide +kernel
theorem dX6_holds_7 : decode cX6_holds 7 = .ok (.aload_n 0, 1) := by decide +kernel
theorem dX6_holds_8 : decode cX6_holds 8 = .ok (.sipush 2048, 3) := by decide +kernel
theorem dX6_holds_11 : decode cX6_holds 11 = .ok (.invokevirtual 97, 3) := by decide +kernel
theorem dX6_holds_14 : decode cX6_holds 14 = .ok (.if_icmp .eq 7, 3) := by decide +kernel
theorem dX6_holds_17 : decode cX6_holds 17 = .ok (.iconst 1, 1) := by decide +kernel
theorem dX6_holds_18 : decode cX6_holds 18 = .ok (.goto 4, 3) := by decide +kernel
theorem dX6_holds_21 : decode cX6_holds 21 = .ok (.iconst 0, 1) := by decide +kernel
theorem dX6_holds_22 : decode cX6_holds 22 = .ok (.istore_n 2, 1) := by decide +kernel
theorem dX6_holds_23 : decode cX6_holds 23 = .ok (.iload_n 1, 1) := by decide +kernel
theorem dX6_holds_24 : decode cX6_holds 24 = .ok (.iconst 1, 1) := by decide +kernel
theorem dX6_holds_25 : decode cX6_holds 25 = .ok (.ishr, 1) := by decide +kernel
theorem dX6_holds_26 : decode cX6_holds 26 = .ok (.istore_n 3, 1) := by decide +kernel
theorem dX6_holds_27 : decode cX6_holds 27 = .ok (.iload_n 3, 1) := by decide +kernel
theorem dX6_holds_28 : decode cX6_holds 28 = .ok (.ifCond .ne 13, 3) := by decide +kernel
theorem dX6_holds_31 : decode cX6_holds 31 = .ok (.aload_n 0, 1) := by decide +kernel
theorem dX6_holds_32 : decode cX6_holds 32 = .ok (.sipush 2048, 3) := by decide +kernel
theorem dX6_holds_35 : decode cX6_holds 35 = .ok (.invokevirtual 97, 3) := by decide +kernel
theorem dX6_holds_38 : decode cX6_holds 38 = .ok (.goto 116, 3) := by decide +kernel
theorem dX6_holds_41 : decode cX6_holds 41 = .ok (.iload_n 3, 1) := by decide +kernel
theorem dX6_holds_42 : decode cX6_holds 42 = .ok (.iconst 1, 1) := by decide +kernel
theorem dX6_holds_43 : decode cX6_holds 43 = .ok (.if_icmp .ne 11, 3) := by decide +kernel
theorem dX6_holds_46 : decode cX6_holds 46 = .ok (.aload_n 0, 1) := by decide +kernel
theorem dX6_holds_47 : decode cX6_holds 47 = .ok (.iconst 1, 1) := by decide +kernel
theorem dX6_holds_48 : decode cX6_holds 48 = .ok (.invokevirtual 97, 3) := by decide +kernel
theorem dX6_holds_51 : decode cX6_holds 51 = .ok (.goto 103, 3) := by decide +kernel
theorem dX6_holds_54 : decode cX6_holds 54 = .ok (.iload_n 3, 1) := by decide +kernel
theorem dX6_holds_55 : decode cX6_holds 55 = .ok (.iconst 2, 1) := by decide +kernel
theorem dX6_holds_56 : decode cX6_holds 56 = .ok (.if_icmp .ne 12, 3) := by decide +kernel
theorem dX6_holds_59 : decode cX6_holds 59 = .ok (.aload_n 0, 1) := by decide +kernel
theorem dX6_holds_60 : decode cX6_holds 60 = .ok (.bipush 64, 2) := by decide +kernel
theorem dX6_holds_62 : decode cX6_holds 62 = .ok (.invokevirtual 97, 3) := by decide +kernel
theorem dX6_holds_65 : decode cX6_holds 65 = .ok (.goto 89, 3) := by decide +kernel
theorem dX6_holds_68 : decode cX6_holds 68 = .ok (.iload_n 3, 1) := by decide +kernel
theorem dX6_holds_69 : decode cX6_holds 69 = .ok (.iconst 3, 1) := by decide +kernel
theorem dX6_holds_70 : decode cX6_holds 70 = .ok (.if_icmp .ne 28, 3) := by decide +kernel
theorem dX6_holds_73 : decode cX6_holds 73 = .ok (.aload_n 0, 1) := by decide +kernel
theorem dX6_holds_74 : decode cX6_holds 74 = .ok (.iconst 1, 1) := by decide +kernel
theorem dX6_holds_75 : decode cX6_holds 75 = .ok (.invokevirtual 97, 3) := by decide +kernel
theorem dX6_holds_78 : decode cX6_holds 78 = .ok (.ifCond .ne 12, 3) := by decide +kernel
theorem dX6_holds_81 : decode cX6_holds 81 = .ok (.aload_n 0, 1) := by decide +kernel
theorem dX6_holds_82 : decode cX6_holds 82 = .ok (.bipush 64, 2) := by decide +kernel
theorem dX6_holds_84 : decode cX6_holds 84 = .ok (.invokevirtual 97, 3) := by decide +kernel
theorem dX6_holds_87 : decode cX6_holds 87 = .ok (.ifCond .eq 7, 3) := by decide +kernel
theorem dX6_holds_90 : decode cX6_holds 90 = .ok (.iconst 1, 1) := by decide +kernel
theorem dX6_holds_91 : decode cX6_holds 91 = .ok (.goto 63, 3) := by decide +kernel
theorem dX6_holds_94 : decode cX6_holds 94 = .ok (.iconst 0, 1) := by decide +kernel
theorem dX6_holds_95 : decode cX6_holds 95 = .ok (.goto 59, 3) := by decide +kernel
theorem dX6_holds_98 : decode cX6_holds 98 = .ok (.iload_n 3, 1) := by decide +kernel
theorem dX6_holds_99 : decode cX6_holds 99 = .ok (.iconst 4, 1) := by decide +kernel
theorem dX6_holds_100 : decode cX6_holds 100 = .ok (.if_icmp .ne 13, 3) := by decide +kernel
theorem dX6_holds_103 : decode cX6_holds 103 = .ok (.aload_n 0, 1) := by decide +kernel
theorem dX6_holds_104 : decode cX6_holds 104 = .ok (.sipush 128, 3) := by decide +kernel
theorem dX6_holds_107 : decode cX6_holds 107 = .ok (.invokevirtual 97, 3) := by decide +kernel
theorem dX6_holds_110 : decode cX6_holds 110 = .ok (.goto 44, 3) := by decide +kernel
theorem dX6_holds_113 : decode cX6_holds 113 = .ok (.iload_n 3, 1) := by decide +kernel
theorem dX6_holds_114 : decode cX6_holds 114 = .ok (.iconst 5, 1) := by decide +kernel
theorem dX6_holds_115 : decode cX6_holds 115 = .ok (.if_icmp .ne 11, 3) := by decide +kernel
theorem dX6_holds_118 : decode cX6_holds 118 = .ok (.aload_n 0, 1) := by decide +kernel
theorem dX6_holds_119 : decode cX6_holds 119 = .ok (.iconst 4, 1) := by decide +kernel
theorem dX6_holds_120 : decode cX6_holds 120 = .ok (.invokevirtual 97, 3) := by decide +kernel
theorem dX6_holds_123 : decode cX6_holds 123 = .ok (.goto 31, 3) := by decide +kernel
theorem dX6_holds_126 : decode cX6_holds 126 = .ok (.iload_n 3, 1) := by decide +kernel
theorem dX6_holds_127 : decode cX6_holds 127 = .ok (.bipush 6, 2) := by decide +kernel
theorem dX6_holds_129 : decode cX6_holds 129 = .ok (.if_icmp .ne 7, 3) := by decide +kernel
theorem dX6_holds_132 : decode cX6_holds 132 = .ok (.iload_n 2, 1) := by decide +kernel
theorem dX6_holds_133 : decode cX6_holds 133 = .ok (.goto 21, 3) := by decide +kernel
theorem dX6_holds_136 : decode cX6_holds 136 = .ok (.iload_n 2, 1) := by decide +kernel
theorem dX6_holds_137 : decode cX6_holds 137 = .ok (.ifCond .ne 12, 3) := by decide +kernel
theorem dX6_holds_140 : decode cX6_holds 140 = .ok (.aload_n 0, 1) := by decide +kernel
theorem dX6_holds_141 : decode cX6_holds 141 = .ok (.bipush 64, 2) := by decide +kernel
theorem dX6_holds_143 : decode cX6_holds 143 = .ok (.invokevirtual 97, 3) := by decide +kernel
theorem dX6_holds_146 : decode cX6_holds 146 = .ok (.ifCond .eq 7, 3) := by decide +kernel
theorem dX6_holds_149 : decode cX6_holds 149 = .ok (.iconst 1, 1) := by decide +kernel
theorem dX6_holds_150 : decode cX6_holds 150 = .ok (.goto 4, 3) := by decide +kernel
theorem dX6_holds_153 : decode cX6_holds 153 = .ok (.iconst 0, 1) := by decide +kernel
theorem dX6_holds_154 : decode cX6_holds 154 = .ok (.istore 4, 2) := by decide +kernel
theorem dX6_holds_156 : decode cX6_holds 156 = .ok (.iload 4, 2) := by decide +kernel
theorem dX6_holds_158 : decode cX6_holds 158 = .ok (.iload_n 1, 1) := by decide +kernel
theorem dX6_holds_159 : decode cX6_holds 159 = .ok (.iconst 2, 1) := by decide +kernel
theorem dX6_holds_160 : decode cX6_holds 160 = .ok (.irem, 1) := by decide +kernel
theorem dX6_holds_161 : decode cX6_holds 161 = .ok (.ifCond .ne 7, 3) := by decide +kernel
theorem dX6_holds_164 : decode cX6_holds 164 = .ok (.iconst 1, 1) := by decide +kernel
theorem dX6_holds_165 : decode cX6_holds 165 = .ok (.goto 4, 3) := by decide +kernel
theorem dX6_holds_168 : decode cX6_holds 168 = .ok (.iconst 0, 1) := by decide +kernel
theorem dX6_holds_169 : decode cX6_holds 169 = .ok (.if_icmp .ne 7, 3) := by decide +kernel
theorem dX6_holds_172 : decode cX6_holds 172 = .ok (.iconst 1, 1) := by decide +kernel
theorem dX6_holds_173 : decode cX6_holds 173 = .ok (.goto 4, 3) := by decide +kernel
theorem dX6_holds_176 : decode cX6_holds 176 = .ok (.iconst 0, 1) := by decide +kernel
theorem dX6_holds_177 : decode cX6_holds 177 = .ok (.ireturn, 1) := by decide +kernel
set_option maxRecDepth 20000 in
theorem ggX6_fetch_X6_placeOf : GoodIn wsX6_fetch wsX6_placeOf := goodIn_r _ [6, 7, 8] (by decide +kernel) (by decide +kernel)
set_option maxRecDepth 20000 in
theorem gX6_fetch_X6_placeOf : GoodIn wsX6_fetch (va_wsS RX6 41 yX6_placeOf wsX6_placeOf) := goodIn_app (goodIn_of _ (by decide +kernel)) ggX6_fetch_X6_placeOf
set_option maxRecDepth 20000 in
theorem ggX6_fetch_X6_load : GoodIn wsX6_fetch wsX6_load := goodIn_r _ [12, 13, 14, 15, 16, 17, 18, 19, 20, 21, 22, 23, 24, 25, 26, 27, 28, 29, 30, 31, 32, 33, 34, 35, 36, 37, 38, 39, 40, 41, 42, 43] (by decide +kernel) (by decide +kernel)
set_option maxRecDepth 20000 in
theorem gX6_fetch_X6_load : GoodIn wsX6_fetch (wsV RX6 45 RX6 yX6_load wsX6_load) := goodIn_app (goodIn_of _ (by decide +kernel)) ggX6_fetch_X6_load
theorem dX6_fetch_0 : decode cX6_fetch 0 = .ok (.aload_n 0, 1) := by decide +kernel
theorem dX6_fetch_1 : decode cX6_fetch 1 = .ok (.aload_n 0, 1) := by decide +kernel
theorem dX6_fetch_2 : decode cX6_fetch 2 = .ok (.getfield 13, 3) := by decide +kernel
theorem dX6_fetch_5 : decode cX6_fetch 5 = .ok (.iconst 1, 1) := by decide +kernel
theorem dX6_fetch_6 : decode cX6_fetch 6 = .ok (.iaload, 1) := by decide +kernel
theorem dX6_fetch_7 : decode cX6_fetch 7 = .ok (.aload_n 0, 1) := by decide +kernel
theorem dX6_fetch_8 : decode cX6_fetch 8 = .ok (.getfield 114, 3) := by decide +kernel
theorem dX6_fetch_11 : decode cX6_fetch 11 = .ok (.invokestatic 41, 3) := by decide +kernel
theorem dX6_fetch_14 : decode cX6_fetch 14 = .ok (.invokevirtual 45, 3) := by decide +kernel
theorem dX6_fetch_17 : decode cX6_fetch 17 = .ok (.istore_n 1, 1) := by decide +kernel
theorem dX6_fetch_18 : decode cX6_fetch 18 = .ok (.aload_n 0, 1) := by decide +kernel
theorem dX6_fetch_19 : decode cX6_fetch 19 = .ok (.dup, 1) := by decide +kernel
theorem dX6_fetch_20 : decode cX6_fetch 20 = .ok (.getfield 114, 3) := by decide +kernel
theorem dX6_fetch_23 : decode cX6_fetch 23 = .ok (.iconst 1, 1) := by decide +kernel
theorem dX6_fetch_24 : decode cX6_fetch 24 = .ok (.iadd, 1) := by decide +kernel
theorem dX6_fetch_25 : decode cX6_fetch 25 = .ok (.putfield 114, 3) := by decide +kernel
theorem dX6_fetch_28 : decode cX6_fetch 28 = .ok (.iload_n 1, 1) := by decide +kernel
theorem dX6_fetch_29 : decode cX6_fetch 29 = .ok (.ireturn, 1) := by decide +kernel
set_option maxRecDepth 20000 in
theorem ggX6_fetchWord_X6_fetch : GoodIn wsX6_fetchWord wsX6_fetch := goodIn_r _ [5, 6, 7, 8, 9, 4, 10, 11, 12, 13, 14, 15, 16, 17, 18, 19, 20, 21, 22, 23, 24, 25, 26, 27, 28, 29, 30, 31, 32, 33, 34, 35, 36, 37, 38, 39, 40, 41, 42, 43, 44, 45, 46, 47] (by decide +kernel) (by decide +kernel)
set_option maxRecDepth 20000 in
theorem gX6_fetchWord_X6_fetch : GoodIn wsX6_fetchWord (wsV RX6 117 RX6 yX6_fetch wsX6_fetch) := goodIn_app (goodIn_of _ (by decide +kernel)) ggX6_fetchWord_X6_fetch
theorem dX6_fetchWord_0 : decode cX6_fetchWord 0 = .ok (.aload_n 0, 1) := by decide +kernel
theorem dX6_fetchWord_1 : decode cX6_fetchWord 1 = .ok (.invokevirtual 117, 3) := by decide +kernel
theorem dX6_fetchWord_4 : decode cX6_fetchWord 4 = .ok (.istore_n 1, 1) := by decide +kernel
theorem dX6_fetchWord_5 : decode cX6_fetchWord 5 = .ok (.iload_n 1, 1) := by decide +kernel
theorem dX6_fetchWord_6 : decode cX6_fetchWord 6 = .ok (.aload_n 0, 1) := by decide +kernel
theorem dX6_fetchWord_7 : decode cX6_fetchWord 7 = .ok (.invokevirtual 117, 3) := by decide +kernel
theorem dX6_fetchWord_10 : decode cX6_fetchWord 10 = .ok (.bipush 8, 2) := by decide +kernel
theorem dX6_fetchWord_12 : decode cX6_fetchWord 12 = .ok (.ishl, 1) := by decide +kernel
theorem dX6_fetchWord_13 : decode cX6_fetchWord 13 = .ok (.ior, 1) := by decide +kernel
theorem dX6_fetchWord_14 : decode cX6_fetchWord 14 = .ok (.ireturn, 1) := by decide +kernel
theorem dX6_extended_0 : decode cX6_extended 0 = .ok (.iload_n 0, 1) := by decide +kernel
theorem dX6_extended_1 : decode cX6_extended 1 = .ok (.bipush 127, 2) := by decide +kernel
theorem dX6_extended_3 : decode cX6_extended 3 = .ok (.if_icmp .le 11, 3) := by decide +kernel
theorem dX6_extended_6 : decode cX6_extended 6 = .ok (.iload_n 0, 1) := by decide +kernel
theorem dX6_extended_7 : decode cX6_extended 7 = .ok (.sipush 256, 3) := by decide +kernel
theorem dX6_extended_10 : decode cX6_extended 10 = .ok (.isub, 1) := by decide +kernel
theorem dX6_extended_11 : decode cX6_extended 11 = .ok (.goto 4, 3) := by decide +kernel
theorem dX6_extended_14 : decode cX6_extended 14 = .ok (.iload_n 0, 1) := by decide +kernel
theorem dX6_extended_15 : decode cX6_extended 15 = .ok (.ireturn, 1) := by decide +kernel
set_option maxRecDepth 20000 in
theorem ggX6_fetchNumber_X6_fetchWord : GoodIn wsX6_fetchNumber wsX6_fetchWord := goodIn_r _ [5, 6, 7, 8, 4, 9, 10, 11, 12, 13, 14, 15, 16, 17, 18, 19, 20, 21, 22, 23, 24, 25, 26, 27, 28, 29, 30, 31, 32, 33, 34, 35, 36, 37, 38, 39, 40, 41, 42, 43, 44, 45, 46, 47, 48, 49, 50, 51] (by decide +kernel) (by decide +kernel)
set_option maxRecDepth 20000 in
theorem gX6_fetchNumber_X6_fetchWord : GoodIn wsX6_fetchNumber (wsV RX6 121 RX6 yX6_fetchWord wsX6_fetchWord) := goodIn_app (goodIn_of _ (by decide +kernel)) ggX6_fetchNumber_X6_fetchWord
set_option maxRecDepth 20000 in
theorem ggX6_fetchNumber_X6_fetch : GoodIn wsX6_fetchNumber wsX6_fetch := goodIn_r _ [9, 10, 11, 12, 13, 4, 14, 15, 16, 17, 18, 19, 20, 21, 22, 23, 24, 25, 26, 27, 28, 29, 30, 31, 32, 33, 34, 35, 36, 37, 38, 39, 40, 41, 42, 43, 44, 45, 46, 47, 48, 49, 50, 51] (by decide +kernel) (by decide +kernel)
set_option maxRecDepth 20000 in
theorem gX6_fetchNumber_X6_fetch : GoodIn wsX6_fetchNumber (wsV RX6 117 RX6 yX6_fetch wsX6_fetch) := goodIn_app (goodIn_of _ (by decide +kernel)) ggX6_fetchNumber_X6_fetch
theorem dX6_fetchNumber_0 : decode cX6_fetchNumber 0 = .ok (.iload_n 1, 1) := by decide +kernel
theorem dX6_fetchNumber_1 : decode cX6_fetchNumber 1 = .ok (.ifCond .eq 10, 3) := by decide +kernel
theorem dX6_fetchNumber_4 : decode cX6_fetchNumber 4 = .ok (.aload_n 0, 1) := by decide +kernel
theorem dX6_fetchNumber_5 : decode cX6_fetchNumber 5 = .ok (.invokevirtual 121, 3) := by decide +kernel
theorem dX6_fetchNumber_8 : decode cX6_fetchNumber 8 = .ok (.goto 7, 3) := by decide +kernel
theorem dX6_fetchNumber_11 : decode cX6_fetchNumber 11 = .ok (.aload_n 0, 1) := by decide +kernel
theorem dX6_fetchNumber_12 : decode cX6_fetchNumber 12 = .ok (.invokevirtual 117, 3) := by decide +kernel
theorem dX6_fetchNumber_15 : decode cX6_fetchNumber 15 = .ok (.ireturn, 1) := by decide +kernel
theorem dX6_segmentOr_0 : decode cX6_segmentOr 0 = .ok (.aload_n 0, 1) := by decide +kernel
theorem dX6_segmentOr_1 : decode cX6_segmentOr 1 = .ok (.getfield 13, 3) := by decide +kernel
theorem dX6_segmentOr_4 : decode cX6_segmentOr 4 = .ok (.aload_n 0, 1) := by decide +kernel
theorem dX6_segmentOr_5 : decode cX6_segmentOr 5 = .ok (.getfield 124, 3) := by decide +kernel
theorem dX6_segmentOr_8 : decode cX6_segmentOr 8 = .ok (.iconst (-1), 1) := by decide +kernel
theorem dX6_segmentOr_9 : decode cX6_segmentOr 9 = .ok (.if_icmp .ne 7, 3) := by decide +kernel
theorem dX6_segmentOr_12 : decode cX6_segmentOr 12 = .ok (.iload_n 1, 1) := by decide +kernel
theorem dX6_segmentOr_13 : decode cX6_segmentOr 13 = .ok (.goto 7, 3) := by decide +kernel
theorem dX6_segmentOr_16 : decode cX6_segmentOr 16 = .ok (.aload_n 0, 1) := by decide +kernel
theorem dX6_segmentOr_17 : decode cX6_segmentOr 17 = .ok (.getfield 124, 3) := by decide +kernel
theorem dX6_segmentOr_20 : decode cX6_segmentOr 20 = .ok (.iaload, 1) := by decide +kernel
theorem dX6_segmentOr_21 : decode cX6_segmentOr 21 = .ok (.ireturn, 1) := by decide +kernel
set_option maxRecDepth 20000 in
theorem ggX6_fetchMode_X6_fetch : GoodIn wsX6_fetchMode wsX6_fetch := goodIn_r _ [12, 13, 14, 15, 16, 11, 17, 5, 18, 19, 20, 21, 22, 23, 24, 37, 38, 39, 40, 41, 42, 43, 44, 45, 46, 47, 48, 49, 50, 51, 52, 53, 54, 55, 56, 57, 58, 59, 60, 61, 62, 63, 64, 65] (by decide +kernel) (by decide +kernel)
set_option maxRecDepth 20000 in
theorem gX6_fetchMode_X6_fetch : GoodIn wsX6_fetchMode (wsV RX6 117 RX6 yX6_fetch wsX6_fetch) := goodIn_app (goodIn_of _ (by decide +kernel)) ggX6_fetchMode_X6_fetch
set_option maxRecDepth 20000 in
theorem ggX6_fetchMode_X6_fetchWord : GoodIn wsX6_fetchMode wsX6_fetchWord := goodIn_r _ [28, 8, 9, 10, 11, 12, 13, 14, 15, 16, 17, 5, 18, 19, 20, 21, 22, 23, 24, 37, 38, 39, 40, 41, 42, 43, 44, 45, 46, 47, 48, 49, 50, 51, 52, 53, 54, 55, 56, 57, 58, 59, 60, 61, 62, 63, 64, 65] (by decide +kernel) (by decide +kernel)
set_option maxRecDepth 20000 in
theorem gX6_fetchMode_X6_fetchWord : GoodIn wsX6_fetchMode (wsV RX6 121 RX6 yX6_fetchWord wsX6_fetchWord) := goodIn_app (goodIn_of _ (by decide +kernel)) ggX6_fetchMode_X6_fetchWord
set_option maxRecDepth 20000 in
theorem ggX6_fetchMode_X6_extended : GoodIn wsX6_fetchMode wsX6_extended := goodIn_r _ [31] (by decide +kernel) (by decide +kernel)
set_option maxRecDepth 20000 in
theorem gX6_fetchMode_X6_extended : GoodIn wsX6_fetchMode (va_wsS RX6 136 yX6_extended wsX6_extended) := goodIn_app (goodIn_of _ (by decide +kernel)) ggX6_fetchMode_X6_extended
set_option maxRecDepth 20000 in
theorem ggX6_fetchMode_X6_segmentOr : GoodIn wsX6_fetchMode wsX6_segmentOr := goodIn_r _ [35, 13, 36, 37, 38, 39, 40, 41, 42, 43, 44, 45, 46, 47, 48, 49, 50, 51, 52, 53, 54, 55, 56, 57, 58, 59, 60, 61, 62, 63, 64, 65] (by decide +kernel) (by decide +kernel)
set_option maxRecDepth 20000 in
theorem gX6_fetchMode_X6_segmentOr : GoodIn wsX6_fetchMode (wsV RX6 142 RX6 yX6_segmentOr wsX6_segmentOr) := goodIn_app (goodIn_of _ (by decide +kernel)) ggX6_fetchMode_X6_segmentOr
theorem dX6_fetchMode_0 : decode cX6_fetchMode 0 = .ok (.aload_n 0, 1) := by decide +kernel
theorem dX6_fetchMode_1 : decode cX6_fetchMode 1 = .ok (.invokevirtual 117, 3) := by decide +kernel
theorem dX6_fetchMode_4 : decode cX6_fetchMode 4 = .ok (.istore_n 1, 1) := by decide +kernel
theorem dX6_fetchMode_5 : decode cX6_fetchMode 5 = .ok (.aload_n 0, 1) := by decide +kernel
theorem dX6_fetchMode_6 : decode cX6_fetchMode 6 = .ok (.iload_n 1, 1) := by decide +kernel
theorem dX6_fetchMode_7 : decode cX6_fetchMode 7 = .ok (.bipush 6, 2) := by decide +kernel
theorem dX6_fetchMode_9 : decode cX6_fetchMode 9 = .ok (.ishr, 1) := by decide +kernel
theorem dX6_fetchMode_10 : decode cX6_fetchMode 10 = .ok (.putfield 127, 3) := by decide +kernel
theorem dX6_fetchMode_13 : decode cX6_fetchMode 13 = .ok (.aload_n 0, 1) := by decide +kernel
theorem dX6_fetchMode_14 : decode cX6_fetchMode 14 = .ok (.iload_n 1, 1) := by decide +kernel
theorem dX6_fetchMode_15 : decode cX6_fetchMode 15 = .ok (.iconst 3, 1) := by decide +kernel
theorem dX6_fetchMode_16 : decode cX6_fetchMode 16 = .ok (.ishr, 1) := by decide +kernel
theorem dX6_fetchMode_17 : decode cX6_fetchMode 17 = .ok (.bipush 7, 2) := by decide +kernel
theorem dX6_fetchMode_19 : decode cX6_fetchMode 19 = .ok (.iand, 1) := by decide +kernel
theorem dX6_fetchMode_20 : decode cX6_fetchMode 20 = .ok (.putfield 130, 3) := by decide +kernel
theorem dX6_fetchMode_23 : decode cX6_fetchMode 23 = .ok (.aload_n 0, 1) := by decide +kernel
theorem dX6_fetchMode_24 : decode cX6_fetchMode 24 = .ok (.iload_n 1, 1) := by decide +kernel
theorem dX6_fetchMode_25 : decode cX6_fetchMode 25 = .ok (.bipush 7, 2) := by decide +kernel
theorem dX6_fetchMode_27 : decode cX6_fetchMode 27 = .ok (.iand, 1) := by decide +kernel
theorem dX6_fetchMode_28 : decode cX6_fetchMode 28 = .ok (.putfield 133, 3) := by decide +kernel
theorem dX6_fetchMode_31 : decode cX6_fetchMode 31 = .ok (.aload_n 0, 1) := by decide +kernel
theorem dX6_fetchMode_32 : decode cX6_fetchMode 32 = .ok (.getfield 127, 3) := by decide +kernel
theorem dX6_fetchMode_35 : decode cX6_fetchMode 35 = .ok (.iconst 3, 1) := by decide +kernel
theorem dX6_fetchMode_36 : decode cX6_fetchMode 36 = .ok (.if_icmp .ne 4, 3) := by decide +kernel
theorem dX6_fetchMode_39 : decode cX6_fetchMode 39 = .ok (.return_, 1) := by decide +kernel
theorem dX6_fetchMode_40 : decode cX6_fetchMode 40 = .ok (.aload_n 0, 1) := by decide +kernel
theorem dX6_fetchMode_41 : decode cX6_fetchMode 41 = .ok (.getfield 127, 3) := by decide +kernel
theorem dX6_fetchMode_44 : decode cX6_fetchMode 44 = .ok (.ifCond .ne 16, 3) := by decide +kernel
theorem dX6_fetchMode_47 : decode cX6_fetchMode 47 = .ok (.aload_n 0, 1) := by decide +kernel
theorem dX6_fetchMode_48 : decode cX6_fetchMode 48 = .ok (.getfield 133, 3) := by decide +kernel
theorem dX6_fetchMode_51 : decode cX6_fetchMode 51 = .ok (.bipush 6, 2) := by decide +kernel
theorem dX6_fetchMode_53 : decode cX6_fetchMode 53 = .ok (.if_icmp .ne 7, 3) := by decide +kernel
theorem dX6_fetchMode_56 : decode cX6_fetchMode 56 = .ok (.iconst 1, 1) := by decide +kernel
theorem dX6_fetchMode_57 : decode cX6_fetchMode 57 = .ok (.goto 4, 3) := by decide +kernel
theorem dX6_fetchMode_60 : decode cX6_fetchMode 60 = .ok (.iconst 0, 1) := by decide +kernel
theorem dX6_fetchMode_61 : decode cX6_fetchMode 61 = .ok (.istore_n 2, 1) := by decide +kernel
theorem dX6_fetchMode_62 : decode cX6_fetchMode 62 = .ok (.aload_n 0, 1) := by decide +kernel
theorem dX6_fetchMode_63 : decode cX6_fetchMode 63 = .ok (.getfield 133, 3) := by decide +kernel
theorem dX6_fetchMode_66 : decode cX6_fetchMode 66 = .ok (.ifCond .eq 20, 3) := by decide +kernel
theorem dX6_fetchMode_69 : decode cX6_fetchMode 69 = .ok (.aload_n 0, 1) := by decide +kernel
theorem dX6_fetchMode_70 : decode cX6_fetchMode 70 = .ok (.getfield 133, 3) := by decide +kernel
theorem dX6_fetchMode_73 : decode cX6_fetchMode 73 = .ok (.iconst 1, 1) := by decide +kernel
theorem dX6_fetchMode_74 : decode cX6_fetchMode 74 = .ok (.if_icmp .eq 12, 3) := by decide +kernel
theorem dX6_fetchMode_77 : decode cX6_fetchMode 77 = .ok (.aload_n 0, 1) := by decide +kernel
theorem dX6_fetchMode_78 : decode cX6_fetchMode 78 = .ok (.getfield 133, 3) := by decide +kernel
theorem dX6_fetchMode_81 : decode cX6_fetchMode 81 = .ok (.bipush 7, 2) := by decide +kernel
theorem dX6_fetchMode_83 : decode cX6_fetchMode 83 = .ok (.if_icmp .ne 12, 3) := by decide +kernel
theorem dX6_fetchMode_86 : decode cX6_fetchMode 86 = .ok (.aload_n 0, 1) := by decide +kernel
theorem dX6_fetchMode_87 : decode cX6_fetchMode 87 = .ok (.getfield 7, 3) := by decide +kernel
theorem dX6_fetchMode_90 : decode cX6_fetchMode 90 = .ok (.iconst 3, 1) := by decide +kernel
theorem dX6_fetchMode_91 : decode cX6_fetchMode 91 = .ok (.iaload, 1) := by decide +kernel
theorem dX6_fetchMode_92 : decode cX6_fetchMode 92 = .ok (.goto 38, 3) := by decide +kernel
theorem dX6_fetchMode_95 : decode cX6_fetchMode 95 = .ok (.aload_n 0, 1) := by decide +kernel
theorem dX6_fetchMode_96 : decode cX6_fetchMode 96 = .ok (.getfield 133, 3) := by decide +kernel
theorem dX6_fetchMode_99 : decode cX6_fetchMode 99 = .ok (.iconst 2, 1) := by decide +kernel
theorem dX6_fetchMode_100 : decode cX6_fetchMode 100 = .ok (.if_icmp .eq 20, 3) := by decide +kernel
theorem dX6_fetchMode_103 : decode cX6_fetchMode 103 = .ok (.aload_n 0, 1) := by decide +kernel
theorem dX6_fetchMode_104 : decode cX6_fetchMode 104 = .ok (.getfield 133, 3) := by decide +kernel
theorem dX6_fetchMode_107 : decode cX6_fetchMode 107 = .ok (.iconst 3, 1) := by decide +kernel
theorem dX6_fetchMode_108 : decode cX6_fetchMode 108 = .ok (.if_icmp .eq 12, 3) := by decide +kernel
theorem dX6_fetchMode_111 : decode cX6_fetchMode 111 = .ok (.aload_n 0, 1) := by decide +kernel
theorem dX6_fetchMode_112 : decode cX6_fetchMode 112 = .ok (.getfield 133, 3) := by decide +kernel
theorem dX6_fetchMode_115 : decode cX6_fetchMode 115 = .ok (.bipush 6, 2) := by decide +kernel
theorem dX6_fetchMode_117 : decode cX6_fetchMode 117 = .ok (.if_icmp .ne 12, 3) := by decide +kernel
theorem dX6_fetchMode_120 : decode cX6_fetchMode 120 = .ok (.aload_n 0, 1) := by decide +kernel
theorem dX6_fetchMode_121 : decode cX6_fetchMode 121 = .ok (.getfield 7, 3) := by decide +kernel
theorem dX6_fetchMode_124 : decode cX6_fetchMode 124 = .ok (.iconst 5, 1) := by decide +kernel
theorem dX6_fetchMode_125 : decode cX6_fetchMode 125 = .ok (.iaload, 1) := by decide +kernel
theorem dX6_fetchMode_126 : decode cX6_fetchMode 126 = .ok (.goto 4, 3) := by decide +kernel
theorem dX6_fetchMode_129 : decode cX6_fetchMode 129 = .ok (.iconst 0, 1) := by decide +kernel
theorem dX6_fetchMode_130 : decode cX6_fetchMode 130 = .ok (.istore_n 3, 1) := by decide +kernel
theorem dX6_fetchMode_131 : decode cX6_fetchMode 131 = .ok (.aload_n 0, 1) := by decide +kernel
theorem dX6_fetchMode_132 : decode cX6_fetchMode 132 = .ok (.getfield 133, 3) := by decide +kernel
theorem dX6_fetchMode_135 : decode cX6_fetchMode 135 = .ok (.ifCond .eq 19, 3) := by decide +kernel
theorem dX6_fetchMode_138 : decode cX6_fetchMode 138 = .ok (.aload_n 0, 1) := by decide +kernel
theorem dX6_fetchMode_139 : decode cX6_fetchMode 139 = .ok (.getfield 133, 3) := by decide +kernel
theorem dX6_fetchMode_142 : decode cX6_fetchMode 142 = .ok (.iconst 2, 1) := by decide +kernel
theorem dX6_fetchMode_143 : decode cX6_fetchMode 143 = .ok (.if_icmp .eq 11, 3) := by decide +kernel
theorem dX6_fetchMode_146 : decode cX6_fetchMode 146 = .ok (.aload_n 0, 1) := by decide +kernel
theorem dX6_fetchMode_147 : decode cX6_fetchMode 147 = .ok (.getfield 133, 3) := by decide +kernel
theorem dX6_fetchMode_150 : decode cX6_fetchMode 150 = .ok (.iconst 4, 1) := by decide +kernel
theorem dX6_fetchMode_151 : decode cX6_fetchMode 151 = .ok (.if_icmp .ne 13, 3) := by decide +kernel
theorem dX6_fetchMode_154 : decode cX6_fetchMode 154 = .ok (.aload_n 0, 1) := by decide +kernel
theorem dX6_fetchMode_155 : decode cX6_fetchMode 155 = .ok (.getfield 7, 3) := by decide +kernel
theorem dX6_fetchMode_158 : decode cX6_fetchMode 158 = .ok (.bipush 6, 2) := by decide +kernel
theorem dX6_fetchMode_160 : decode cX6_fetchMode 160 = .ok (.iaload, 1) := by decide +kernel
theorem dX6_fetchMode_161 : decode cX6_fetchMode 161 = .ok (.goto 38, 3) := by decide +kernel
theorem dX6_fetchMode_164 : decode cX6_fetchMode 164 = .ok (.aload_n 0, 1) := by decide +kernel
theorem dX6_fetchMode_165 : decode cX6_fetchMode 165 = .ok (.getfield 133, 3) := by decide +kernel
theorem dX6_fetchMode_168 : decode cX6_fetchMode 168 = .ok (.iconst 1, 1) := by decide +kernel
theorem dX6_fetchMode_169 : decode cX6_fetchMode 169 = .ok (.if_icmp .eq 19, 3) := by decide +kernel
theorem dX6_fetchMode_172 : decode cX6_fetchMode 172 = .ok (.aload_n 0, 1) := by decide +kernel
theorem dX6_fetchMode_173 : decode cX6_fetchMode 173 = .ok (.getfield 133, 3) := by decide +kernel
theorem dX6_fetchMode_176 : decode cX6_fetchMode 176 = .ok (.iconst 3, 1) := by decide +kernel
theorem dX6_fetchMode_177 : decode cX6_fetchMode 177 = .ok (.if_icmp .eq 11, 3) := by decide +kernel
theorem dX6_fetchMode_180 : decode cX6_fetchMode 180 = .ok (.aload_n 0, 1) := by decide +kernel
theorem dX6_fetchMode_181 : decode cX6_fetchMode 181 = .ok (.getfield 133, 3) := by decide +kernel
theorem dX6_fetchMode_184 : decode cX6_fetchMode 184 = .ok (.iconst 5, 1) := by decide +kernel
theorem dX6_fetchMode_185 : decode cX6_fetchMode 185 = .ok (.if_icmp .ne 13, 3) := by decide +kernel
theorem dX6_fetchMode_188 : decode cX6_fetchMode 188 = .ok (.aload_n 0, 1) := by decide +kernel
theorem dX6_fetchMode_189 : decode cX6_fetchMode 189 = .ok (.getfield 7, 3) := by decide +kernel
theorem dX6_fetchMode_192 : decode cX6_fetchMode 192 = .ok (.bipush 7, 2) := by decide +kernel
theorem dX6_fetchMode_194 : decode cX6_fetchMode 194 = .ok (.iaload, 1) := by decide +kernel
theorem dX6_fetchMode_195 : decode cX6_fetchMode 195 = .ok (.goto 4, 3) := by decide +kernel
theorem dX6_fetchMode_198 : decode cX6_fetchMode 198 = .ok (.iconst 0, 1) := by decide +kernel
theorem dX6_fetchMode_199 : decode cX6_fetchMode 199 = .ok (.istore 4, 2) := by decide +kernel
theorem dX6_fetchMode_201 : decode cX6_fetchMode 201 = .ok (.iload_n 2, 1) := by decide +kernel
theorem dX6_fetchMode_202 : decode cX6_fetchMode 202 = .ok (.ifCond .ne 11, 3) := by decide +kernel
theorem dX6_fetchMode_205 : decode cX6_fetchMode 205 = .ok (.aload_n 0, 1) := by decide +kernel
theorem dX6_fetchMode_206 : decode cX6_fetchMode 206 = .ok (.getfield 127, 3) := by decide +kernel
theorem dX6_fetchMode_209 : decode cX6_fetchMode 209 = .ok (.iconst 2, 1) := by decide +kernel
theorem dX6_fetchMode_210 : decode cX6_fetchMode 210 = .ok (.if_icmp .ne 10, 3) := by decide +kernel
theorem dX6_fetchMode_213 : decode cX6_fetchMode 213 = .ok (.aload_n 0, 1) := by decide +kernel
theorem dX6_fetchMode_214 : decode cX6_fetchMode 214 = .ok (.invokevirtual 121, 3) := by decide +kernel
theorem dX6_fetchMode_217 : decode cX6_fetchMode 217 = .ok (.goto 22, 3) := by decide +kernel
theorem dX6_fetchMode_220 : decode cX6_fetchMode 220 = .ok (.aload_n 0, 1) := by decide +kernel
theorem dX6_fetchMode_221 : decode cX6_fetchMode 221 = .ok (.getfield 127, 3) := by decide +kernel
theorem dX6_fetchMode_224 : decode cX6_fetchMode 224 = .ok (.iconst 1, 1) := by decide +kernel
theorem dX6_fetchMode_225 : decode cX6_fetchMode 225 = .ok (.if_icmp .ne 13, 3) := by decide +kernel
theorem dX6_fetchMode_228 : decode cX6_fetchMode 228 = .ok (.aload_n 0, 1) := by decide +kernel
theorem dX6_fetchMode_229 : decode cX6_fetchMode 229 = .ok (.invokevirtual 117, 3) := by decide +kernel
theorem dX6_fetchMode_232 : decode cX6_fetchMode 232 = .ok (.invokestatic 136, 3) := by decide +kernel
theorem dX6_fetchMode_235 : decode cX6_fetchMode 235 = .ok (.goto 4, 3) := by decide +kernel
theorem dX6_fetchMode_238 : decode cX6_fetchMode 238 = .ok (.iconst 0, 1) := by decide +kernel
theorem dX6_fetchMode_239 : decode cX6_fetchMode 239 = .ok (.istore 5, 2) := by decide +kernel
theorem dX6_fetchMode_241 : decode cX6_fetchMode 241 = .ok (.aload_n 0, 1) := by decide +kernel
theorem dX6_fetchMode_242 : decode cX6_fetchMode 242 = .ok (.iload_n 2, 1) := by decide +kernel
theorem dX6_fetchMode_243 : decode cX6_fetchMode 243 = .ok (.ifCond .eq 8, 3) := by decide +kernel
theorem dX6_fetchMode_246 : decode cX6_fetchMode 246 = .ok (.iload 5, 2) := by decide +kernel
theorem dX6_fetchMode_248 : decode cX6_fetchMode 248 = .ok (.goto 13, 3) := by decide +kernel
theorem dX6_fetchMode_251 : decode cX6_fetchMode 251 = .ok (.iload_n 3, 1) := by decide +kernel
theorem dX6_fetchMode_252 : decode cX6_fetchMode 252 = .ok (.iload 4, 2) := by decide +kernel
theorem dX6_fetchMode_254 : decode cX6_fetchMode 254 = .ok (.iadd, 1) := by decide +kernel
theorem dX6_fetchMode_255 : decode cX6_fetchMode 255 = .ok (.iload 5, 2) := by decide +kernel
theorem dX6_fetchMode_257 : decode cX6_fetchMode 257 = .ok (.iadd, 1) := by decide +kernel
theorem dX6_fetchMode_258 : decode cX6_fetchMode 258 = .ok (.ldc 39, 2) := by decide +kernel
theorem dX6_fetchMode_260 : decode cX6_fetchMode 260 = .ok (.iand, 1) := by decide +kernel
theorem dX6_fetchMode_261 : decode cX6_fetchMode 261 = .ok (.putfield 139, 3) := by decide +kernel
theorem dX6_fetchMode_264 : decode cX6_fetchMode 264 = .ok (.aload_n 0, 1) := by decide +kernel
theorem dX6_fetchMode_265 : decode cX6_fetchMode 265 = .ok (.aload_n 0, 1) := by decide +kernel
theorem dX6_fetchMode_266 : decode cX6_fetchMode 266 = .ok (.iload_n 2, 1) := by decide +kernel
theorem dX6_fetchMode_267 : decode cX6_fetchMode 267 = .ok (.ifCond .ne 32, 3) := by decide +kernel
theorem dX6_fetchMode_270 : decode cX6_fetchMode 270 = .ok (.aload_n 0, 1) := by decide +kernel
theorem dX6_fetchMode_271 : decode cX6_fetchMode 271 = .ok (.getfield 133, 3) := by decide +kernel
theorem dX6_fetchMode_274 : decode cX6_fetchMode 274 = .ok (.iconst 2, 1) := by decide +kernel
theorem dX6_fetchMode_275 : decode cX6_fetchMode 275 = .ok (.if_icmp .eq 20, 3) := by decide +kernel
theorem dX6_fetchMode_278 : decode cX6_fetchMode 278 = .ok (.aload_n 0, 1) := by decide +kernel
theorem dX6_fetchMode_279 : decode cX6_fetchMode 279 = .ok (.getfield 133, 3) := by decide +kernel
theorem dX6_fetchMode_282 : decode cX6_fetchMode 282 = .ok (.iconst 3, 1) := by decide +kernel
theorem dX6_fetchMode_283 : decode cX6_fetchMode 283 = .ok (.if_icmp .eq 12, 3) := by decide +kernel
theorem dX6_fetchMode_286 : decode cX6_fetchMode 286 = .ok (.aload_n 0, 1) := by decide +kernel
theorem dX6_fetchMode_287 : decode cX6_fetchMode 287 = .ok (.getfield 133, 3) := by decide +kernel
theorem dX6_fetchMode_290 : decode cX6_fetchMode 290 = .ok (.bipush 6, 2) := by decide +kernel
theorem dX6_fetchMode_292 : decode cX6_fetchMode 292 = .ok (.if_icmp .ne 7, 3) := by decide +kernel
theorem dX6_fetchMode_295 : decode cX6_fetchMode 295 = .ok (.iconst 2, 1) := by decide +kernel
theorem dX6_fetchMode_296 : decode cX6_fetchMode 296 = .ok (.goto 4, 3) := by decide +kernel
theorem dX6_fetchMode_299 : decode cX6_fetchMode 299 = .ok (.iconst 3, 1) := by decide +kernel
theorem dX6_fetchMode_300 : decode cX6_fetchMode 300 = .ok (.invokevirtual 142, 3) := by decide +kernel
theorem dX6_fetchMode_303 : decode cX6_fetchMode 303 = .ok (.putfield 145, 3) := by decide +kernel
theorem dX6_fetchMode_306 : decode cX6_fetchMode 306 = .ok (.return_, 1) := by decide +kernel
theorem dX6_hasMode_0 : decode cX6_hasMode 0 = .ok (.aload_n 0, 1) := by decide +kernel
theorem dX6_hasMode_1 : decode cX6_hasMode 1 = .ok (.getfield 148, 3) := by decide +kernel
theorem dX6_hasMode_4 : decode cX6_hasMode 4 = .ok (.bipush 64, 2) := by decide +kernel
theorem dX6_hasMode_6 : decode cX6_hasMode 6 = .ok (.if_icmp .ge 14, 3) := by decide +kernel
theorem dX6_hasMode_9 : decode cX6_hasMode 9 = .ok (.aload_n 0, 1) := by decide +kernel
theorem dX6_hasMode_10 : decode cX6_hasMode 10 = .ok (.getfield 148, 3) := by decide +kernel
theorem dX6_hasMode_13 : decode cX6_hasMode 13 = .ok (.bipush 7, 2) := by decide +kernel
theorem dX6_hasMode_15 : decode cX6_hasMode 15 = .ok (.iand, 1) := by decide +kernel
theorem dX6_hasMode_16 : decode cX6_hasMode 16 = .ok (.iconst 4, 1) := by decide +kernel
theorem dX6_hasMode_17 : decode cX6_hasMode 17 = .ok (.if_icmp .lt 143, 3) := by decide +kernel
theorem dX6_hasMode_20 : decode cX6_hasMode 20 = .ok (.aload_n 0, 1) := by decide +kernel
theorem dX6_hasMode_21 : decode cX6_hasMode 21 = .ok (.getfield 148, 3) := by decide +kernel
theorem dX6_hasMode_24 : decode cX6_hasMode 24 = .ok (.sipush 128, 3) := by decide +kernel
theorem dX6_hasMode_27 : decode cX6_hasMode 27 = .ok (.if_icmp .lt 13, 3) := by decide +kernel
theorem dX6_hasMode_30 : decode cX6_hasMode 30 = .ok (.aload_n 0, 1) := by decide +kernel
theorem dX6_hasMode_31 : decode cX6_hasMode 31 = .ok (.getfield 148, 3) := by decide +kernel
theorem dX6_hasMode_34 : decode cX6_hasMode 34 = .ok (.sipush 144, 3) := by decide +kernel
theorem dX6_hasMode_37 : decode cX6_hasMode 37 = .ok (.if_icmp .lt 123, 3) := by decide +kernel
theorem dX6_hasMode_40 : decode cX6_hasMode 40 = .ok (.aload_n 0, 1) := by decide +kernel
theorem dX6_hasMode_41 : decode cX6_hasMode 41 = .ok (.getfield 148, 3) := by decide +kernel
theorem dX6_hasMode_44 : decode cX6_hasMode 44 = .ok (.sipush 196, 3) := by decide +kernel
theorem dX6_hasMode_47 : decode cX6_hasMode 47 = .ok (.if_icmp .eq 113, 3) := by decide +kernel
theorem dX6_hasMode_50 : decode cX6_hasMode 50 = .ok (.aload_n 0, 1) := by decide +kernel
theorem dX6_hasMode_51 : decode cX6_hasMode 51 = .ok (.getfield 148, 3) := by decide +kernel
theorem dX6_hasMode_54 : decode cX6_hasMode 54 = .ok (.sipush 197, 3) := by decide +kernel
theorem dX6_hasMode_57 : decode cX6_hasMode 57 = .ok (.if_icmp .eq 103, 3) := by decide +kernel
theorem dX6_hasMode_60 : decode cX6_hasMode 60 = .ok (.aload_n 0, 1) := by decide +kernel
theorem dX6_hasMode_61 : decode cX6_hasMode 61 = .ok (.getfield 148, 3) := by decide +kernel
theorem dX6_hasMode_64 : decode cX6_hasMode 64 = .ok (.sipush 198, 3) := by decide +kernel
theorem dX6_hasMode_67 : decode cX6_hasMode 67 = .ok (.if_icmp .eq 93, 3) := by decide +kernel
theorem dX6_hasMode_70 : decode cX6_hasMode 70 = .ok (.aload_n 0, 1) := by decide +kernel
theorem dX6_hasMode_71 : decode cX6_hasMode 71 = .ok (.getfield 148, 3) := by decide +kernel
theorem dX6_hasMode_74 : decode cX6_hasMode 74 = .ok (.sipush 199, 3) := by decide +kernel
theorem dX6_hasMode_77 : decode cX6_hasMode 77 = .ok (.if_icmp .eq 83, 3) := by decide +kernel
theorem dX6_hasMode_80 : decode cX6_hasMode 80 = .ok (.aload_n 0, 1) := by decide +kernel
theorem dX6_hasMode_81 : decode cX6_hasMode 81 = .ok (.getfield 148, 3) := by decide +kernel
theorem dX6_hasMode_84 : decode cX6_hasMode 84 = .ok (.sipush 208, 3) := by decide +kernel
theorem dX6_hasMode_87 : decode cX6_hasMode 87 = .ok (.if_icmp .lt 13, 3) := by decide +kernel
theorem dX6_hasMode_90 : decode cX6_hasMode 90 = .ok (.aload_n 0, 1) := by decide +kernel
theorem dX6_hasMode_91 : decode cX6_hasMode 91 = .ok (.getfield 148, 3) := by decide +kernel
theorem dX6_hasMode_94 : decode cX6_hasMode 94 = .ok (.sipush 212, 3) := by decide +kernel
theorem dX6_hasMode_97 : decode cX6_hasMode 97 = .ok (.if_icmp .lt 63, 3) := by decide +kernel
theorem dX6_hasMode_100 : decode cX6_hasMode 100 = .ok (.aload_n 0, 1) := by decide +kernel
theorem dX6_hasMode_101 : decode cX6_hasMode 101 = .ok (.getfield 148, 3) := by decide +kernel
theorem dX6_hasMode_104 : decode cX6_hasMode 104 = .ok (.sipush 216, 3) := by decide +kernel
theorem dX6_hasMode_107 : decode cX6_hasMode 107 = .ok (.if_icmp .lt 13, 3) := by decide +kernel
theorem dX6_hasMode_110 : decode cX6_hasMode 110 = .ok (.aload_n 0, 1) := by decide +kernel
theorem dX6_hasMode_111 : decode cX6_hasMode 111 = .ok (.getfield 148, 3) := by decide +kernel
theorem dX6_hasMode_114 : decode cX6_hasMode 114 = .ok (.sipush 224, 3) := by decide +kernel
theorem dX6_hasMode_117 : decode cX6_hasMode 117 = .ok (.if_icmp .lt 43, 3) := by decide +kernel
theorem dX6_hasMode_120 : decode cX6_hasMode 120 = .ok (.aload_n 0, 1) := by decide +kernel
theorem dX6_hasMode_121 : decode cX6_hasMode 121 = .ok (.getfield 148, 3) := by decide +kernel
theorem dX6_hasMode_124 : decode cX6_hasMode 124 = .ok (.sipush 246, 3) := by decide +kernel
theorem dX6_hasMode_127 : decode cX6_hasMode 127 = .ok (.if_icmp .eq 33, 3) := by decide +kernel
theorem dX6_hasMode_130 : decode cX6_hasMode 130 = .ok (.aload_n 0, 1) := by decide +kernel
theorem dX6_hasMode_131 : decode cX6_hasMode 131 = .ok (.getfield 148, 3) := by decide +kernel
theorem dX6_hasMode_134 : decode cX6_hasMode 134 = .ok (.sipush 247, 3) := by decide +kernel
theorem dX6_hasMode_137 : decode cX6_hasMode 137 = .ok (.if_icmp .eq 23, 3) := by decide +kernel
theorem dX6_hasMode_140 : decode cX6_hasMode 140 = .ok (.aload_n 0, 1) := by decide +kernel
theorem dX6_hasMode_141 : decode cX6_hasMode 141 = .ok (.getfield 148, 3) := by decide +kernel
theorem dX6_hasMode_144 : decode cX6_hasMode 144 = .ok (.sipush 254, 3) := by decide +kernel
theorem dX6_hasMode_147 : decode cX6_hasMode 147 = .ok (.if_icmp .eq 13, 3) := by decide +kernel
theorem dX6_hasMode_150 : decode cX6_hasMode 150 = .ok (.aload_n 0, 1) := by decide +kernel
theorem dX6_hasMode_151 : decode cX6_hasMode 151 = .ok (.getfield 148, 3) := by decide +kernel
theorem dX6_hasMode_154 : decode cX6_hasMode 154 = .ok (.sipush 255, 3) := by decide +kernel
theorem dX6_hasMode_157 : decode cX6_hasMode 157 = .ok (.if_icmp .ne 7, 3) := by decide +kernel
theorem dX6_hasMode_160 : decode cX6_hasMode 160 = .ok (.iconst 1, 1) := by decide +kernel
theorem dX6_hasMode_161 : decode cX6_hasMode 161 = .ok (.goto 4, 3) := by decide +kernel
theorem dX6_hasMode_164 : decode cX6_hasMode 164 = .ok (.iconst 0, 1) := by decide +kernel
theorem dX6_hasMode_165 : decode cX6_hasMode 165 = .ok (.ireturn, 1) := by decide +kernel
theorem dX6_isWide_0 : decode cX6_isWide 0 = .ok (.aload_n 0, 1) := by decide +kernel
theorem dX6_isWide_1 : decode cX6_isWide 1 = .ok (.getfield 148, 3) := by decide +kernel
theorem dX6_isWide_4 : decode cX6_isWide 4 = .ok (.iconst 2, 1) := by decide +kernel
theorem dX6_isWide_5 : decode cX6_isWide 5 = .ok (.irem, 1) := by decide +kernel
theorem dX6_isWide_6 : decode cX6_isWide 6 = .ok (.iconst 1, 1) := by decide +kernel
theorem dX6_isWide_7 : decode cX6_isWide 7 = .ok (.if_icmp .ne 7, 3) := by decide +kernel
theorem dX6_isWide_10 : decode cX6_isWide 10 = .ok (.iconst 1, 1) := by decide +kernel
theorem dX6_isWide_11 : decode cX6_isWide 11 = .ok (.goto 4, 3) := by decide +kernel
theorem dX6_isWide_14 : decode cX6_isWide 14 = .ok (.iconst 0, 1) := by decide +kernel
theorem dX6_isWide_15 : decode cX6_isWide 15 = .ok (.ireturn, 1) := by decide +kernel
set_option maxRecDepth 20000 in
theorem ggX6_follows_X6_hasMode : GoodIn wsX6_follows wsX6_hasMode := goodIn_r _ [11, 1, 56, 57, 58, 59, 60, 61, 62, 63, 64, 65, 66, 67, 68, 69, 70, 71, 72, 73, 74, 75, 76, 77, 78, 79, 80, 81, 82, 83, 84] (by decide +kernel) (by decide +kernel)
set_option maxRecDepth 20000 in
theorem gX6_follows_X6_hasMode : GoodIn wsX6_follows (wsV RX6 151 RX6 yX6_hasMode wsX6_hasMode) := goodIn_app (goodIn_of _ (by decide +kernel)) ggX6_follows_X6_hasMode
set_option maxRecDepth 20000 in
theorem ggX6_follows_X6_fetchMode : GoodIn wsX6_follows wsX6_fetchMode := goodIn_r _ [15, 6, 5, 16, 17, 3, 18, 19, 20, 21, 22, 10, 23, 24, 25, 26, 27, 28, 29, 30, 31, 32, 33, 34, 35, 36, 37, 38, 39, 40, 41, 42, 43, 44, 45, 46, 47, 56, 57, 58, 59, 60, 61, 62, 63, 64, 65, 66, 67, 68, 69, 70, 71, 72, 73, 74, 75, 76, 77, 78, 79, 80, 81, 82, 83, 84] (by decide +kernel) (by decide +kernel)
set_option maxRecDepth 20000 in
theorem gX6_follows_X6_fetchMode : GoodIn wsX6_follows (wsV RX6 155 RX6 yX6_fetchMode wsX6_fetchMode) := goodIn_app (goodIn_of _ (by decide +kernel)) ggX6_follows_X6_fetchMode
set_option maxRecDepth 20000 in
theorem ggX6_follows_X6_isWide : GoodIn wsX6_follows wsX6_isWide := goodIn_r _ [51, 1, 56, 57, 58, 59, 60, 61, 62, 63, 64, 65, 66, 67, 68, 69, 70, 71, 72, 73, 74, 75, 76, 77, 78, 79, 80, 81, 82, 83, 84] (by decide +kernel) (by decide +kernel)
set_option maxRecDepth 20000 in
theorem gX6_follows_X6_isWide : GoodIn wsX6_follows (wsV RX6 158 RX6 yX6_isWide wsX6_isWide) := goodIn_app (goodIn_of _ (by decide +kernel)) ggX6_follows_X6_isWide
set_option maxRecDepth 20000 in
theorem ggX6_follows_X6_fetchNumber : GoodIn wsX6_follows wsX6_fetchNumber := goodIn_r _ [55, 36, 37, 38, 10, 39, 20, 21, 22, 23, 24, 25, 26, 27, 28, 3, 29, 30, 31, 32, 33, 34, 35, 56, 57, 58, 59, 60, 61, 62, 63, 64, 65, 66, 67, 68, 69, 70, 71, 72, 73, 74, 75, 76, 77, 78, 79, 80, 81, 82, 83, 84] (by decide +kernel) (by decide +kernel)
set_option maxRecDepth 20000 in
theorem gX6_follows_X6_fetchNumber : GoodIn wsX6_follows (wsV RX6 161 RX6 yX6_fetchNumber wsX6_fetchNumber) := goodIn_app (goodIn_of _ (by decide +kernel)) ggX6_follows_X6_fetchNumber
set_option maxRecDepth 20000 in
theorem ggX6_follows_X6_fetch : GoodIn wsX6_follows wsX6_fetch := goodIn_r _ [23, 24, 25, 26, 27, 10, 28, 3, 29, 30, 31, 32, 33, 34, 35, 56, 57, 58, 59, 60, 61, 62, 63, 64, 65, 66, 67, 68, 69, 70, 71, 72, 73, 74, 75, 76, 77, 78, 79, 80, 81, 82, 83, 84] (by decide +kernel) (by decide +kernel)
set_option maxRecDepth 20000 in
theorem gX6_follows_X6_fetch : GoodIn wsX6_follows (wsV RX6 117 RX6 yX6_fetch wsX6_fetch) := goodIn_app (goodIn_of _ (by decide +kernel)) ggX6_follows_X6_fetch
set_option maxRecDepth 20000 in
theorem ggX6_follows_X6_extended : GoodIn wsX6_follows wsX6_extended := goodIn_r _ [42] (by decide +kernel) (by decide +kernel)
set_option maxRecDepth 20000 in
theorem gX6_follows_X6_extended : GoodIn wsX6_follows (va_wsS RX6 136 yX6_extended wsX6_extended) := goodIn_app (goodIn_of _ (by decide +kernel)) ggX6_follows_X6_extended
set_option maxRecDepth 20000 in
theorem ggX6_follows_X6_fetchWord : GoodIn wsX6_follows wsX6_fetchWord := goodIn_r _ [39, 20, 21, 22, 10, 23, 24, 25, 26, 27, 28, 3, 29, 30, 31, 32, 33, 34, 35, 56, 57, 58, 59, 60, 61, 62, 63, 64, 65, 66, 67, 68, 69, 70, 71, 72, 73, 74, 75, 76, 77, 78, 79, 80, 81, 82, 83, 84] (by decide +kernel) (by decide +kernel)
set_option maxRecDepth 20000 in
theorem gX6_follows_X6_fetchWord : GoodIn wsX6_follows (wsV RX6 121 RX6 yX6_fetchWord wsX6_fetchWord) := goodIn_app (goodIn_of _ (by decide +kernel)) ggX6_follows_X6_fetchWord
theorem dX6_follows_0 : decode cX6_follows 0 = .ok (.aload_n 0, 1) := by decide +kernel
theorem dX6_follows_1 : decode cX6_follows 1 = .ok (.invokevirtual 151, 3) := by decide +kernel
theorem dX6_follows_4 : decode cX6_follows 4 = .ok (.ifCond .eq 7, 3) := by decide +kernel
theorem dX6_follows_7 : decode cX6_follows 7 = .ok (.aload_n 0, 1) := by decide +kernel
theorem dX6_follows_8 : decode cX6_follows 8 = .ok (.invokevirtual 155, 3) := by decide +kernel
theorem dX6_follows_11 : decode cX6_follows 11 = .ok (.aload_n 0, 1) := by decide +kernel
theorem dX6_follows_12 : decode cX6_follows 12 = .ok (.invokevirtual 158, 3) := by decide +kernel
theorem dX6_follows_15 : decode cX6_follows 15 = .ok (.istore_n 1, 1) := by decide +kernel
theorem dX6_follows_16 : decode cX6_follows 16 = .ok (.aload_n 0, 1) := by decide +kernel
theorem dX6_follows_17 : decode cX6_follows 17 = .ok (.getfield 148, 3) := by decide +kernel
theorem dX6_follows_20 : decode cX6_follows 20 = .ok (.bipush 64, 2) := by decide +kernel
theorem dX6_follows_22 : decode cX6_follows 22 = .ok (.if_icmp .ge 26, 3) := by decide +kernel
theorem dX6_follows_25 : decode cX6_follows 25 = .ok (.aload_n 0, 1) := by decide +kernel
theorem dX6_follows_26 : decode cX6_follows 26 = .ok (.getfield 148, 3) := by decide +kernel
theorem dX6_follows_29 : decode cX6_follows 29 = .ok (.bipush 7, 2) := by decide +kernel
theorem dX6_follows_31 : decode cX6_follows 31 = .ok (.iand, 1) := by decide +kernel
theorem dX6_follows_32 : decode cX6_follows 32 = .ok (.iconst 3, 1) := by decide +kernel
theorem dX6_follows_33 : decode cX6_follows 33 = .ok (.if_icmp .le 15, 3) := by decide +kernel
theorem dX6_follows_36 : decode cX6_follows 36 = .ok (.aload_n 0, 1) := by decide +kernel
theorem dX6_follows_37 : decode cX6_follows 37 = .ok (.getfield 148, 3) := by decide +kernel
theorem dX6_follows_40 : decode cX6_follows 40 = .ok (.bipush 7, 2) := by decide +kernel
theorem dX6_follows_42 : decode cX6_follows 42 = .ok (.iand, 1) := by decide +kernel
theorem dX6_follows_43 : decode cX6_follows 43 = .ok (.bipush 6, 2) := by decide +kernel
theorem dX6_follows_45 : decode cX6_follows 45 = .ok (.if_icmp .lt 23, 3) := by decide +kernel
theorem dX6_follows_48 : decode cX6_follows 48 = .ok (.aload_n 0, 1) := by decide +kernel
theorem dX6_follows_49 : decode cX6_follows 49 = .ok (.getfield 148, 3) := by decide +kernel
theorem dX6_follows_52 : decode cX6_follows 52 = .ok (.sipush 168, 3) := by decide +kernel
theorem dX6_follows_55 : decode cX6_follows 55 = .ok (.if_icmp .eq 13, 3) := by decide +kernel
theorem dX6_follows_58 : decode cX6_follows 58 = .ok (.aload_n 0, 1) := by decide +kernel
theorem dX6_follows_59 : decode cX6_follows 59 = .ok (.getfield 148, 3) := by decide +kernel
theorem dX6_follows_62 : decode cX6_follows 62 = .ok (.sipush 169, 3) := by decide +kernel
theorem dX6_follows_65 : decode cX6_follows 65 = .ok (.if_icmp .ne 15, 3) := by decide +kernel
theorem dX6_follows_68 : decode cX6_follows 68 = .ok (.aload_n 0, 1) := by decide +kernel
theorem dX6_follows_69 : decode cX6_follows 69 = .ok (.aload_n 0, 1) := by decide +kernel
theorem dX6_follows_70 : decode cX6_follows 70 = .ok (.iload_n 1, 1) := by decide +kernel
theorem dX6_follows_71 : decode cX6_follows 71 = .ok (.invokevirtual 161, 3) := by decide +kernel
theorem dX6_follows_74 : decode cX6_follows 74 = .ok (.putfield 164, 3) := by decide +kernel
theorem dX6_follows_77 : decode cX6_follows 77 = .ok (.goto 431, 3) := by decide +kernel
theorem dX6_follows_80 : decode cX6_follows 80 = .ok (.aload_n 0, 1) := by decide +kernel
theorem dX6_follows_81 : decode cX6_follows 81 = .ok (.getfield 148, 3) := by decide +kernel
theorem dX6_follows_84 : decode cX6_follows 84 = .ok (.bipush 96, 2) := by decide +kernel
theorem dX6_follows_86 : decode cX6_follows 86 = .ok (.if_icmp .lt 13, 3) := by decide +kernel
theorem dX6_follows_89 : decode cX6_follows 89 = .ok (.aload_n 0, 1) := by decide +kernel
theorem dX6_follows_90 : decode cX6_follows 90 = .ok (.getfield 148, 3) := by decide +kernel
theorem dX6_follows_93 : decode cX6_follows 93 = .ok (.sipush 128, 3) := by decide +kernel
theorem dX6_follows_96 : decode cX6_follows 96 = .ok (.if_icmp .lt 33, 3) := by decide +kernel
theorem dX6_follows_99 : decode cX6_follows 99 = .ok (.aload_n 0, 1) := by decide +kernel
theorem dX6_follows_100 : decode cX6_follows 100 = .ok (.getfield 148, 3) := by decide +kernel
theorem dX6_follows_103 : decode cX6_follows 103 = .ok (.sipush 224, 3) := by decide +kernel
theorem dX6_follows_106 : decode cX6_follows 106 = .ok (.if_icmp .lt 13, 3) := by decide +kernel
theorem dX6_follows_109 : decode cX6_follows 109 = .ok (.aload_n 0, 1) := by decide +kernel
theorem dX6_follows_110 : decode cX6_follows 110 = .ok (.getfield 148, 3) := by decide +kernel
theorem dX6_follows_113 : decode cX6_follows 113 = .ok (.sipush 228, 3) := by decide +kernel
theorem dX6_follows_116 : decode cX6_follows 116 = .ok (.if_icmp .lt 13, 3) := by decide +kernel
theorem dX6_follows_119 : decode cX6_follows 119 = .ok (.aload_n 0, 1) := by decide +kernel
theorem dX6_follows_120 : decode cX6_follows 120 = .ok (.getfield 148, 3) := by decide +kernel
theorem dX6_follows_123 : decode cX6_follows 123 = .ok (.sipush 235, 3) := by decide +kernel
theorem dX6_follows_126 : decode cX6_follows 126 = .ok (.if_icmp .ne 17, 3) := by decide +kernel
theorem dX6_follows_129 : decode cX6_follows 129 = .ok (.aload_n 0, 1) := by decide +kernel
theorem dX6_follows_130 : decode cX6_follows 130 = .ok (.aload_n 0, 1) := by decide +kernel
theorem dX6_follows_131 : decode cX6_follows 131 = .ok (.invokevirtual 117, 3) := by decide +kernel
theorem dX6_follows_134 : decode cX6_follows 134 = .ok (.invokestatic 136, 3) := by decide +kernel
theorem dX6_follows_137 : decode cX6_follows 137 = .ok (.putfield 164, 3) := by decide +kernel
theorem dX6_follows_140 : decode cX6_follows 140 = .ok (.goto 368, 3) := by decide +kernel
theorem dX6_follows_143 : decode cX6_follows 143 = .ok (.aload_n 0, 1) := by decide +kernel
theorem dX6_follows_144 : decode cX6_follows 144 = .ok (.getfield 148, 3) := by decide +kernel
theorem dX6_follows_147 : decode cX6_follows 147 = .ok (.sipush 128, 3) := by decide +kernel
theorem dX6_follows_150 : decode cX6_follows 150 = .ok (.if_icmp .lt 64, 3) := by decide +kernel
theorem dX6_follows_153 : decode cX6_follows 153 = .ok (.aload_n 0, 1) := by decide +kernel
theorem dX6_follows_154 : decode cX6_follows 154 = .ok (.getfield 148, 3) := by decide +kernel
theorem dX6_follows_157 : decode cX6_follows 157 = .ok (.sipush 132, 3) := by decide +kernel
theorem dX6_follows_160 : decode cX6_follows 160 = .ok (.if_icmp .ge 54, 3) := by decide +kernel
theorem dX6_follows_163 : decode cX6_follows 163 = .ok (.aload_n 0, 1) := by decide +kernel
theorem dX6_follows_164 : decode cX6_follows 164 = .ok (.aload_n 0, 1) := by decide +kernel
theorem dX6_follows_165 : decode cX6_follows 165 = .ok (.getfield 148, 3) := by decide +kernel
theorem dX6_follows_168 : decode cX6_follows 168 = .ok (.sipush 129, 3) := by decide +kernel
theorem dX6_follows_171 : decode cX6_follows 171 = .ok (.if_icmp .ne 10, 3) := by decide +kernel
theorem dX6_follows_174 : decode cX6_follows 174 = .ok (.aload_n 0, 1) := by decide +kernel
theorem dX6_follows_175 : decode cX6_follows 175 = .ok (.invokevirtual 121, 3) := by decide +kernel
theorem dX6_follows_178 : decode cX6_follows 178 = .ok (.goto 30, 3) := by decide +kernel
theorem dX6_follows_181 : decode cX6_follows 181 = .ok (.aload_n 0, 1) := by decide +kernel
theorem dX6_follows_182 : decode cX6_follows 182 = .ok (.getfield 148, 3) := by decide +kernel
theorem dX6_follows_185 : decode cX6_follows 185 = .ok (.sipush 131, 3) := by decide +kernel
theorem dX6_follows_188 : decode cX6_follows 188 = .ok (.if_icmp .ne 16, 3) := by decide +kernel
theorem dX6_follows_191 : decode cX6_follows 191 = .ok (.aload_n 0, 1) := by decide +kernel
theorem dX6_follows_192 : decode cX6_follows 192 = .ok (.invokevirtual 117, 3) := by decide +kernel
theorem dX6_follows_195 : decode cX6_follows 195 = .ok (.invokestatic 136, 3) := by decide +kernel
theorem dX6_follows_198 : decode cX6_follows 198 = .ok (.ldc 39, 2) := by decide +kernel
theorem dX6_follows_200 : decode cX6_follows 200 = .ok (.iand, 1) := by decide +kernel
theorem dX6_follows_201 : decode cX6_follows 201 = .ok (.goto 7, 3) := by decide +kernel
theorem dX6_follows_204 : decode cX6_follows 204 = .ok (.aload_n 0, 1) := by decide +kernel
theorem dX6_follows_205 : decode cX6_follows 205 = .ok (.invokevirtual 117, 3) := by decide +kernel
theorem dX6_follows_208 : decode cX6_follows 208 = .ok (.putfield 164, 3) := by decide +kernel
theorem dX6_follows_211 : decode cX6_follows 211 = .ok (.goto 297, 3) := by decide +kernel
theorem dX6_follows_214 : decode cX6_follows 214 = .ok (.aload_n 0, 1) := by decide +kernel
theorem dX6_follows_215 : decode cX6_follows 215 = .ok (.getfield 148, 3) := by decide +kernel
theorem dX6_follows_218 : decode cX6_follows 218 = .ok (.sipush 154, 3) := by decide +kernel
theorem dX6_follows_221 : decode cX6_follows 221 = .ok (.if_icmp .eq 13, 3) := by decide +kernel
theorem dX6_follows_224 : decode cX6_follows 224 = .ok (.aload_n 0, 1) := by decide +kernel
theorem dX6_follows_225 : decode cX6_follows 225 = .ok (.getfield 148, 3) := by decide +kernel
theorem dX6_follows_228 : decode cX6_follows 228 = .ok (.sipush 234, 3) := by decide +kernel
theorem dX6_follows_231 : decode cX6_follows 231 = .ok (.if_icmp .ne 22, 3) := by decide +kernel
theorem dX6_follows_234 : decode cX6_follows 234 = .ok (.aload_n 0, 1) := by decide +kernel
theorem dX6_follows_235 : decode cX6_follows 235 = .ok (.aload_n 0, 1) := by decide +kernel
theorem dX6_follows_236 : decode cX6_follows 236 = .ok (.invokevirtual 121, 3) := by decide +kernel
theorem dX6_follows_239 : decode cX6_follows 239 = .ok (.putfield 164, 3) := by decide +kernel
theorem dX6_follows_242 : decode cX6_follows 242 = .ok (.aload_n 0, 1) := by decide +kernel
theorem dX6_follows_243 : decode cX6_follows 243 = .ok (.aload_n 0, 1) := by decide +kernel
theorem dX6_follows_244 : decode cX6_follows 244 = .ok (.invokevirtual 121, 3) := by decide +kernel
theorem dX6_follows_247 : decode cX6_follows 247 = .ok (.putfield 167, 3) := by decide +kernel
theorem dX6_follows_250 : decode cX6_follows 250 = .ok (.goto 258, 3) := by decide +kernel
theorem dX6_follows_253 : decode cX6_follows 253 = .ok (.aload_n 0, 1) := by decide +kernel
theorem dX6_follows_254 : decode cX6_follows 254 = .ok (.getfield 148, 3) := by decide +kernel
theorem dX6_follows_257 : decode cX6_follows 257 = .ok (.sipush 160, 3) := by decide +kernel
theorem dX6_follows_260 : decode cX6_follows 260 = .ok (.if_icmp .lt 13, 3) := by decide +kernel
theorem dX6_follows_263 : decode cX6_follows 263 = .ok (.aload_n 0, 1) := by decide +kernel
theorem dX6_follows_264 : decode cX6_follows 264 = .ok (.getfield 148, 3) := by decide +kernel
theorem dX6_follows_267 : decode cX6_follows 267 = .ok (.sipush 164, 3) := by decide +kernel
theorem dX6_follows_270 : decode cX6_follows 270 = .ok (.if_icmp .lt 63, 3) := by decide +kernel
theorem dX6_follows_273 : decode cX6_follows 273 = .ok (.aload_n 0, 1) := by decide +kernel
theorem dX6_follows_274 : decode cX6_follows 274 = .ok (.getfield 148, 3) := by decide +kernel
theorem dX6_follows_277 : decode cX6_follows 277 = .ok (.sipush 192, 3) := by decide +kernel
theorem dX6_follows_280 : decode cX6_follows 280 = .ok (.if_icmp .eq 53, 3) := by decide +kernel
theorem dX6_follows_283 : decode cX6_follows 283 = .ok (.aload_n 0, 1) := by decide +kernel
theorem dX6_follows_284 : decode cX6_follows 284 = .ok (.getfield 148, 3) := by decide +kernel
theorem dX6_follows_287 : decode cX6_follows 287 = .ok (.sipush 194, 3) := by decide +kernel
theorem dX6_follows_290 : decode cX6_follows 290 = .ok (.if_icmp .eq 43, 3) := by decide +kernel
theorem dX6_follows_293 : decode cX6_follows 293 = .ok (.aload_n 0, 1) := by decide +kernel
theorem dX6_follows_294 : decode cX6_follows 294 = .ok (.getfield 148, 3) := by decide +kernel
theorem dX6_follows_297 : decode cX6_follows 297 = .ok (.sipush 200, 3) := by decide +kernel
theorem dX6_follows_300 : decode cX6_follows 300 = .ok (.if_icmp .eq 33, 3) := by decide +kernel
theorem dX6_follows_303 : decode cX6_follows 303 = .ok (.aload_n 0, 1) := by decide +kernel
theorem dX6_follows_304 : decode cX6_follows 304 = .ok (.getfield 148, 3) := by decide +kernel
theorem dX6_follows_307 : decode cX6_follows 307 = .ok (.sipush 202, 3) := by decide +kernel
theorem dX6_follows_310 : decode cX6_follows 310 = .ok (.if_icmp .eq 23, 3) := by decide +kernel
theorem dX6_follows_313 : decode cX6_follows 313 = .ok (.aload_n 0, 1) := by decide +kernel
theorem dX6_follows_314 : decode cX6_follows 314 = .ok (.getfield 148, 3) := by decide +kernel
theorem dX6_follows_317 : decode cX6_follows 317 = .ok (.sipush 232, 3) := by decide +kernel
theorem dX6_follows_320 : decode cX6_follows 320 = .ok (.if_icmp .eq 13, 3) := by decide +kernel
theorem dX6_follows_323 : decode cX6_follows 323 = .ok (.aload_n 0, 1) := by decide +kernel
theorem dX6_follows_324 : decode cX6_follows 324 = .ok (.getfield 148, 3) := by decide +kernel
theorem dX6_follows_327 : decode cX6_follows 327 = .ok (.sipush 233, 3) := by decide +kernel
theorem dX6_follows_330 : decode cX6_follows 330 = .ok (.if_icmp .ne 14, 3) := by decide +kernel
theorem dX6_follows_333 : decode cX6_follows 333 = .ok (.aload_n 0, 1) := by decide +kernel
theorem dX6_follows_334 : decode cX6_follows 334 = .ok (.aload_n 0, 1) := by decide +kernel
theorem dX6_follows_335 : decode cX6_follows 335 = .ok (.invokevirtual 121, 3) := by decide +kernel
theorem dX6_follows_338 : decode cX6_follows 338 = .ok (.putfield 164, 3) := by decide +kernel
theorem dX6_follows_341 : decode cX6_follows 341 = .ok (.goto 167, 3) := by decide +kernel
theorem dX6_follows_344 : decode cX6_follows 344 = .ok (.aload_n 0, 1) := by decide +kernel
theorem dX6_follows_345 : decode cX6_follows 345 = .ok (.getfield 148, 3) := by decide +kernel
theorem dX6_follows_348 : decode cX6_follows 348 = .ok (.sipush 176, 3) := by decide +kernel
theorem dX6_follows_351 : decode cX6_follows 351 = .ok (.if_icmp .lt 39, 3) := by decide +kernel
theorem dX6_follows_354 : decode cX6_follows 354 = .ok (.aload_n 0, 1) := by decide +kernel
theorem dX6_follows_355 : decode cX6_follows 355 = .ok (.getfield 148, 3) := by decide +kernel
theorem dX6_follows_358 : decode cX6_follows 358 = .ok (.sipush 192, 3) := by decide +kernel
theorem dX6_follows_361 : decode cX6_follows 361 = .ok (.if_icmp .ge 29, 3) := by decide +kernel
theorem dX6_follows_364 : decode cX6_follows 364 = .ok (.aload_n 0, 1) := by decide +kernel
theorem dX6_follows_365 : decode cX6_follows 365 = .ok (.aload_n 0, 1) := by decide +kernel
theorem dX6_follows_366 : decode cX6_follows 366 = .ok (.aload_n 0, 1) := by decide +kernel
theorem dX6_follows_367 : decode cX6_follows 367 = .ok (.getfield 148, 3) := by decide +kernel
theorem dX6_follows_370 : decode cX6_follows 370 = .ok (.sipush 184, 3) := by decide +kernel
theorem dX6_follows_373 : decode cX6_follows 373 = .ok (.if_icmp .lt 7, 3) := by decide +kernel
theorem dX6_follows_376 : decode cX6_follows 376 = .ok (.iconst 1, 1) := by decide +kernel
theorem dX6_follows_377 : decode cX6_follows 377 = .ok (.goto 4, 3) := by decide +kernel
theorem dX6_follows_380 : decode cX6_follows 380 = .ok (.iconst 0, 1) := by decide +kernel
theorem dX6_follows_381 : decode cX6_follows 381 = .ok (.invokevirtual 161, 3) := by decide +kernel
theorem dX6_follows_384 : decode cX6_follows 384 = .ok (.putfield 164, 3) := by decide +kernel
theorem dX6_follows_387 : decode cX6_follows 387 = .ok (.goto 121, 3) := by decide +kernel
theorem dX6_follows_390 : decode cX6_follows 390 = .ok (.aload_n 0, 1) := by decide +kernel
theorem dX6_follows_391 : decode cX6_follows 391 = .ok (.getfield 148, 3) := by decide +kernel
theorem dX6_follows_394 : decode cX6_follows 394 = .ok (.sipush 198, 3) := by decide +kernel
theorem dX6_follows_397 : decode cX6_follows 397 = .ok (.if_icmp .eq 41, 3) := by decide +kernel
theorem dX6_follows_400 : decode cX6_follows 400 = .ok (.aload_n 0, 1) := by decide +kernel
theorem dX6_follows_401 : decode cX6_follows 401 = .ok (.getfield 148, 3) := by decide +kernel
theorem dX6_follows_404 : decode cX6_follows 404 = .ok (.sipush 199, 3) := by decide +kernel
theorem dX6_follows_407 : decode cX6_follows 407 = .ok (.if_icmp .eq 31, 3) := by decide +kernel
theorem dX6_follows_410 : decode cX6_follows 410 = .ok (.aload_n 0, 1) := by decide +kernel
theorem dX6_follows_411 : decode cX6_follows 411 = .ok (.getfield 148, 3) := by decide +kernel
theorem dX6_follows_414 : decode cX6_follows 414 = .ok (.sipush 246, 3) := by decide +kernel
theorem dX6_follows_417 : decode cX6_follows 417 = .ok (.if_icmp .eq 13, 3) := by decide +kernel
theorem dX6_follows_420 : decode cX6_follows 420 = .ok (.aload_n 0, 1) := by decide +kernel
theorem dX6_follows_421 : decode cX6_follows 421 = .ok (.getfield 148, 3) := by decide +kernel
theorem dX6_follows_424 : decode cX6_follows 424 = .ok (.sipush 247, 3) := by decide +kernel
theorem dX6_follows_427 : decode cX6_follows 427 = .ok (.if_icmp .ne 23, 3) := by decide +kernel
theorem dX6_follows_430 : decode cX6_follows 430 = .ok (.aload_n 0, 1) := by decide +kernel
theorem dX6_follows_431 : decode cX6_follows 431 = .ok (.getfield 130, 3) := by decide +kernel
theorem dX6_follows_434 : decode cX6_follows 434 = .ok (.iconst 2, 1) := by decide +kernel
theorem dX6_follows_435 : decode cX6_follows 435 = .ok (.if_icmp .ge 15, 3) := by decide +kernel
theorem dX6_follows_438 : decode cX6_follows 438 = .ok (.aload_n 0, 1) := by decide +kernel
theorem dX6_follows_439 : decode cX6_follows 439 = .ok (.aload_n 0, 1) := by decide +kernel
theorem dX6_follows_440 : decode cX6_follows 440 = .ok (.iload_n 1, 1) := by decide +kernel
theorem dX6_follows_441 : decode cX6_follows 441 = .ok (.invokevirtual 161, 3) := by decide +kernel
theorem dX6_follows_444 : decode cX6_follows 444 = .ok (.putfield 164, 3) := by decide +kernel
theorem dX6_follows_447 : decode cX6_follows 447 = .ok (.goto 61, 3) := by decide +kernel
theorem dX6_follows_450 : decode cX6_follows 450 = .ok (.aload_n 0, 1) := by decide +kernel
theorem dX6_follows_451 : decode cX6_follows 451 = .ok (.getfield 148, 3) := by decide +kernel
theorem dX6_follows_454 : decode cX6_follows 454 = .ok (.sipush 205, 3) := by decide +kernel
theorem dX6_follows_457 : decode cX6_follows 457 = .ok (.if_icmp .eq 43, 3) := by decide +kernel
theorem dX6_follows_460 : decode cX6_follows 460 = .ok (.aload_n 0, 1) := by decide +kernel
theorem dX6_follows_461 : decode cX6_follows 461 = .ok (.getfield 148, 3) := by decide +kernel
theorem dX6_follows_464 : decode cX6_follows 464 = .ok (.sipush 212, 3) := by decide +kernel
theorem dX6_follows_467 : decode cX6_follows 467 = .ok (.if_icmp .eq 33, 3) := by decide +kernel
theorem dX6_follows_470 : decode cX6_follows 470 = .ok (.aload_n 0, 1) := by decide +kernel
theorem dX6_follows_471 : decode cX6_follows 471 = .ok (.getfield 148, 3) := by decide +kernel
theorem dX6_follows_474 : decode cX6_follows 474 = .ok (.sipush 213, 3) := by decide +kernel
theorem dX6_follows_477 : decode cX6_follows 477 = .ok (.if_icmp .eq 23, 3) := by decide +kernel
theorem dX6_follows_480 : decode cX6_follows 480 = .ok (.aload_n 0, 1) := by decide +kernel
theorem dX6_follows_481 : decode cX6_follows 481 = .ok (.getfield 148, 3) := by decide +kernel
theorem dX6_follows_484 : decode cX6_follows 484 = .ok (.sipush 228, 3) := by decide +kernel
theorem dX6_follows_487 : decode cX6_follows 487 = .ok (.if_icmp .lt 21, 3) := by decide +kernel
theorem dX6_follows_490 : decode cX6_follows 490 = .ok (.aload_n 0, 1) := by decide +kernel
theorem dX6_follows_491 : decode cX6_follows 491 = .ok (.getfield 148, 3) := by decide +kernel
theorem dX6_follows_494 : decode cX6_follows 494 = .ok (.sipush 232, 3) := by decide +kernel
theorem dX6_follows_497 : decode cX6_follows 497 = .ok (.if_icmp .ge 11, 3) := by decide +kernel
theorem dX6_follows_500 : decode cX6_follows 500 = .ok (.aload_n 0, 1) := by decide +kernel
theorem dX6_follows_501 : decode cX6_follows 501 = .ok (.aload_n 0, 1) := by decide +kernel
theorem dX6_follows_502 : decode cX6_follows 502 = .ok (.invokevirtual 117, 3) := by decide +kernel
theorem dX6_follows_505 : decode cX6_follows 505 = .ok (.putfield 164, 3) := by decide +kernel
theorem dX6_follows_508 : decode cX6_follows 508 = .ok (.aload_n 0, 1) := by decide +kernel
theorem dX6_follows_509 : decode cX6_follows 509 = .ok (.getfield 148, 3) := by decide +kernel
theorem dX6_follows_512 : decode cX6_follows 512 = .ok (.sipush 255, 3) := by decide +kernel
theorem dX6_follows_515 : decode cX6_follows 515 = .ok (.if_icmp .ne 23, 3) := by decide +kernel
theorem dX6_follows_518 : decode cX6_follows 518 = .ok (.aload_n 0, 1) := by decide +kernel
theorem dX6_follows_519 : decode cX6_follows 519 = .ok (.getfield 130, 3) := by decide +kernel
theorem dX6_follows_522 : decode cX6_follows 522 = .ok (.iconst 3, 1) := by decide +kernel
theorem dX6_follows_523 : decode cX6_follows 523 = .ok (.if_icmp .eq 11, 3) := by decide +kernel
theorem dX6_follows_526 : decode cX6_follows 526 = .ok (.aload_n 0, 1) := by decide +kernel
theorem dX6_follows_527 : decode cX6_follows 527 = .ok (.getfield 130, 3) := by decide +kernel
theorem dX6_follows_530 : decode cX6_follows 530 = .ok (.iconst 5, 1) := by decide +kernel
theorem dX6_follows_531 : decode cX6_follows 531 = .ok (.if_icmp .ne 7, 3) := by decide +kernel
theorem dX6_follows_534 : decode cX6_follows 534 = .ok (.iconst 1, 1) := by decide +kernel
theorem dX6_follows_535 : decode cX6_follows 535 = .ok (.goto 4, 3) := by decide +kernel
theorem dX6_follows_538 : decode cX6_follows 538 = .ok (.iconst 0, 1) := by decide +kernel
theorem dX6_follows_539 : decode cX6_follows 539 = .ok (.istore_n 2, 1) := by decide +kernel
theorem dX6_follows_540 : decode cX6_follows 540 = .ok (.aload_n 0, 1) := by decide +kernel
theorem dX6_follows_541 : decode cX6_follows 541 = .ok (.getfield 148, 3) := by decide +kernel
theorem dX6_follows_544 : decode cX6_follows 544 = .ok (.sipush 141, 3) := by decide +kernel
theorem dX6_follows_547 : decode cX6_follows 547 = .ok (.if_icmp .eq 27, 3) := by decide +kernel
theorem dX6_follows_550 : decode cX6_follows 550 = .ok (.aload_n 0, 1) := by decide +kernel
theorem dX6_follows_551 : decode cX6_follows 551 = .ok (.getfield 148, 3) := by decide +kernel
theorem dX6_follows_554 : decode cX6_follows 554 = .ok (.sipush 196, 3) := by decide +kernel
theorem dX6_follows_557 : decode cX6_follows 557 = .ok (.if_icmp .eq 17, 3) := by decide +kernel
theorem dX6_follows_560 : decode cX6_follows 560 = .ok (.aload_n 0, 1) := by decide +kernel
theorem dX6_follows_561 : decode cX6_follows 561 = .ok (.getfield 148, 3) := by decide +kernel
theorem dX6_follows_564 : decode cX6_follows 564 = .ok (.sipush 197, 3) := by decide +kernel
theorem dX6_follows_567 : decode cX6_follows 567 = .ok (.if_icmp .eq 7, 3) := by decide +kernel
theorem dX6_follows_570 : decode cX6_follows 570 = .ok (.iload_n 2, 1) := by decide +kernel
theorem dX6_follows_571 : decode cX6_follows 571 = .ok (.ifCond .eq 7, 3) := by decide +kernel
theorem dX6_follows_574 : decode cX6_follows 574 = .ok (.iconst 1, 1) := by decide +kernel
theorem dX6_follows_575 : decode cX6_follows 575 = .ok (.goto 4, 3) := by decide +kernel
theorem dX6_follows_578 : decode cX6_follows 578 = .ok (.iconst 0, 1) := by decide +kernel
theorem dX6_follows_579 : decode cX6_follows 579 = .ok (.istore_n 3, 1) := by decide +kernel
theorem dX6_follows_580 : decode cX6_follows 580 = .ok (.iload_n 3, 1) := by decide +kernel
theorem dX6_follows_581 : decode cX6_follows 581 = .ok (.ifCond .eq 11, 3) := by decide +kernel
theorem dX6_follows_584 : decode cX6_follows 584 = .ok (.aload_n 0, 1) := by decide +kernel
theorem dX6_follows_585 : decode cX6_follows 585 = .ok (.getfield 127, 3) := by decide +kernel
theorem dX6_follows_588 : decode cX6_follows 588 = .ok (.iconst 3, 1) := by decide +kernel
theorem dX6_follows_589 : decode cX6_follows 589 = .ok (.if_icmp .eq 25, 3) := by decide +kernel
theorem dX6_follows_592 : decode cX6_follows 592 = .ok (.aload_n 0, 1) := by decide +kernel
theorem dX6_follows_593 : decode cX6_follows 593 = .ok (.getfield 148, 3) := by decide +kernel
theorem dX6_follows_596 : decode cX6_follows 596 = .ok (.sipush 254, 3) := by decide +kernel
theorem dX6_follows_599 : decode cX6_follows 599 = .ok (.if_icmp .ne 11, 3) := by decide +kernel
theorem dX6_follows_602 : decode cX6_follows 602 = .ok (.aload_n 0, 1) := by decide +kernel
theorem dX6_follows_603 : decode cX6_follows 603 = .ok (.getfield 130, 3) := by decide +kernel
theorem dX6_follows_606 : decode cX6_follows 606 = .ok (.iconst 2, 1) := by decide +kernel
theorem dX6_follows_607 : decode cX6_follows 607 = .ok (.if_icmp .ge 7, 3) := by decide +kernel
theorem dX6_follows_610 : decode cX6_follows 610 = .ok (.iconst 1, 1) := by decide +kernel
theorem dX6_follows_611 : decode cX6_follows 611 = .ok (.goto 4, 3) := by decide +kernel
theorem dX6_follows_614 : decode cX6_follows 614 = .ok (.iconst 0, 1) := by decide +kernel
theorem dX6_follows_615 : decode cX6_follows 615 = .ok (.ireturn, 1) := by decide +kernel
set_option maxRecDepth 20000 in
theorem ggX6_decode_X6_fetch : GoodIn wsX6_decode wsX6_fetch := goodIn_r _ [11, 12, 3, 13, 14, 10, 15, 16, 17, 18, 19, 20, 21, 22, 23, 63, 64, 65, 66, 67, 68, 69, 70, 71, 72, 73, 74, 75, 76, 77, 78, 79, 80, 81, 82, 83, 84, 85, 86, 87, 88, 89, 90, 91] (by decide +kernel) (by decide +kernel)
set_option maxRecDepth 20000 in
theorem gX6_decode_X6_fetch : GoodIn wsX6_decode (wsV RX6 117 RX6 yX6_fetch wsX6_fetch) := goodIn_app (goodIn_of _ (by decide +kernel)) ggX6_decode_X6_fetch
set_option maxRecDepth 20000 in
theorem ggX6_decode_X6_follows : GoodIn wsX6_decode wsX6_follows := goodIn_r _ [27, 6, 28, 16, 29, 30, 31, 32, 33, 34, 10, 35, 36, 37, 38, 39, 40, 41, 42, 43, 7, 8, 9, 11, 12, 3, 13, 14, 15, 17, 18, 19, 20, 21, 22, 23, 44, 45, 46, 47, 48, 49, 50, 51, 52, 53, 54, 4, 55, 56, 57, 58, 59, 60, 61, 62, 63, 64, 65, 66, 67, 68, 69, 70, 71, 72, 73, 74, 75, 76, 77, 78, 79, 80, 81, 82, 83, 84, 85, 86, 87, 88, 89, 90, 91] (by decide +kernel) (by decide +kernel)
set_option maxRecDepth 20000 in
theorem gX6_decode_X6_follows : GoodIn wsX6_decode (wsV RX6 179 RX6 yX6_follows wsX6_follows) := goodIn_app (goodIn_of _ (by decide +kernel)) ggX6_decode_X6_follows
theorem dX6_decode_0 : decode cX6_decode 0 = .ok (.aload_n 0, 1) := by decide +kernel
theorem dX6_decode_1 : decode cX6_decode 1 = .ok (.aload_n 0, 1) := by decide +kernel
theorem dX6_decode_2 : decode cX6_decode 2 = .ok (.getfield 170, 3) := by decide +kernel
theorem dX6_decode_5 : decode cX6_decode 5 = .ok (.putfield 173, 3) := by decide +kernel
theorem dX6_decode_8 : decode cX6_decode 8 = .ok (.aload_n 0, 1) := by decide +kernel
theorem dX6_decode_9 : decode cX6_decode 9 = .ok (.aload_n 0, 1) := by decide +kernel
theorem dX6_decode_10 : decode cX6_decode 10 = .ok (.getfield 170, 3) := by decide +kernel
theorem dX6_decode_13 : decode cX6_decode 13 = .ok (.putfield 114, 3) := by decide +kernel
theorem dX6_decode_16 : decode cX6_decode 16 = .ok (.aload_n 0, 1) := by decide +kernel
theorem dX6_decode_17 : decode cX6_decode 17 = .ok (.iconst (-1), 1) := by decide +kernel
theorem dX6_decode_18 : decode cX6_decode 18 = .ok (.putfield 124, 3) := by decide +kernel
theorem dX6_decode_21 : decode cX6_decode 21 = .ok (.aload_n 0, 1) := by decide +kernel
theorem dX6_decode_22 : decode cX6_decode 22 = .ok (.iconst 0, 1) := by decide +kernel
theorem dX6_decode_23 : decode cX6_decode 23 = .ok (.putfield 176, 3) := by decide +kernel
theorem dX6_decode_26 : decode cX6_decode 26 = .ok (.iconst 1, 1) := by decide +kernel
theorem dX6_decode_27 : decode cX6_decode 27 = .ok (.istore_n 1, 1) := by decide +kernel
theorem dX6_decode_28 : decode cX6_decode 28 = .ok (.iload_n 1, 1) := by decide +kernel
theorem dX6_decode_29 : decode cX6_decode 29 = .ok (.ifCond .eq 123, 3) := by decide +kernel
theorem dX6_decode_32 : decode cX6_decode 32 = .ok (.aload_n 0, 1) := by decide +kernel
theorem dX6_decode_33 : decode cX6_decode 33 = .ok (.getfield 114, 3) := by decide +kernel
theorem dX6_decode_36 : decode cX6_decode 36 = .ok (.aload_n 0, 1) := by decide +kernel
theorem dX6_decode_37 : decode cX6_decode 37 = .ok (.getfield 173, 3) := by decide +kernel
theorem dX6_decode_40 : decode cX6_decode 40 = .ok (.isub, 1) := by decide +kernel
theorem dX6_decode_41 : decode cX6_decode 41 = .ok (.bipush 16, 2) := by decide +kernel
theorem dX6_decode_43 : decode cX6_decode 43 = .ok (.if_icmp .ge 109, 3) := by decide +kernel
theorem dX6_decode_46 : decode cX6_decode 46 = .ok (.aload_n 0, 1) := by decide +kernel
theorem dX6_decode_47 : decode cX6_decode 47 = .ok (.aload_n 0, 1) := by decide +kernel
theorem dX6_decode_48 : decode cX6_decode 48 = .ok (.invokevirtual 117, 3) := by decide +kernel
theorem dX6_decode_51 : decode cX6_decode 51 = .ok (.putfield 148, 3) := by decide +kernel
theorem dX6_decode_54 : decode cX6_decode 54 = .ok (.aload_n 0, 1) := by decide +kernel
theorem dX6_decode_55 : decode cX6_decode 55 = .ok (.getfield 148, 3) := by decide +kernel
theorem dX6_decode_58 : decode cX6_decode 58 = .ok (.sipush 231, 3) := by decide +kernel
theorem dX6_decode_61 : decode cX6_decode 61 = .ok (.iand, 1) := by decide +kernel
theorem dX6_decode_62 : decode cX6_decode 62 = .ok (.bipush 38, 2) := by decide +kernel
theorem dX6_decode_64 : decode cX6_decode 64 = .ok (.if_icmp .eq 23, 3) := by decide +kernel
theorem dX6_decode_67 : decode cX6_decode 67 = .ok (.aload_n 0, 1) := by decide +kernel
theorem dX6_decode_68 : decode cX6_decode 68 = .ok (.getfield 148, 3) := by decide +kernel
theorem dX6_decode_71 : decode cX6_decode 71 = .ok (.sipush 240, 3) := by decide +kernel
theorem dX6_decode_74 : decode cX6_decode 74 = .ok (.if_icmp .lt 17, 3) := by decide +kernel
theorem dX6_decode_77 : decode cX6_decode 77 = .ok (.aload_n 0, 1) := by decide +kernel
theorem dX6_decode_78 : decode cX6_decode 78 = .ok (.getfield 148, 3) := by decide +kernel
theorem dX6_decode_81 : decode cX6_decode 81 = .ok (.sipush 244, 3) := by decide +kernel
theorem dX6_decode_84 : decode cX6_decode 84 = .ok (.if_icmp .ge 7, 3) := by decide +kernel
theorem dX6_decode_87 : decode cX6_decode 87 = .ok (.iconst 1, 1) := by decide +kernel
theorem dX6_decode_88 : decode cX6_decode 88 = .ok (.goto 4, 3) := by decide +kernel
theorem dX6_decode_91 : decode cX6_decode 91 = .ok (.iconst 0, 1) := by decide +kernel
theorem dX6_decode_92 : decode cX6_decode 92 = .ok (.istore_n 1, 1) := by decide +kernel
theorem dX6_decode_93 : decode cX6_decode 93 = .ok (.aload_n 0, 1) := by decide +kernel
theorem dX6_decode_94 : decode cX6_decode 94 = .ok (.getfield 148, 3) := by decide +kernel
theorem dX6_decode_97 : decode cX6_decode 97 = .ok (.sipush 231, 3) := by decide +kernel
theorem dX6_decode_100 : decode cX6_decode 100 = .ok (.iand, 1) := by decide +kernel
theorem dX6_decode_101 : decode cX6_decode 101 = .ok (.bipush 38, 2) := by decide +kernel
theorem dX6_decode_103 : decode cX6_decode 103 = .ok (.if_icmp .ne 18, 3) := by decide +kernel
theorem dX6_decode_106 : decode cX6_decode 106 = .ok (.aload_n 0, 1) := by decide +kernel
theorem dX6_decode_107 : decode cX6_decode 107 = .ok (.aload_n 0, 1) := by decide +kernel
theorem dX6_decode_108 : decode cX6_decode 108 = .ok (.getfield 148, 3) := by decide +kernel
theorem dX6_decode_111 : decode cX6_decode 111 = .ok (.iconst 3, 1) := by decide +kernel
theorem dX6_decode_112 : decode cX6_decode 112 = .ok (.ishr, 1) := by decide +kernel
theorem dX6_decode_113 : decode cX6_decode 113 = .ok (.iconst 3, 1) := by decide +kernel
theorem dX6_decode_114 : decode cX6_decode 114 = .ok (.iand, 1) := by decide +kernel
theorem dX6_decode_115 : decode cX6_decode 115 = .ok (.putfield 124, 3) := by decide +kernel
theorem dX6_decode_118 : decode cX6_decode 118 = .ok (.goto (-90), 3) := by decide +kernel
theorem dX6_decode_121 : decode cX6_decode 121 = .ok (.aload_n 0, 1) := by decide +kernel
theorem dX6_decode_122 : decode cX6_decode 122 = .ok (.getfield 148, 3) := by decide +kernel
theorem dX6_decode_125 : decode cX6_decode 125 = .ok (.sipush 242, 3) := by decide +kernel
theorem dX6_decode_128 : decode cX6_decode 128 = .ok (.if_icmp .eq 13, 3) := by decide +kernel
theorem dX6_decode_131 : decode cX6_decode 131 = .ok (.aload_n 0, 1) := by decide +kernel
theorem dX6_decode_132 : decode cX6_decode 132 = .ok (.getfield 148, 3) := by decide +kernel
theorem dX6_decode_135 : decode cX6_decode 135 = .ok (.sipush 243, 3) := by decide +kernel
theorem dX6_decode_138 : decode cX6_decode 138 = .ok (.if_icmp .ne (-110), 3) := by decide +kernel
theorem dX6_decode_141 : decode cX6_decode 141 = .ok (.aload_n 0, 1) := by decide +kernel
theorem dX6_decode_142 : decode cX6_decode 142 = .ok (.aload_n 0, 1) := by decide +kernel
theorem dX6_decode_143 : decode cX6_decode 143 = .ok (.getfield 148, 3) := by decide +kernel
theorem dX6_decode_146 : decode cX6_decode 146 = .ok (.putfield 176, 3) := by decide +kernel
theorem dX6_decode_149 : decode cX6_decode 149 = .ok (.goto (-121), 3) := by decide +kernel
theorem dX6_decode_152 : decode cX6_decode 152 = .ok (.iload_n 1, 1) := by decide +kernel
theorem dX6_decode_153 : decode cX6_decode 153 = .ok (.ifCond .ne 28, 3) := by decide +kernel
theorem dX6_decode_156 : decode cX6_decode 156 = .ok (.aload_n 0, 1) := by decide +kernel
theorem dX6_decode_157 : decode cX6_decode 157 = .ok (.invokevirtual 179, 3) := by decide +kernel
theorem dX6_decode_160 : decode cX6_decode 160 = .ok (.ifCond .eq 21, 3) := by decide +kernel
theorem dX6_decode_163 : decode cX6_decode 163 = .ok (.aload_n 0, 1) := by decide +kernel
theorem dX6_decode_164 : decode cX6_decode 164 = .ok (.getfield 114, 3) := by decide +kernel
theorem dX6_decode_167 : decode cX6_decode 167 = .ok (.aload_n 0, 1) := by decide +kernel
theorem dX6_decode_168 : decode cX6_decode 168 = .ok (.getfield 173, 3) := by decide +kernel
theorem dX6_decode_171 : decode cX6_decode 171 = .ok (.isub, 1) := by decide +kernel
theorem dX6_decode_172 : decode cX6_decode 172 = .ok (.bipush 15, 2) := by decide +kernel
theorem dX6_decode_174 : decode cX6_decode 174 = .ok (.if_icmp .gt 7, 3) := by decide +kernel
theorem dX6_decode_177 : decode cX6_decode 177 = .ok (.iconst 1, 1) := by decide +kernel
theorem dX6_decode_178 : decode cX6_decode 178 = .ok (.goto 4, 3) := by decide +kernel
theorem dX6_decode_181 : decode cX6_decode 181 = .ok (.iconst 0, 1) := by decide +kernel
theorem dX6_decode_182 : decode cX6_decode 182 = .ok (.ireturn, 1) := by decide +kernel
set_option maxRecDepth 20000 in
theorem ggX6_operand_X6_register : GoodIn wsX6_operand wsX6_register := goodIn_r _ [9, 10, 26, 27, 28, 29, 30, 31, 32, 33, 34, 35, 36, 37, 38, 39, 40, 41, 42, 43, 44, 45, 46, 47, 48, 49, 50, 51, 52, 53, 54] (by decide +kernel) (by decide +kernel)
set_option maxRecDepth 20000 in
theorem gX6_operand_X6_register : GoodIn wsX6_operand (wsV RX6 105 RX6 yX6_register wsX6_register) := goodIn_app (goodIn_of _ (by decide +kernel)) ggX6_operand_X6_register
set_option maxRecDepth 20000 in
theorem ggX6_operand_X6_get : GoodIn wsX6_operand wsX6_get := goodIn_r _ [14, 15, 16, 8, 17, 18, 19, 20, 21, 22, 23, 24, 25, 26, 27, 28, 29, 30, 31, 32, 33, 34, 35, 36, 37, 38, 39, 40, 41, 42, 43, 44, 45, 46, 47, 48, 49, 50, 51, 52, 53, 54] (by decide +kernel) (by decide +kernel)
set_option maxRecDepth 20000 in
theorem gX6_operand_X6_get : GoodIn wsX6_operand (wsV RX6 61 RX6 yX6_get wsX6_get) := goodIn_app (goodIn_of _ (by decide +kernel)) ggX6_operand_X6_get
theorem dX6_operand_0 : decode cX6_operand 0 = .ok (.aload_n 0, 1) := by decide +kernel
theorem dX6_operand_1 : decode cX6_operand 1 = .ok (.getfield 127, 3) := by decide +kernel
theorem dX6_operand_4 : decode cX6_operand 4 = .ok (.iconst 3, 1) := by decide +kernel
theorem dX6_operand_5 : decode cX6_operand 5 = .ok (.if_icmp .ne 15, 3) := by decide +kernel
theorem dX6_operand_8 : decode cX6_operand 8 = .ok (.aload_n 0, 1) := by decide +kernel
theorem dX6_operand_9 : decode cX6_operand 9 = .ok (.aload_n 0, 1) := by decide +kernel
theorem dX6_operand_10 : decode cX6_operand 10 = .ok (.getfield 133, 3) := by decide +kernel
theorem dX6_operand_13 : decode cX6_operand 13 = .ok (.iload_n 1, 1) := by decide +kernel
theorem dX6_operand_14 : decode cX6_operand 14 = .ok (.invokevirtual 105, 3) := by decide +kernel
theorem dX6_operand_17 : decode cX6_operand 17 = .ok (.goto 16, 3) := by decide +kernel
theorem dX6_operand_20 : decode cX6_operand 20 = .ok (.aload_n 0, 1) := by decide +kernel
theorem dX6_operand_21 : decode cX6_operand 21 = .ok (.aload_n 0, 1) := by decide +kernel
theorem dX6_operand_22 : decode cX6_operand 22 = .ok (.getfield 145, 3) := by decide +kernel
theorem dX6_operand_25 : decode cX6_operand 25 = .ok (.aload_n 0, 1) := by decide +kernel
theorem dX6_operand_26 : decode cX6_operand 26 = .ok (.getfield 139, 3) := by decide +kernel
theorem dX6_operand_29 : decode cX6_operand 29 = .ok (.iload_n 1, 1) := by decide +kernel
theorem dX6_operand_30 : decode cX6_operand 30 = .ok (.invokevirtual 61, 3) := by decide +kernel
theorem dX6_operand_33 : decode cX6_operand 33 = .ok (.ireturn, 1) := by decide +kernel
set_option maxRecDepth 20000 in
theorem ggX6_give_X6_setRegister : GoodIn wsX6_give wsX6_setRegister := goodIn_r _ [9, 10, 11, 12, 29, 30, 31, 32, 33, 34, 35, 36, 37, 38, 39, 40, 41, 42, 43, 44, 45, 46, 47, 48, 49, 50, 51, 52, 53, 54, 55, 56, 57] (by decide +kernel) (by decide +kernel)
set_option maxRecDepth 20000 in
theorem gX6_give_X6_setRegister : GoodIn wsX6_give (wsV RX6 101 RX6 yX6_setRegister wsX6_setRegister) := goodIn_app (goodIn_of _ (by decide +kernel)) ggX6_give_X6_setRegister
set_option maxRecDepth 20000 in
theorem ggX6_give_X6_put : GoodIn wsX6_give wsX6_put := goodIn_r _ [16, 17, 18, 8, 19, 11, 20, 21, 22, 23, 24, 25, 26, 27, 28, 29, 30, 31, 32, 33, 34, 35, 36, 37, 38, 39, 40, 41, 42, 43, 44, 45, 46, 47, 48, 49, 50, 51, 52, 53, 54, 55, 56, 57] (by decide +kernel) (by decide +kernel)
set_option maxRecDepth 20000 in
theorem gX6_give_X6_put : GoodIn wsX6_give (wsV RX6 57 RX6 yX6_put wsX6_put) := goodIn_app (goodIn_of _ (by decide +kernel)) ggX6_give_X6_put
theorem dX6_give_0 : decode cX6_give 0 = .ok (.aload_n 0, 1) := by decide +kernel
theorem dX6_give_1 : decode cX6_give 1 = .ok (.getfield 127, 3) := by decide +kernel
theorem dX6_give_4 : decode cX6_give 4 = .ok (.iconst 3, 1) := by decide +kernel
theorem dX6_give_5 : decode cX6_give 5 = .ok (.if_icmp .ne 16, 3) := by decide +kernel
theorem dX6_give_8 : decode cX6_give 8 = .ok (.aload_n 0, 1) := by decide +kernel
theorem dX6_give_9 : decode cX6_give 9 = .ok (.aload_n 0, 1) := by decide +kernel
theorem dX6_give_10 : decode cX6_give 10 = .ok (.getfield 133, 3) := by decide +kernel
theorem dX6_give_13 : decode cX6_give 13 = .ok (.iload_n 1, 1) := by decide +kernel
theorem dX6_give_14 : decode cX6_give 14 = .ok (.iload_n 2, 1) := by decide +kernel
theorem dX6_give_15 : decode cX6_give 15 = .ok (.invokevirtual 101, 3) := by decide +kernel
theorem dX6_give_18 : decode cX6_give 18 = .ok (.goto 17, 3) := by decide +kernel
theorem dX6_give_21 : decode cX6_give 21 = .ok (.aload_n 0, 1) := by decide +kernel
theorem dX6_give_22 : decode cX6_give 22 = .ok (.aload_n 0, 1) := by decide +kernel
theorem dX6_give_23 : decode cX6_give 23 = .ok (.getfield 145, 3) := by decide +kernel
theorem dX6_give_26 : decode cX6_give 26 = .ok (.aload_n 0, 1) := by decide +kernel
theorem dX6_give_27 : decode cX6_give 27 = .ok (.getfield 139, 3) := by decide +kernel
theorem dX6_give_30 : decode cX6_give 30 = .ok (.iload_n 1, 1) := by decide +kernel
theorem dX6_give_31 : decode cX6_give 31 = .ok (.iload_n 2, 1) := by decide +kernel
theorem dX6_give_32 : decode cX6_give 32 = .ok (.invokevirtual 57, 3) := by decide +kernel
theorem dX6_give_35 : decode cX6_give 35 = .ok (.return_, 1) := by decide +kernel
set_option maxRecDepth 20000 in
theorem ggX6_interrupt_X6_push : GoodIn wsX6_interrupt wsX6_push := goodIn_r _ [9, 10, 11, 3, 12, 13, 14, 8, 15, 16, 17, 18, 19, 20, 21, 22, 23, 24, 25, 26, 27, 36, 37, 38, 39, 40, 41, 42, 43, 44, 45, 46, 47, 48, 49, 50, 51, 52, 53, 54, 55, 56, 57, 58, 59, 60, 61, 62, 63, 64] (by decide +kernel) (by decide +kernel)
set_option maxRecDepth 20000 in
theorem gX6_interrupt_X6_push : GoodIn wsX6_interrupt (wsV RX6 183 RX6 yX6_push wsX6_push) := goodIn_app (goodIn_of _ (by decide +kernel)) ggX6_interrupt_X6_push
set_option maxRecDepth 20000 in
theorem ggX6_interrupt_X6_get : GoodIn wsX6_interrupt wsX6_get := goodIn_r _ [31, 16, 17, 8, 18, 11, 19, 32, 33, 34, 35, 24, 27, 36, 37, 38, 39, 40, 41, 42, 43, 44, 45, 46, 47, 48, 49, 50, 51, 52, 53, 54, 55, 56, 57, 58, 59, 60, 61, 62, 63, 64] (by decide +kernel) (by decide +kernel)
set_option maxRecDepth 20000 in
theorem gX6_interrupt_X6_get : GoodIn wsX6_interrupt (wsV RX6 61 RX6 yX6_get wsX6_get) := goodIn_app (goodIn_of _ (by decide +kernel)) ggX6_interrupt_X6_get
theorem dX6_interrupt_0 : decode cX6_interrupt 0 = .ok (.aload_n 0, 1) := by decide +kernel
theorem dX6_interrupt_1 : decode cX6_interrupt 1 = .ok (.aload_n 0, 1) := by decide +kernel
theorem dX6_interrupt_2 : decode cX6_interrupt 2 = .ok (.getfield 54, 3) := by decide +kernel
theorem dX6_interrupt_5 : decode cX6_interrupt 5 = .ok (.ldc 182, 2) := by decide +kernel
theorem dX6_interrupt_7 : decode cX6_interrupt 7 = .ok (.ior, 1) := by decide +kernel
theorem dX6_interrupt_8 : decode cX6_interrupt 8 = .ok (.invokevirtual 183, 3) := by decide +kernel
theorem dX6_interrupt_11 : decode cX6_interrupt 11 = .ok (.aload_n 0, 1) := by decide +kernel
theorem dX6_interrupt_12 : decode cX6_interrupt 12 = .ok (.aload_n 0, 1) := by decide +kernel
theorem dX6_interrupt_13 : decode cX6_interrupt 13 = .ok (.getfield 54, 3) := by decide +kernel
theorem dX6_interrupt_16 : decode cX6_interrupt 16 = .ok (.sipush (-769), 3) := by decide +kernel
theorem dX6_interrupt_19 : decode cX6_interrupt 19 = .ok (.iand, 1) := by decide +kernel
theorem dX6_interrupt_20 : decode cX6_interrupt 20 = .ok (.putfield 54, 3) := by decide +kernel
theorem dX6_interrupt_23 : decode cX6_interrupt 23 = .ok (.aload_n 0, 1) := by decide +kernel
theorem dX6_interrupt_24 : decode cX6_interrupt 24 = .ok (.aload_n 0, 1) := by decide +kernel
theorem dX6_interrupt_25 : decode cX6_interrupt 25 = .ok (.getfield 13, 3) := by decide +kernel
theorem dX6_interrupt_28 : decode cX6_interrupt 28 = .ok (.iconst 1, 1) := by decide +kernel
theorem dX6_interrupt_29 : decode cX6_interrupt 29 = .ok (.iaload, 1) := by decide +kernel
theorem dX6_interrupt_30 : decode cX6_interrupt 30 = .ok (.invokevirtual 183, 3) := by decide +kernel
theorem dX6_interrupt_33 : decode cX6_interrupt 33 = .ok (.aload_n 0, 1) := by decide +kernel
theorem dX6_interrupt_34 : decode cX6_interrupt 34 = .ok (.aload_n 0, 1) := by decide +kernel
theorem dX6_interrupt_35 : decode cX6_interrupt 35 = .ok (.getfield 170, 3) := by decide +kernel
theorem dX6_interrupt_38 : decode cX6_interrupt 38 = .ok (.invokevirtual 183, 3) := by decide +kernel
theorem dX6_interrupt_41 : decode cX6_interrupt 41 = .ok (.aload_n 0, 1) := by decide +kernel
theorem dX6_interrupt_42 : decode cX6_interrupt 42 = .ok (.aload_n 0, 1) := by decide +kernel
theorem dX6_interrupt_43 : decode cX6_interrupt 43 = .ok (.iconst 0, 1) := by decide +kernel
theorem dX6_interrupt_44 : decode cX6_interrupt 44 = .ok (.iconst 4, 1) := by decide +kernel
theorem dX6_interrupt_45 : decode cX6_interrupt 45 = .ok (.iload_n 1, 1) := by decide +kernel
theorem dX6_interrupt_46 : decode cX6_interrupt 46 = .ok (.imul, 1) := by decide +kernel
theorem dX6_interrupt_47 : decode cX6_interrupt 47 = .ok (.iconst 1, 1) := by decide +kernel
theorem dX6_interrupt_48 : decode cX6_interrupt 48 = .ok (.invokevirtual 61, 3) := by decide +kernel
theorem dX6_interrupt_51 : decode cX6_interrupt 51 = .ok (.putfield 170, 3) := by decide +kernel
theorem dX6_interrupt_54 : decode cX6_interrupt 54 = .ok (.aload_n 0, 1) := by decide +kernel
theorem dX6_interrupt_55 : decode cX6_interrupt 55 = .ok (.getfield 13, 3) := by decide +kernel
theorem dX6_interrupt_58 : decode cX6_interrupt 58 = .ok (.iconst 1, 1) := by decide +kernel
theorem dX6_interrupt_59 : decode cX6_interrupt 59 = .ok (.aload_n 0, 1) := by decide +kernel
theorem dX6_interrupt_60 : decode cX6_interrupt 60 = .ok (.iconst 0, 1) := by decide +kernel
theorem dX6_interrupt_61 : decode cX6_interrupt 61 = .ok (.iconst 4, 1) := by decide +kernel
theorem dX6_interrupt_62 : decode cX6_interrupt 62 = .ok (.iload_n 1, 1) := by decide +kernel
theorem dX6_interrupt_63 : decode cX6_interrupt 63 = .ok (.imul, 1) := by decide +kernel
theorem dX6_interrupt_64 : decode cX6_interrupt 64 = .ok (.iconst 2, 1) := by decide +kernel
theorem dX6_interrupt_65 : decode cX6_interrupt 65 = .ok (.iadd, 1) := by decide +kernel
theorem dX6_interrupt_66 : decode cX6_interrupt 66 = .ok (.iconst 1, 1) := by decide +kernel
theorem dX6_interrupt_67 : decode cX6_interrupt 67 = .ok (.invokevirtual 61, 3) := by decide +kernel
theorem dX6_interrupt_70 : decode cX6_interrupt 70 = .ok (.iastore, 1) := by decide +kernel
theorem dX6_interrupt_71 : decode cX6_interrupt 71 = .ok (.return_, 1) := by decide +kernel
theorem dX6_jump_0 : decode cX6_jump 0 = .ok (.aload_n 0, 1) := by decide +kernel
theorem dX6_jump_1 : decode cX6_jump 1 = .ok (.aload_n 0, 1) := by decide +kernel
theorem dX6_jump_2 : decode cX6_jump 2 = .ok (.getfield 170, 3) := by decide +kernel
theorem dX6_jump_5 : decode cX6_jump 5 = .ok (.iload_n 1, 1) := by decide +kernel
theorem dX6_jump_6 : decode cX6_jump 6 = .ok (.iadd, 1) := by decide +kernel
theorem dX6_jump_7 : decode cX6_jump 7 = .ok (.ldc 39, 2) := by decide +kernel
theorem dX6_jump_9 : decode cX6_jump 9 = .ok (.iand, 1) := by decide +kernel
theorem dX6_jump_10 : decode cX6_jump 10 = .ok (.putfield 170, 3) := by decide +kernel
theorem dX6_jump_13 : decode cX6_jump 13 = .ok (.return_, 1) := by decide +kernel
set_option maxRecDepth 20000 in
theorem ggX6_callFar_X6_push : GoodIn wsX6_callFar wsX6_push := goodIn_r _ [7, 8, 9, 1, 10, 11, 12, 6, 13, 14, 15, 16, 17, 18, 19, 20, 21, 22, 23, 24, 25, 26, 27, 28, 29, 30, 31, 32, 33, 34, 35, 36, 37, 38, 39, 40, 41, 42, 43, 44, 45, 46, 47, 48, 49, 50, 51, 52, 53, 54] (by decide +kernel) (by decide +kernel)
set_option maxRecDepth 20000 in
theorem gX6_callFar_X6_push : GoodIn wsX6_callFar (wsV RX6 183 RX6 yX6_push wsX6_push) := goodIn_app (goodIn_of _ (by decide +kernel)) ggX6_callFar_X6_push
theorem dX6_callFar_0 : decode cX6_callFar 0 = .ok (.aload_n 0, 1) := by decide +kernel
theorem dX6_callFar_1 : decode cX6_callFar 1 = .ok (.aload_n 0, 1) := by decide +kernel
theorem dX6_callFar_2 : decode cX6_callFar 2 = .ok (.getfield 13, 3) := by decide +kernel
theorem dX6_callFar_5 : decode cX6_callFar 5 = .ok (.iconst 1, 1) := by decide +kernel
theorem dX6_callFar_6 : decode cX6_callFar 6 = .ok (.iaload, 1) := by decide +kernel
theorem dX6_callFar_7 : decode cX6_callFar 7 = .ok (.invokevirtual 183, 3) := by decide +kernel
theorem dX6_callFar_10 : decode cX6_callFar 10 = .ok (.aload_n 0, 1) := by decide +kernel
theorem dX6_callFar_11 : decode cX6_callFar 11 = .ok (.aload_n 0, 1) := by decide +kernel
theorem dX6_callFar_12 : decode cX6_callFar 12 = .ok (.getfield 170, 3) := by decide +kernel
theorem dX6_callFar_15 : decode cX6_callFar 15 = .ok (.invokevirtual 183, 3) := by decide +kernel
theorem dX6_callFar_18 : decode cX6_callFar 18 = .ok (.aload_n 0, 1) := by decide +kernel
theorem dX6_callFar_19 : decode cX6_callFar 19 = .ok (.iload_n 1, 1) := by decide +kernel
theorem dX6_callFar_20 : decode cX6_callFar 20 = .ok (.putfield 170, 3) := by decide +kernel
theorem dX6_callFar_23 : decode cX6_callFar 23 = .ok (.aload_n 0, 1) := by decide +kernel
theorem dX6_callFar_24 : decode cX6_callFar 24 = .ok (.getfield 13, 3) := by decide +kernel
theorem dX6_callFar_27 : decode cX6_callFar 27 = .ok (.iconst 1, 1) := by decide +kernel
theorem dX6_callFar_28 : decode cX6_callFar 28 = .ok (.iload_n 2, 1) := by decide +kernel
theorem dX6_callFar_29 : decode cX6_callFar 29 = .ok (.iastore, 1) := by decide +kernel
theorem dX6_callFar_30 : decode cX6_callFar 30 = .ok (.return_, 1) := by decide +kernel
theorem dX6_isString_0 : decode cX6_isString 0 = .ok (.aload_n 0, 1) := by decide +kernel
theorem dX6_isString_1 : decode cX6_isString 1 = .ok (.getfield 148, 3) := by decide +kernel
theorem dX6_isString_4 : decode cX6_isString 4 = .ok (.sipush 164, 3) := by decide +kernel
theorem dX6_isString_7 : decode cX6_isString 7 = .ok (.if_icmp .lt 13, 3) := by decide +kernel
theorem dX6_isString_10 : decode cX6_isString 10 = .ok (.aload_n 0, 1) := by decide +kernel
theorem dX6_isString_11 : decode cX6_isString 11 = .ok (.getfield 148, 3) := by decide +kernel
theorem dX6_isString_14 : decode cX6_isString 14 = .ok (.sipush 168, 3) := by decide +kernel
theorem dX6_isString_17 : decode cX6_isString 17 = .ok (.if_icmp .lt 23, 3) := by decide +kernel
theorem dX6_isString_20 : decode cX6_isString 20 = .ok (.aload_n 0, 1) := by decide +kernel
theorem dX6_isString_21 : decode cX6_isString 21 = .ok (.getfield 148, 3) := by decide +kernel
theorem dX6_isString_24 : decode cX6_isString 24 = .ok (.sipush 170, 3) := by decide +kernel
theorem dX6_isString_27 : decode cX6_isString 27 = .ok (.if_icmp .lt 17, 3) := by decide +kernel
theorem dX6_isString_30 : decode cX6_isString 30 = .ok (.aload_n 0, 1) := by decide +kernel
theorem dX6_isString_31 : decode cX6_isString 31 = .ok (.getfield 148, 3) := by decide +kernel
theorem dX6_isString_34 : decode cX6_isString 34 = .ok (.sipush 176, 3) := by decide +kernel
theorem dX6_isString_37 : decode cX6_isString 37 = .ok (.if_icmp .ge 7, 3) := by decide +kernel
theorem dX6_isString_40 : decode cX6_isString 40 = .ok (.iconst 1, 1) := by decide +kernel
theorem dX6_isString_41 : decode cX6_isString 41 = .ok (.goto 4, 3) := by decide +kernel
theorem dX6_isString_44 : decode cX6_isString 44 = .ok (.iconst 0, 1) := by decide +kernel
theorem dX6_isString_45 : decode cX6_isString 45 = .ok (.ireturn, 1) := by decide +kernel
theorem dX6_compares_0 : decode cX6_compares 0 = .ok (.aload_n 0, 1) := by decide +kernel
theorem dX6_compares_1 : decode cX6_compares 1 = .ok (.getfield 148, 3) := by decide +kernel
theorem dX6_compares_4 : decode cX6_compares 4 = .ok (.sipush 166, 3) := by decide +kernel
theorem dX6_compares_7 : decode cX6_compares 7 = .ok (.if_icmp .eq 33, 3) := by decide +kernel
theorem dX6_compares_10 : decode cX6_compares 10 = .ok (.aload_n 0, 1) := by decide +kernel
theorem dX6_compares_11 : decode cX6_compares 11 = .ok (.getfield 148, 3) := by decide +kernel
theorem dX6_compares_14 : decode cX6_compares 14 = .ok (.sipush 167, 3) := by decide +kernel
theorem dX6_compares_17 : decode cX6_compares 17 = .ok (.if_icmp .eq 23, 3) := by decide +kernel
theorem dX6_compares_20 : decode cX6_compares 20 = .ok (.aload_n 0, 1) := by decide +kernel
theorem dX6_compares_21 : decode cX6_compares 21 = .ok (.getfield 148, 3) := by decide +kernel
theorem dX6_compares_24 : decode cX6_compares 24 = .ok (.sipush 174, 3) := by decide +kernel
theorem dX6_compares_27 : decode cX6_compares 27 = .ok (.if_icmp .eq 13, 3) := by decide +kernel
theorem dX6_compares_30 : decode cX6_compares 30 = .ok (.aload_n 0, 1) := by decide +kernel
theorem dX6_compares_31 : decode cX6_compares 31 = .ok (.getfield 148, 3) := by decide +kernel
theorem dX6_compares_34 : decode cX6_compares 34 = .ok (.sipush 175, 3) := by decide +kernel
theorem dX6_compares_37 : decode cX6_compares 37 = .ok (.if_icmp .ne 7, 3) := by decide +kernel
theorem dX6_compares_40 : decode cX6_compares 40 = .ok (.iconst 1, 1) := by decide +kernel
theorem dX6_compares_41 : decode cX6_compares 41 = .ok (.goto 4, 3) := by decide +kernel
theorem dX6_compares_44 : decode cX6_compares 44 = .ok (.iconst 0, 1) := by decide +kernel
theorem dX6_compares_45 : decode cX6_compares 45 = .ok (.ireturn, 1) := by decide +kernel
set_option maxRecDepth 20000 in
theorem ggX6_string_X6_isWide : GoodIn wsX6_string wsX6_isWide := goodIn_r _ [9, 1, 87, 88, 89, 90, 91, 92, 93, 94, 95, 96, 97, 98, 99, 100, 101, 102, 103, 104, 105, 106, 107, 108, 109, 110, 111, 112, 113, 114, 115] (by decide +kernel) (by decide +kernel)
set_option maxRecDepth 20000 in
theorem gX6_string_X6_isWide : GoodIn wsX6_string (wsV RX6 158 RX6 yX6_isWide wsX6_isWide) := goodIn_app (goodIn_of _ (by decide +kernel)) ggX6_string_X6_isWide
set_option maxRecDepth 20000 in
theorem ggX6_string_X6_has : GoodIn wsX6_string wsX6_has := goodIn_r _ [13, 14, 87, 88, 89, 90, 91, 92, 93, 94, 95, 96, 97, 98, 99, 100, 101, 102, 103, 104, 105, 106, 107, 108, 109, 110, 111, 112, 113, 114, 115] (by decide +kernel) (by decide +kernel)
set_option maxRecDepth 20000 in
theorem gX6_string_X6_has : GoodIn wsX6_string (wsV RX6 97 RX6 yX6_has wsX6_has) := goodIn_app (goodIn_of _ (by decide +kernel)) ggX6_string_X6_has
set_option maxRecDepth 20000 in
theorem ggX6_string_X6_segmentOr : GoodIn wsX6_string wsX6_segmentOr := goodIn_r _ [18, 3, 19, 87, 88, 89, 90, 91, 92, 93, 94, 95, 96, 97, 98, 99, 100, 101, 102, 103, 104, 105, 106, 107, 108, 109, 110, 111, 112, 113, 114, 115] (by decide +kernel) (by decide +kernel)
set_option maxRecDepth 20000 in
theorem gX6_string_X6_segmentOr : GoodIn wsX6_string (wsV RX6 142 RX6 yX6_segmentOr wsX6_segmentOr) := goodIn_app (goodIn_of _ (by decide +kernel)) ggX6_string_X6_segmentOr
set_option maxRecDepth 20000 in
theorem ggX6_string_X6_get : GoodIn wsX6_string wsX6_get := goodIn_r _ [23, 24, 25, 8, 26, 4, 27, 28, 29, 30, 31, 32, 33, 87, 88, 89, 90, 91, 92, 93, 94, 95, 96, 97, 98, 99, 100, 101, 102, 103, 104, 105, 106, 107, 108, 109, 110, 111, 112, 113, 114, 115] (by decide +kernel) (by decide +kernel)
set_option maxRecDepth 20000 in
theorem gX6_string_X6_get : GoodIn wsX6_string (wsV RX6 61 RX6 yX6_get wsX6_get) := goodIn_app (goodIn_of _ (by decide +kernel)) ggX6_string_X6_get
set_option maxRecDepth 20000 in
theorem ggX6_string_X6_register : GoodIn wsX6_string wsX6_register := goodIn_r _ [37, 2, 87, 88, 89, 90, 91, 92, 93, 94, 95, 96, 97, 98, 99, 100, 101, 102, 103, 104, 105, 106, 107, 108, 109, 110, 111, 112, 113, 114, 115] (by decide +kernel) (by decide +kernel)
set_option maxRecDepth 20000 in
theorem gX6_string_X6_register : GoodIn wsX6_string (wsV RX6 105 RX6 yX6_register wsX6_register) := goodIn_app (goodIn_of _ (by decide +kernel)) ggX6_string_X6_register
set_option maxRecDepth 20000 in
theorem ggX6_string_X6_put : GoodIn wsX6_string wsX6_put := goodIn_r _ [41, 24, 25, 8, 26, 4, 27, 42, 43, 44, 45, 32, 46, 47, 33, 87, 88, 89, 90, 91, 92, 93, 94, 95, 96, 97, 98, 99, 100, 101, 102, 103, 104, 105, 106, 107, 108, 109, 110, 111, 112, 113, 114, 115] (by decide +kernel) (by decide +kernel)
set_option maxRecDepth 20000 in
theorem gX6_string_X6_put : GoodIn wsX6_string (wsV RX6 57 RX6 yX6_put wsX6_put) := goodIn_app (goodIn_of _ (by decide +kernel)) ggX6_string_X6_put
set_option maxRecDepth 20000 in
theorem ggX6_string_X6_setRegister : GoodIn wsX6_string wsX6_setRegister := goodIn_r _ [51, 2, 4, 52, 87, 88, 89, 90, 91, 92, 93, 94, 95, 96, 97, 98, 99, 100, 101, 102, 103, 104, 105, 106, 107, 108, 109, 110, 111, 112, 113, 114, 115] (by decide +kernel) (by decide +kernel)
set_option maxRecDepth 20000 in
theorem gX6_string_X6_setRegister : GoodIn wsX6_string (wsV RX6 101 RX6 yX6_setRegister wsX6_setRegister) := goodIn_app (goodIn_of _ (by decide +kernel)) ggX6_string_X6_setRegister
set_option maxRecDepth 20000 in
theorem ggX6_string_X6_operation : GoodIn wsX6_string wsX6_operation := goodIn_r _ [56, 14, 57, 58, 59, 8, 60, 61, 62, 63, 64, 65, 66, 67, 68, 69, 70, 4, 71, 72, 73, 74, 75, 76, 77, 78, 79, 80, 81, 82, 83, 84, 85, 86, 87, 88, 89, 90, 91, 92, 93, 94, 95, 96, 97, 98, 99, 100, 101, 102, 103, 104, 105, 106, 107, 108, 109, 110, 111, 112, 113, 114, 115] (by decide +kernel) (by decide +kernel)
set_option maxRecDepth 20000 in
theorem gX6_string_X6_operation : GoodIn wsX6_string (wsV RX6 187 RX6 yX6_operation wsX6_operation) := goodIn_app (goodIn_of _ (by decide +kernel)) ggX6_string_X6_operation
theorem dX6_string_0 : decode cX6_string 0 = .ok (.aload_n 0, 1) := by decide +kernel
theorem dX6_string_1 : decode cX6_string 1 = .ok (.invokevirtual 158, 3) := by decide +kernel
theorem dX6_string_4 : decode cX6_string 4 = .ok (.istore_n 1, 1) := by decide +kernel
theorem dX6_string_5 : decode cX6_string 5 = .ok (.iload_n 1, 1) := by decide +kernel
theorem dX6_string_6 : decode cX6_string 6 = .ok (.ifCond .eq 7, 3) := by decide +kernel
theorem dX6_string_9 : decode cX6_string 9 = .ok (.iconst 2, 1) := by decide +kernel
theorem dX6_string_10 : decode cX6_string 10 = .ok (.goto 4, 3) := by decide +kernel
theorem dX6_string_13 : decode cX6_string 13 = .ok (.iconst 1, 1) := by decide +kernel
theorem dX6_string_14 : decode cX6_string 14 = .ok (.aload_n 0, 1) := by decide +kernel
theorem dX6_string_15 : decode cX6_string 15 = .ok (.sipush 1024, 3) := by decide +kernel
theorem dX6_string_18 : decode cX6_string 18 = .ok (.invokevirtual 97, 3) := by decide +kernel
theorem dX6_string_21 : decode cX6_string 21 = .ok (.ifCond .eq 7, 3) := by decide +kernel
theorem dX6_string_24 : decode cX6_string 24 = .ok (.iconst (-1), 1) := by decide +kernel
theorem dX6_string_25 : decode cX6_string 25 = .ok (.goto 4, 3) := by decide +kernel
theorem dX6_string_28 : decode cX6_string 28 = .ok (.iconst 1, 1) := by decide +kernel
theorem dX6_string_29 : decode cX6_string 29 = .ok (.imul, 1) := by decide +kernel
theorem dX6_string_30 : decode cX6_string 30 = .ok (.istore_n 2, 1) := by decide +kernel
theorem dX6_string_31 : decode cX6_string 31 = .ok (.aload_n 0, 1) := by decide +kernel
theorem dX6_string_32 : decode cX6_string 32 = .ok (.getfield 148, 3) := by decide +kernel
theorem dX6_string_35 : decode cX6_string 35 = .ok (.sipush 254, 3) := by decide +kernel
theorem dX6_string_38 : decode cX6_string 38 = .ok (.iand, 1) := by decide +kernel
theorem dX6_string_39 : decode cX6_string 39 = .ok (.istore_n 3, 1) := by decide +kernel
theorem dX6_string_40 : decode cX6_string 40 = .ok (.iload_n 3, 1) := by decide +kernel
theorem dX6_string_41 : decode cX6_string 41 = .ok (.sipush 164, 3) := by decide +kernel
theorem dX6_string_44 : decode cX6_string 44 = .ok (.if_icmp .eq 17, 3) := by decide +kernel
theorem dX6_string_47 : decode cX6_string 47 = .ok (.iload_n 3, 1) := by decide +kernel
theorem dX6_string_48 : decode cX6_string 48 = .ok (.sipush 166, 3) := by decide +kernel
theorem dX6_string_51 : decode cX6_string 51 = .ok (.if_icmp .eq 10, 3) := by decide +kernel
theorem dX6_string_54 : decode cX6_string 54 = .ok (.iload_n 3, 1) := by decide +kernel
theorem dX6_string_55 : decode cX6_string 55 = .ok (.sipush 172, 3) := by decide +kernel
theorem dX6_string_58 : decode cX6_string 58 = .ok (.if_icmp .ne 7, 3) := by decide +kernel
theorem dX6_string_61 : decode cX6_string 61 = .ok (.iconst 1, 1) := by decide +kernel
theorem dX6_string_62 : decode cX6_string 62 = .ok (.goto 4, 3) := by decide +kernel
theorem dX6_string_65 : decode cX6_string 65 = .ok (.iconst 0, 1) := by decide +kernel
theorem dX6_string_66 : decode cX6_string 66 = .ok (.istore 4, 2) := by decide +kernel
theorem dX6_string_68 : decode cX6_string 68 = .ok (.iload_n 3, 1) := by decide +kernel
theorem dX6_string_69 : decode cX6_string 69 = .ok (.sipush 172, 3) := by decide +kernel
theorem dX6_string_72 : decode cX6_string 72 = .ok (.if_icmp .eq 7, 3) := by decide +kernel
theorem dX6_string_75 : decode cX6_string 75 = .ok (.iconst 1, 1) := by decide +kernel
theorem dX6_string_76 : decode cX6_string 76 = .ok (.goto 4, 3) := by decide +kernel
theorem dX6_string_79 : decode cX6_string 79 = .ok (.iconst 0, 1) := by decide +kernel
theorem dX6_string_80 : decode cX6_string 80 = .ok (.istore 5, 2) := by decide +kernel
theorem dX6_string_82 : decode cX6_string 82 = .ok (.iload 4, 2) := by decide +kernel
theorem dX6_string_84 : decode cX6_string 84 = .ok (.ifCond .eq 23, 3) := by decide +kernel
theorem dX6_string_87 : decode cX6_string 87 = .ok (.aload_n 0, 1) := by decide +kernel
theorem dX6_string_88 : decode cX6_string 88 = .ok (.aload_n 0, 1) := by decide +kernel
theorem dX6_string_89 : decode cX6_string 89 = .ok (.iconst 3, 1) := by decide +kernel
theorem dX6_string_90 : decode cX6_string 90 = .ok (.invokevirtual 142, 3) := by decide +kernel
theorem dX6_string_93 : decode cX6_string 93 = .ok (.aload_n 0, 1) := by decide +kernel
theorem dX6_string_94 : decode cX6_string 94 = .ok (.getfield 7, 3) := by decide +kernel
theorem dX6_string_97 : decode cX6_string 97 = .ok (.bipush 6, 2) := by decide +kernel
theorem dX6_string_99 : decode cX6_string 99 = .ok (.iaload, 1) := by decide +kernel
theorem dX6_string_100 : decode cX6_string 100 = .ok (.iload_n 1, 1) := by decide +kernel
theorem dX6_string_101 : decode cX6_string 101 = .ok (.invokevirtual 61, 3) := by decide +kernel
theorem dX6_string_104 : decode cX6_string 104 = .ok (.goto 9, 3) := by decide +kernel
theorem dX6_string_107 : decode cX6_string 107 = .ok (.aload_n 0, 1) := by decide +kernel
theorem dX6_string_108 : decode cX6_string 108 = .ok (.iconst 0, 1) := by decide +kernel
theorem dX6_string_109 : decode cX6_string 109 = .ok (.iload_n 1, 1) := by decide +kernel
theorem dX6_string_110 : decode cX6_string 110 = .ok (.invokevirtual 105, 3) := by decide +kernel
theorem dX6_string_113 : decode cX6_string 113 = .ok (.istore 6, 2) := by decide +kernel
theorem dX6_string_115 : decode cX6_string 115 = .ok (.iload_n 3, 1) := by decide +kernel
theorem dX6_string_116 : decode cX6_string 116 = .ok (.sipush 164, 3) := by decide +kernel
theorem dX6_string_119 : decode cX6_string 119 = .ok (.if_icmp .eq 10, 3) := by decide +kernel
theorem dX6_string_122 : decode cX6_string 122 = .ok (.iload_n 3, 1) := by decide +kernel
theorem dX6_string_123 : decode cX6_string 123 = .ok (.sipush 170, 3) := by decide +kernel
theorem dX6_string_126 : decode cX6_string 126 = .ok (.if_icmp .ne 26, 3) := by decide +kernel
theorem dX6_string_129 : decode cX6_string 129 = .ok (.aload_n 0, 1) := by decide +kernel
theorem dX6_string_130 : decode cX6_string 130 = .ok (.aload_n 0, 1) := by decide +kernel
theorem dX6_string_131 : decode cX6_string 131 = .ok (.getfield 13, 3) := by decide +kernel
theorem dX6_string_134 : decode cX6_string 134 = .ok (.iconst 0, 1) := by decide +kernel
theorem dX6_string_135 : decode cX6_string 135 = .ok (.iaload, 1) := by decide +kernel
theorem dX6_string_136 : decode cX6_string 136 = .ok (.aload_n 0, 1) := by decide +kernel
theorem dX6_string_137 : decode cX6_string 137 = .ok (.getfield 7, 3) := by decide +kernel
theorem dX6_string_140 : decode cX6_string 140 = .ok (.bipush 7, 2) := by decide +kernel
theorem dX6_string_142 : decode cX6_string 142 = .ok (.iaload, 1) := by decide +kernel
theorem dX6_string_143 : decode cX6_string 143 = .ok (.iload_n 1, 1) := by decide +kernel
theorem dX6_string_144 : decode cX6_string 144 = .ok (.iload 6, 2) := by decide +kernel
theorem dX6_string_146 : decode cX6_string 146 = .ok (.invokevirtual 57, 3) := by decide +kernel
theorem dX6_string_149 : decode cX6_string 149 = .ok (.goto 54, 3) := by decide +kernel
theorem dX6_string_152 : decode cX6_string 152 = .ok (.iload_n 3, 1) := by decide +kernel
theorem dX6_string_153 : decode cX6_string 153 = .ok (.sipush 172, 3) := by decide +kernel
theorem dX6_string_156 : decode cX6_string 156 = .ok (.if_icmp .ne 14, 3) := by decide +kernel
theorem dX6_string_159 : decode cX6_string 159 = .ok (.aload_n 0, 1) := by decide +kernel
theorem dX6_string_160 : decode cX6_string 160 = .ok (.iconst 0, 1) := by decide +kernel
theorem dX6_string_161 : decode cX6_string 161 = .ok (.iload_n 1, 1) := by decide +kernel
theorem dX6_string_162 : decode cX6_string 162 = .ok (.iload 6, 2) := by decide +kernel
theorem dX6_string_164 : decode cX6_string 164 = .ok (.invokevirtual 101, 3) := by decide +kernel
theorem dX6_string_167 : decode cX6_string 167 = .ok (.goto 36, 3) := by decide +kernel
theorem dX6_string_170 : decode cX6_string 170 = .ok (.aload_n 0, 1) := by decide +kernel
theorem dX6_string_171 : decode cX6_string 171 = .ok (.aload_n 0, 1) := by decide +kernel
theorem dX6_string_172 : decode cX6_string 172 = .ok (.getfield 13, 3) := by decide +kernel
theorem dX6_string_175 : decode cX6_string 175 = .ok (.iconst 0, 1) := by decide +kernel
theorem dX6_string_176 : decode cX6_string 176 = .ok (.iaload, 1) := by decide +kernel
theorem dX6_string_177 : decode cX6_string 177 = .ok (.aload_n 0, 1) := by decide +kernel
theorem dX6_string_178 : decode cX6_string 178 = .ok (.getfield 7, 3) := by decide +kernel
theorem dX6_string_181 : decode cX6_string 181 = .ok (.bipush 7, 2) := by decide +kernel
theorem dX6_string_183 : decode cX6_string 183 = .ok (.iaload, 1) := by decide +kernel
theorem dX6_string_184 : decode cX6_string 184 = .ok (.iload_n 1, 1) := by decide +kernel
theorem dX6_string_185 : decode cX6_string 185 = .ok (.invokevirtual 61, 3) := by decide +kernel
theorem dX6_string_188 : decode cX6_string 188 = .ok (.istore 7, 2) := by decide +kernel
theorem dX6_string_190 : decode cX6_string 190 = .ok (.aload_n 0, 1) := by decide +kernel
theorem dX6_string_191 : decode cX6_string 191 = .ok (.bipush 7, 2) := by decide +kernel
theorem dX6_string_193 : decode cX6_string 193 = .ok (.iload 6, 2) := by decide +kernel
theorem dX6_string_195 : decode cX6_string 195 = .ok (.iload 7, 2) := by decide +kernel
theorem dX6_string_197 : decode cX6_string 197 = .ok (.iload_n 1, 1) := by decide +kernel
theorem dX6_string_198 : decode cX6_string 198 = .ok (.invokevirtual 187, 3) := by decide +kernel
theorem dX6_string_201 : decode cX6_string 201 = .ok (.istore 8, 2) := by decide +kernel
theorem dX6_string_203 : decode cX6_string 203 = .ok (.aload_n 0, 1) := by decide +kernel
theorem dX6_string_204 : decode cX6_string 204 = .ok (.getfield 7, 3) := by decide +kernel
theorem dX6_string_207 : decode cX6_string 207 = .ok (.bipush 6, 2) := by decide +kernel
theorem dX6_string_209 : decode cX6_string 209 = .ok (.iload 4, 2) := by decide +kernel
theorem dX6_string_211 : decode cX6_string 211 = .ok (.ifCond .eq 18, 3) := by decide +kernel
theorem dX6_string_214 : decode cX6_string 214 = .ok (.aload_n 0, 1) := by decide +kernel
theorem dX6_string_215 : decode cX6_string 215 = .ok (.getfield 7, 3) := by decide +kernel
theorem dX6_string_218 : decode cX6_string 218 = .ok (.bipush 6, 2) := by decide +kernel
theorem dX6_string_220 : decode cX6_string 220 = .ok (.iaload, 1) := by decide +kernel
theorem dX6_string_221 : decode cX6_string 221 = .ok (.iload_n 2, 1) := by decide +kernel
theorem dX6_string_222 : decode cX6_string 222 = .ok (.iadd, 1) := by decide +kernel
theorem dX6_string_223 : decode cX6_string 223 = .ok (.ldc 39, 2) := by decide +kernel
theorem dX6_string_225 : decode cX6_string 225 = .ok (.iand, 1) := by decide +kernel
theorem dX6_string_226 : decode cX6_string 226 = .ok (.goto 10, 3) := by decide +kernel
theorem dX6_string_229 : decode cX6_string 229 = .ok (.aload_n 0, 1) := by decide +kernel
theorem dX6_string_230 : decode cX6_string 230 = .ok (.getfield 7, 3) := by decide +kernel
theorem dX6_string_233 : decode cX6_string 233 = .ok (.bipush 6, 2) := by decide +kernel
theorem dX6_string_235 : decode cX6_string 235 = .ok (.iaload, 1) := by decide +kernel
theorem dX6_string_236 : decode cX6_string 236 = .ok (.iastore, 1) := by decide +kernel
theorem dX6_string_237 : decode cX6_string 237 = .ok (.aload_n 0, 1) := by decide +kernel
theorem dX6_string_238 : decode cX6_string 238 = .ok (.getfield 7, 3) := by decide +kernel
theorem dX6_string_241 : decode cX6_string 241 = .ok (.bipush 7, 2) := by decide +kernel
theorem dX6_string_243 : decode cX6_string 243 = .ok (.iload 5, 2) := by decide +kernel
theorem dX6_string_245 : decode cX6_string 245 = .ok (.ifCond .eq 18, 3) := by decide +kernel
theorem dX6_string_248 : decode cX6_string 248 = .ok (.aload_n 0, 1) := by decide +kernel
theorem dX6_string_249 : decode cX6_string 249 = .ok (.getfield 7, 3) := by decide +kernel
theorem dX6_string_252 : decode cX6_string 252 = .ok (.bipush 7, 2) := by decide +kernel
theorem dX6_string_254 : decode cX6_string 254 = .ok (.iaload, 1) := by decide +kernel
theorem dX6_string_255 : decode cX6_string 255 = .ok (.iload_n 2, 1) := by decide +kernel
theorem dX6_string_256 : decode cX6_string 256 = .ok (.iadd, 1) := by decide +kernel
theorem dX6_string_257 : decode cX6_string 257 = .ok (.ldc 39, 2) := by decide +kernel
theorem dX6_string_259 : decode cX6_string 259 = .ok (.iand, 1) := by decide +kernel
theorem dX6_string_260 : decode cX6_string 260 = .ok (.goto 10, 3) := by decide +kernel
theorem dX6_string_263 : decode cX6_string 263 = .ok (.aload_n 0, 1) := by decide +kernel
theorem dX6_string_264 : decode cX6_string 264 = .ok (.getfield 7, 3) := by decide +kernel
theorem dX6_string_267 : decode cX6_string 267 = .ok (.bipush 7, 2) := by decide +kernel
theorem dX6_string_269 : decode cX6_string 269 = .ok (.iaload, 1) := by decide +kernel
theorem dX6_string_270 : decode cX6_string 270 = .ok (.iastore, 1) := by decide +kernel
theorem dX6_string_271 : decode cX6_string 271 = .ok (.return_, 1) := by decide +kernel
set_option maxRecDepth 20000 in
theorem ggX6_strings_X6_string : GoodIn wsX6_strings wsX6_string := goodIn_r _ [10, 11, 2, 12, 13, 14, 15, 16, 9, 17, 18, 19, 20, 21, 22, 23, 24, 25, 26, 27, 28, 29, 30, 31, 32, 33, 34, 35, 36, 37, 38, 39, 40, 41, 42, 43, 44, 45, 46, 47, 48, 49, 50, 51, 52, 53, 54, 55, 56, 57, 58, 59, 60, 61, 62, 63, 64, 65, 66, 67, 68, 69, 70, 71, 72, 73, 74, 75, 76, 77, 78, 79, 80, 81, 82, 83, 84, 85, 86, 87, 88, 89, 90, 91, 92, 93, 94, 99, 100, 101, 102, 103, 104, 105, 106, 107, 108, 109, 110, 111, 112, 113, 114, 115, 116, 117, 118, 119, 120, 121, 122, 123, 124, 125, 126, 127] (by decide +kernel) (by decide +kernel)
set_option maxRecDepth 20000 in
theorem gX6_strings_X6_string : GoodIn wsX6_strings (wsV RX6 190 RX6 yX6_string wsX6_string) := goodIn_app (goodIn_of _ (by decide +kernel)) ggX6_strings_X6_string
set_option maxRecDepth 20000 in
theorem ggX6_strings_X6_compares : GoodIn wsX6_strings wsX6_compares := goodIn_r _ [98, 11, 99, 100, 101, 102, 103, 104, 105, 106, 107, 108, 109, 110, 111, 112, 113, 114, 115, 116, 117, 118, 119, 120, 121, 122, 123, 124, 125, 126, 127] (by decide +kernel) (by decide +kernel)
set_option maxRecDepth 20000 in
theorem gX6_strings_X6_compares : GoodIn wsX6_strings (wsV RX6 196 RX6 yX6_compares wsX6_compares) := goodIn_app (goodIn_of _ (by decide +kernel)) ggX6_strings_X6_compares
set_option maxRecDepth 20000 in
theorem ggX6_strings_X6_has : GoodIn wsX6_strings wsX6_has := goodIn_r _ [21, 22, 99, 100, 101, 102, 103, 104, 105, 106, 107, 108, 109, 110, 111, 112, 113, 114, 115, 116, 117, 118, 119, 120, 121, 122, 123, 124, 125, 126, 127] (by decide +kernel) (by decide +kernel)
set_option maxRecDepth 20000 in
theorem gX6_strings_X6_has : GoodIn wsX6_strings (wsV RX6 97 RX6 yX6_has wsX6_has) := goodIn_app (goodIn_of _ (by decide +kernel)) ggX6_strings_X6_has
theorem dX6_strings_0 : decode cX6_strings 0 = .ok (.aload_n 0, 1) := by decide +kernel
theorem dX6_strings_1 : decode cX6_strings 1 = .ok (.getfield 176, 3) := by decide +kernel
theorem dX6_strings_4 : decode cX6_strings 4 = .ok (.ifCond .ne 8, 3) := by decide +kernel
theorem dX6_strings_7 : decode cX6_strings 7 = .ok (.aload_n 0, 1) := by decide +kernel
theorem dX6_strings_8 : decode cX6_strings 8 = .ok (.invokevirtual 190, 3) := by decide +kernel
theorem dX6_strings_11 : decode cX6_strings 11 = .ok (.return_, 1) := by decide +kernel
