theorem dX3_init_0 : decode cX3_init 0 = .ok (.aload_n 0, 1) := by decide +kernel
theorem dX3_init_1 : decode cX3_init 1 = .ok (.invokespecial 3, 3) := by decide +kernel
theorem dX3_init_4 : decode cX3_init 4 = .ok (.aload_n 0, 1) := by decide +kernel
theorem dX3_init_5 : decode cX3_init 5 = .ok (.new 9, 3) := by decide +kernel
theorem dX3_init_8 : decode cX3_init 8 = .ok (.dup, 1) := by decide +kernel
theorem dX3_init_9 : decode cX3_init 9 = .ok (.invokespecial 11, 3) := by decide +kernel
theorem dX3_init_12 : decode cX3_init 12 = .ok (.putfield 12, 3) := by decide +kernel
theorem dX3_init_15 : decode cX3_init 15 = .ok (.aload_n 0, 1) := by decide +kernel
theorem dX3_init_16 : decode cX3_init 16 = .ok (.new 18, 3) := by decide +kernel
theorem dX3_init_19 : decode cX3_init 19 = .ok (.dup, 1) := by decide +kernel
theorem dX3_init_20 : decode cX3_init 20 = .ok (.invokespecial 20, 3) := by decide +kernel
theorem dX3_init_23 : decode cX3_init 23 = .ok (.putfield 21, 3) := by decide +kernel
theorem dX3_init_26 : decode cX3_init 26 = .ok (.aload_n 0, 1) := by decide +kernel
theorem dX3_init_27 : decode cX3_init 27 = .ok (.new 25, 3) := by decide +kernel
theorem dX3_init_30 : decode cX3_init 30 = .ok (.dup, 1) := by decide +kernel
theorem dX3_init_31 : decode cX3_init 31 = .ok (.invokespecial 27, 3) := by decide +kernel
theorem dX3_init_34 : decode cX3_init 34 = .ok (.putfield 28, 3) := by decide +kernel
theorem dX3_init_37 : decode cX3_init 37 = .ok (.aload_n 0, 1) := by decide +kernel
theorem dX3_init_38 : decode cX3_init 38 = .ok (.new 32, 3) := by decide +kernel
theorem dX3_init_41 : decode cX3_init 41 = .ok (.dup, 1) := by decide +kernel
theorem dX3_init_42 : decode cX3_init 42 = .ok (.invokespecial 34, 3) := by decide +kernel
theorem dX3_init_45 : decode cX3_init 45 = .ok (.putfield 35, 3) := by decide +kernel
theorem dX3_init_48 : decode cX3_init 48 = .ok (.aload_n 0, 1) := by decide +kernel
theorem dX3_init_49 : decode cX3_init 49 = .ok (.sipush 256, 3) := by decide +kernel
theorem dX3_init_52 : decode cX3_init 52 = .ok (.newarray .byte, 2) := by decide +kernel
theorem dX3_init_54 : decode cX3_init 54 = .ok (.putfield 39, 3) := by decide +kernel
theorem dX3_init_57 : decode cX3_init 57 = .ok (.aload_n 0, 1) := by decide +kernel
theorem dX3_init_58 : decode cX3_init 58 = .ok (.iconst (-1), 1) := by decide +kernel
theorem dX3_init_59 : decode cX3_init 59 = .ok (.putfield 43, 3) := by decide +kernel
theorem dX3_init_62 : decode cX3_init 62 = .ok (.return_, 1) := by decide +kernel
theorem dX3_portByte_0 : decode cX3_portByte 0 = .ok (.aload_n 0, 1) := by decide +kernel
theorem dX3_portByte_1 : decode cX3_portByte 1 = .ok (.getfield 39, 3) := by decide +kernel
theorem dX3_portByte_4 : decode cX3_portByte 4 = .ok (.iload_n 1, 1) := by decide +kernel
theorem dX3_portByte_5 : decode cX3_portByte 5 = .ok (.sipush 255, 3) := by decide +kernel
theorem dX3_portByte_8 : decode cX3_portByte 8 = .ok (.iand, 1) := by decide +kernel
theorem dX3_portByte_9 : decode cX3_portByte 9 = .ok (.baload, 1) := by decide +kernel
theorem dX3_portByte_10 : decode cX3_portByte 10 = .ok (.sipush 255, 3) := by decide +kernel
theorem dX3_portByte_13 : decode cX3_portByte 13 = .ok (.iand, 1) := by decide +kernel
theorem dX3_portByte_14 : decode cX3_portByte 14 = .ok (.ireturn, 1) := by decide +kernel
theorem dX3_givePort_0 : decode cX3_givePort 0 = .ok (.aload_n 0, 1) := by decide +kernel
theorem dX3_givePort_1 : decode cX3_givePort 1 = .ok (.getfield 39, 3) := by decide +kernel
theorem dX3_givePort_4 : decode cX3_givePort 4 = .ok (.iload_n 1, 1) := by decide +kernel
theorem dX3_givePort_5 : decode cX3_givePort 5 = .ok (.sipush 255, 3) := by decide +kernel
theorem dX3_givePort_8 : decode cX3_givePort 8 = .ok (.iand, 1) := by decide +kernel
theorem dX3_givePort_9 : decode cX3_givePort 9 = .ok (.iload_n 2, 1) := by decide +kernel
theorem dX3_givePort_10 : decode cX3_givePort 10 = .ok (.i2b, 1) := by decide +kernel
theorem dX3_givePort_11 : decode cX3_givePort 11 = .ok (.bastore, 1) := by decide +kernel
theorem dX3_givePort_12 : decode cX3_givePort 12 = .ok (.return_, 1) := by decide +kernel
theorem dX3_execute_0 : decode cX3_execute 0 = .ok (.aload_n 0, 1) := by decide +kernel
theorem dX3_execute_1 : decode cX3_execute 1 = .ok (.iconst (-1), 1) := by decide +kernel
theorem dX3_execute_2 : decode cX3_execute 2 = .ok (.putfield 43, 3) := by decide +kernel
theorem dX3_execute_5 : decode cX3_execute 5 = .ok (.aload_n 0, 1) := by decide +kernel
theorem dX3_execute_6 : decode cX3_execute 6 = .ok (.getfield 35, 3) := by decide +kernel
theorem dX3_execute_9 : decode cX3_execute 9 = .ok (.getfield 47, 3) := by decide +kernel
theorem dX3_execute_12 : decode cX3_execute 12 = .ok (.iconst 4, 1) := by decide +kernel
theorem dX3_execute_13 : decode cX3_execute 13 = .ok (.ishr, 1) := by decide +kernel
theorem dX3_execute_14 : decode cX3_execute 14 = .ok (.tableswitch 220 0 14 #[74, 74, 74, 74, 81, 88, 95, 95, 119, 126, 133, 157, 199, 206, 213], 74) := by decide +kernel
theorem dX3_execute_88 : decode cX3_execute 88 = .ok (.aload_n 0, 1) := by decide +kernel
theorem dX3_execute_89 : decode cX3_execute 89 = .ok (.invokevirtual 50, 3) := by decide +kernel
theorem dX3_execute_92 : decode cX3_execute 92 = .ok (.goto 146, 3) := by decide +kernel
theorem dX3_execute_95 : decode cX3_execute 95 = .ok (.aload_n 0, 1) := by decide +kernel
theorem dX3_execute_96 : decode cX3_execute 96 = .ok (.invokevirtual 53, 3) := by decide +kernel
theorem dX3_execute_99 : decode cX3_execute 99 = .ok (.goto 139, 3) := by decide +kernel
theorem dX3_execute_102 : decode cX3_execute 102 = .ok (.aload_n 0, 1) := by decide +kernel
theorem dX3_execute_103 : decode cX3_execute 103 = .ok (.invokevirtual 56, 3) := by decide +kernel
theorem dX3_execute_106 : decode cX3_execute 106 = .ok (.goto 132, 3) := by decide +kernel
theorem dX3_execute_109 : decode cX3_execute 109 = .ok (.aload_n 0, 1) := by decide +kernel
theorem dX3_execute_110 : decode cX3_execute 110 = .ok (.aload_n 0, 1) := by decide +kernel
theorem dX3_execute_111 : decode cX3_execute 111 = .ok (.getfield 28, 3) := by decide +kernel
theorem dX3_execute_114 : decode cX3_execute 114 = .ok (.aload_n 0, 1) := by decide +kernel
theorem dX3_execute_115 : decode cX3_execute 115 = .ok (.getfield 35, 3) := by decide +kernel
theorem dX3_execute_118 : decode cX3_execute 118 = .ok (.getfield 47, 3) := by decide +kernel
theorem dX3_execute_121 : decode cX3_execute 121 = .ok (.bipush 15, 2) := by decide +kernel
theorem dX3_execute_123 : decode cX3_execute 123 = .ok (.iand, 1) := by decide +kernel
theorem dX3_execute_124 : decode cX3_execute 124 = .ok (.invokevirtual 59, 3) := by decide +kernel
theorem dX3_execute_127 : decode cX3_execute 127 = .ok (.invokevirtual 63, 3) := by decide +kernel
theorem dX3_execute_130 : decode cX3_execute 130 = .ok (.goto 108, 3) := by decide +kernel
theorem dX3_execute_133 : decode cX3_execute 133 = .ok (.aload_n 0, 1) := by decide +kernel
theorem dX3_execute_134 : decode cX3_execute 134 = .ok (.invokevirtual 67, 3) := by decide +kernel
theorem dX3_execute_137 : decode cX3_execute 137 = .ok (.goto 101, 3) := by decide +kernel
theorem dX3_execute_140 : decode cX3_execute 140 = .ok (.aload_n 0, 1) := by decide +kernel
theorem dX3_execute_141 : decode cX3_execute 141 = .ok (.invokevirtual 70, 3) := by decide +kernel
theorem dX3_execute_144 : decode cX3_execute 144 = .ok (.goto 94, 3) := by decide +kernel
theorem dX3_execute_147 : decode cX3_execute 147 = .ok (.aload_n 0, 1) := by decide +kernel
theorem dX3_execute_148 : decode cX3_execute 148 = .ok (.getfield 35, 3) := by decide +kernel
theorem dX3_execute_151 : decode cX3_execute 151 = .ok (.invokevirtual 73, 3) := by decide +kernel
theorem dX3_execute_154 : decode cX3_execute 154 = .ok (.ifCond .eq 10, 3) := by decide +kernel
theorem dX3_execute_157 : decode cX3_execute 157 = .ok (.aload_n 0, 1) := by decide +kernel
theorem dX3_execute_158 : decode cX3_execute 158 = .ok (.invokevirtual 77, 3) := by decide +kernel
theorem dX3_execute_161 : decode cX3_execute 161 = .ok (.goto 77, 3) := by decide +kernel
theorem dX3_execute_164 : decode cX3_execute 164 = .ok (.aload_n 0, 1) := by decide +kernel
theorem dX3_execute_165 : decode cX3_execute 165 = .ok (.invokevirtual 80, 3) := by decide +kernel
theorem dX3_execute_168 : decode cX3_execute 168 = .ok (.goto 70, 3) := by decide +kernel
theorem dX3_execute_171 : decode cX3_execute 171 = .ok (.aload_n 0, 1) := by decide +kernel
theorem dX3_execute_172 : decode cX3_execute 172 = .ok (.getfield 21, 3) := by decide +kernel
theorem dX3_execute_175 : decode cX3_execute 175 = .ok (.aload_n 0, 1) := by decide +kernel
theorem dX3_execute_176 : decode cX3_execute 176 = .ok (.getfield 35, 3) := by decide +kernel
theorem dX3_execute_179 : decode cX3_execute 179 = .ok (.getfield 47, 3) := by decide +kernel
theorem dX3_execute_182 : decode cX3_execute 182 = .ok (.aload_n 0, 1) := by decide +kernel
theorem dX3_execute_183 : decode cX3_execute 183 = .ok (.getfield 35, 3) := by decide +kernel
theorem dX3_execute_186 : decode cX3_execute 186 = .ok (.getfield 83, 3) := by decide +kernel
theorem dX3_execute_189 : decode cX3_execute 189 = .ok (.aload_n 0, 1) := by decide +kernel
theorem dX3_execute_190 : decode cX3_execute 190 = .ok (.getfield 35, 3) := by decide +kernel
theorem dX3_execute_193 : decode cX3_execute 193 = .ok (.getfield 47, 3) := by decide +kernel
theorem dX3_execute_196 : decode cX3_execute 196 = .ok (.bipush 8, 2) := by decide +kernel
theorem dX3_execute_198 : decode cX3_execute 198 = .ok (.iand, 1) := by decide +kernel
theorem dX3_execute_199 : decode cX3_execute 199 = .ok (.ifCond .eq 7, 3) := by decide +kernel
theorem dX3_execute_202 : decode cX3_execute 202 = .ok (.iconst 1, 1) := by decide +kernel
theorem dX3_execute_203 : decode cX3_execute 203 = .ok (.goto 4, 3) := by decide +kernel
theorem dX3_execute_206 : decode cX3_execute 206 = .ok (.iconst 0, 1) := by decide +kernel
theorem dX3_execute_207 : decode cX3_execute 207 = .ok (.invokevirtual 86, 3) := by decide +kernel
theorem dX3_execute_210 : decode cX3_execute 210 = .ok (.goto 28, 3) := by decide +kernel
theorem dX3_execute_213 : decode cX3_execute 213 = .ok (.aload_n 0, 1) := by decide +kernel
theorem dX3_execute_214 : decode cX3_execute 214 = .ok (.invokevirtual 90, 3) := by decide +kernel
theorem dX3_execute_217 : decode cX3_execute 217 = .ok (.goto 21, 3) := by decide +kernel
theorem dX3_execute_220 : decode cX3_execute 220 = .ok (.aload_n 0, 1) := by decide +kernel
theorem dX3_execute_221 : decode cX3_execute 221 = .ok (.invokevirtual 93, 3) := by decide +kernel
theorem dX3_execute_224 : decode cX3_execute 224 = .ok (.goto 14, 3) := by decide +kernel
theorem dX3_execute_227 : decode cX3_execute 227 = .ok (.aload_n 0, 1) := by decide +kernel
theorem dX3_execute_228 : decode cX3_execute 228 = .ok (.invokevirtual 96, 3) := by decide +kernel
theorem dX3_execute_231 : decode cX3_execute 231 = .ok (.goto 7, 3) := by decide +kernel
theorem dX3_execute_234 : decode cX3_execute 234 = .ok (.aload_n 0, 1) := by decide +kernel
theorem dX3_execute_235 : decode cX3_execute 235 = .ok (.invokevirtual 99, 3) := by decide +kernel
theorem dX3_execute_238 : decode cX3_execute 238 = .ok (.aload_n 0, 1) := by decide +kernel
theorem dX3_execute_239 : decode cX3_execute 239 = .ok (.getfield 43, 3) := by decide +kernel
theorem dX3_execute_242 : decode cX3_execute 242 = .ok (.iconst (-1), 1) := by decide +kernel
theorem dX3_execute_243 : decode cX3_execute 243 = .ok (.if_icmp .eq 11, 3) := by decide +kernel
theorem dX3_execute_246 : decode cX3_execute 246 = .ok (.aload_n 0, 1) := by decide +kernel
theorem dX3_execute_247 : decode cX3_execute 247 = .ok (.aload_n 0, 1) := by decide +kernel
theorem dX3_execute_248 : decode cX3_execute 248 = .ok (.getfield 43, 3) := by decide +kernel
theorem dX3_execute_251 : decode cX3_execute 251 = .ok (.invokevirtual 102, 3) := by decide +kernel
theorem dX3_execute_254 : decode cX3_execute 254 = .ok (.return_, 1) := by decide +kernel
theorem dX3_interrupt_0 : decode cX3_interrupt 0 = .ok (.aload_n 0, 1) := by decide +kernel
theorem dX3_interrupt_1 : decode cX3_interrupt 1 = .ok (.aload_n 0, 1) := by decide +kernel
theorem dX3_interrupt_2 : decode cX3_interrupt 2 = .ok (.invokevirtual 106, 3) := by decide +kernel
theorem dX3_interrupt_5 : decode cX3_interrupt 5 = .ok (.invokevirtual 110, 3) := by decide +kernel
theorem dX3_interrupt_8 : decode cX3_interrupt 8 = .ok (.aload_n 0, 1) := by decide +kernel
theorem dX3_interrupt_9 : decode cX3_interrupt 9 = .ok (.getfield 28, 3) := by decide +kernel
theorem dX3_interrupt_12 : decode cX3_interrupt 12 = .ok (.sipush 512, 3) := by decide +kernel
theorem dX3_interrupt_15 : decode cX3_interrupt 15 = .ok (.iconst 0, 1) := by decide +kernel
theorem dX3_interrupt_16 : decode cX3_interrupt 16 = .ok (.invokevirtual 113, 3) := by decide +kernel
theorem dX3_interrupt_19 : decode cX3_interrupt 19 = .ok (.aload_n 0, 1) := by decide +kernel
theorem dX3_interrupt_20 : decode cX3_interrupt 20 = .ok (.getfield 28, 3) := by decide +kernel
theorem dX3_interrupt_23 : decode cX3_interrupt 23 = .ok (.sipush 256, 3) := by decide +kernel
theorem dX3_interrupt_26 : decode cX3_interrupt 26 = .ok (.iconst 0, 1) := by decide +kernel
theorem dX3_interrupt_27 : decode cX3_interrupt 27 = .ok (.invokevirtual 113, 3) := by decide +kernel
theorem dX3_interrupt_30 : decode cX3_interrupt 30 = .ok (.aload_n 0, 1) := by decide +kernel
theorem dX3_interrupt_31 : decode cX3_interrupt 31 = .ok (.aload_n 0, 1) := by decide +kernel
theorem dX3_interrupt_32 : decode cX3_interrupt 32 = .ok (.getfield 21, 3) := by decide +kernel
theorem dX3_interrupt_35 : decode cX3_interrupt 35 = .ok (.iconst 1, 1) := by decide +kernel
theorem dX3_interrupt_36 : decode cX3_interrupt 36 = .ok (.invokevirtual 117, 3) := by decide +kernel
theorem dX3_interrupt_39 : decode cX3_interrupt 39 = .ok (.invokevirtual 110, 3) := by decide +kernel
theorem dX3_interrupt_42 : decode cX3_interrupt 42 = .ok (.aload_n 0, 1) := by decide +kernel
theorem dX3_interrupt_43 : decode cX3_interrupt 43 = .ok (.aload_n 0, 1) := by decide +kernel
theorem dX3_interrupt_44 : decode cX3_interrupt 44 = .ok (.getfield 21, 3) := by decide +kernel
theorem dX3_interrupt_47 : decode cX3_interrupt 47 = .ok (.getfield 121, 3) := by decide +kernel
theorem dX3_interrupt_50 : decode cX3_interrupt 50 = .ok (.invokevirtual 110, 3) := by decide +kernel
theorem dX3_interrupt_53 : decode cX3_interrupt 53 = .ok (.aload_n 0, 1) := by decide +kernel
theorem dX3_interrupt_54 : decode cX3_interrupt 54 = .ok (.getfield 21, 3) := by decide +kernel
theorem dX3_interrupt_57 : decode cX3_interrupt 57 = .ok (.aload_n 0, 1) := by decide +kernel
theorem dX3_interrupt_58 : decode cX3_interrupt 58 = .ok (.getfield 12, 3) := by decide +kernel
theorem dX3_interrupt_61 : decode cX3_interrupt 61 = .ok (.iconst 0, 1) := by decide +kernel
theorem dX3_interrupt_62 : decode cX3_interrupt 62 = .ok (.iconst 4, 1) := by decide +kernel
theorem dX3_interrupt_63 : decode cX3_interrupt 63 = .ok (.iload_n 1, 1) := by decide +kernel
theorem dX3_interrupt_64 : decode cX3_interrupt 64 = .ok (.imul, 1) := by decide +kernel
theorem dX3_interrupt_65 : decode cX3_interrupt 65 = .ok (.iconst 1, 1) := by decide +kernel
theorem dX3_interrupt_66 : decode cX3_interrupt 66 = .ok (.invokevirtual 124, 3) := by decide +kernel
theorem dX3_interrupt_69 : decode cX3_interrupt 69 = .ok (.invokevirtual 128, 3) := by decide +kernel
theorem dX3_interrupt_72 : decode cX3_interrupt 72 = .ok (.aload_n 0, 1) := by decide +kernel
theorem dX3_interrupt_73 : decode cX3_interrupt 73 = .ok (.getfield 21, 3) := by decide +kernel
theorem dX3_interrupt_76 : decode cX3_interrupt 76 = .ok (.iconst 1, 1) := by decide +kernel
theorem dX3_interrupt_77 : decode cX3_interrupt 77 = .ok (.aload_n 0, 1) := by decide +kernel
theorem dX3_interrupt_78 : decode cX3_interrupt 78 = .ok (.getfield 12, 3) := by decide +kernel
theorem dX3_interrupt_81 : decode cX3_interrupt 81 = .ok (.iconst 0, 1) := by decide +kernel
theorem dX3_interrupt_82 : decode cX3_interrupt 82 = .ok (.iconst 4, 1) := by decide +kernel
theorem dX3_interrupt_83 : decode cX3_interrupt 83 = .ok (.iload_n 1, 1) := by decide +kernel
theorem dX3_interrupt_84 : decode cX3_interrupt 84 = .ok (.imul, 1) := by decide +kernel
theorem dX3_interrupt_85 : decode cX3_interrupt 85 = .ok (.iconst 2, 1) := by decide +kernel
theorem dX3_interrupt_86 : decode cX3_interrupt 86 = .ok (.iadd, 1) := by decide +kernel
theorem dX3_interrupt_87 : decode cX3_interrupt 87 = .ok (.iconst 1, 1) := by decide +kernel
theorem dX3_interrupt_88 : decode cX3_interrupt 88 = .ok (.invokevirtual 124, 3) := by decide +kernel
theorem dX3_interrupt_91 : decode cX3_interrupt 91 = .ok (.invokevirtual 131, 3) := by decide +kernel
theorem dX3_interrupt_94 : decode cX3_interrupt 94 = .ok (.return_, 1) := by decide +kernel
theorem dX3_pushedFlags_0 : decode cX3_pushedFlags 0 = .ok (.aload_n 0, 1) := by decide +kernel
theorem dX3_pushedFlags_1 : decode cX3_pushedFlags 1 = .ok (.getfield 28, 3) := by decide +kernel
theorem dX3_pushedFlags_4 : decode cX3_pushedFlags 4 = .ok (.getfield 135, 3) := by decide +kernel
theorem dX3_pushedFlags_7 : decode cX3_pushedFlags 7 = .ok (.ldc 138, 2) := by decide +kernel
theorem dX3_pushedFlags_9 : decode cX3_pushedFlags 9 = .ok (.ior, 1) := by decide +kernel
theorem dX3_pushedFlags_10 : decode cX3_pushedFlags 10 = .ok (.ireturn, 1) := by decide +kernel
theorem dX3_push_0 : decode cX3_push 0 = .ok (.aload_n 0, 1) := by decide +kernel
theorem dX3_push_1 : decode cX3_push 1 = .ok (.getfield 21, 3) := by decide +kernel
theorem dX3_push_4 : decode cX3_push 4 = .ok (.iconst 4, 1) := by decide +kernel
theorem dX3_push_5 : decode cX3_push 5 = .ok (.aload_n 0, 1) := by decide +kernel
theorem dX3_push_6 : decode cX3_push 6 = .ok (.getfield 21, 3) := by decide +kernel
theorem dX3_push_9 : decode cX3_push 9 = .ok (.iconst 4, 1) := by decide +kernel
theorem dX3_push_10 : decode cX3_push 10 = .ok (.invokevirtual 139, 3) := by decide +kernel
theorem dX3_push_13 : decode cX3_push 13 = .ok (.iconst 2, 1) := by decide +kernel
theorem dX3_push_14 : decode cX3_push 14 = .ok (.isub, 1) := by decide +kernel
theorem dX3_push_15 : decode cX3_push 15 = .ok (.invokevirtual 142, 3) := by decide +kernel
theorem dX3_push_18 : decode cX3_push 18 = .ok (.aload_n 0, 1) := by decide +kernel
theorem dX3_push_19 : decode cX3_push 19 = .ok (.getfield 12, 3) := by decide +kernel
theorem dX3_push_22 : decode cX3_push 22 = .ok (.aload_n 0, 1) := by decide +kernel
theorem dX3_push_23 : decode cX3_push 23 = .ok (.getfield 21, 3) := by decide +kernel
theorem dX3_push_26 : decode cX3_push 26 = .ok (.iconst 2, 1) := by decide +kernel
theorem dX3_push_27 : decode cX3_push 27 = .ok (.invokevirtual 117, 3) := by decide +kernel
theorem dX3_push_30 : decode cX3_push 30 = .ok (.aload_n 0, 1) := by decide +kernel
theorem dX3_push_31 : decode cX3_push 31 = .ok (.getfield 21, 3) := by decide +kernel
theorem dX3_push_34 : decode cX3_push 34 = .ok (.iconst 4, 1) := by decide +kernel
theorem dX3_push_35 : decode cX3_push 35 = .ok (.invokevirtual 139, 3) := by decide +kernel
theorem dX3_push_38 : decode cX3_push 38 = .ok (.iload_n 1, 1) := by decide +kernel
theorem dX3_push_39 : decode cX3_push 39 = .ok (.iconst 1, 1) := by decide +kernel
theorem dX3_push_40 : decode cX3_push 40 = .ok (.invokevirtual 145, 3) := by decide +kernel
theorem dX3_push_43 : decode cX3_push 43 = .ok (.return_, 1) := by decide +kernel
theorem dX3_pushedRegister_0 : decode cX3_pushedRegister 0 = .ok (.iload_n 1, 1) := by decide +kernel
theorem dX3_pushedRegister_1 : decode cX3_pushedRegister 1 = .ok (.iconst 4, 1) := by decide +kernel
theorem dX3_pushedRegister_2 : decode cX3_pushedRegister 2 = .ok (.if_icmp .ne 16, 3) := by decide +kernel
theorem dX3_pushedRegister_5 : decode cX3_pushedRegister 5 = .ok (.aload_n 0, 1) := by decide +kernel
theorem dX3_pushedRegister_6 : decode cX3_pushedRegister 6 = .ok (.getfield 21, 3) := by decide +kernel
theorem dX3_pushedRegister_9 : decode cX3_pushedRegister 9 = .ok (.iload_n 1, 1) := by decide +kernel
theorem dX3_pushedRegister_10 : decode cX3_pushedRegister 10 = .ok (.invokevirtual 139, 3) := by decide +kernel
theorem dX3_pushedRegister_13 : decode cX3_pushedRegister 13 = .ok (.iconst 2, 1) := by decide +kernel
theorem dX3_pushedRegister_14 : decode cX3_pushedRegister 14 = .ok (.isub, 1) := by decide +kernel
theorem dX3_pushedRegister_15 : decode cX3_pushedRegister 15 = .ok (.goto 11, 3) := by decide +kernel
theorem dX3_pushedRegister_18 : decode cX3_pushedRegister 18 = .ok (.aload_n 0, 1) := by decide +kernel
theorem dX3_pushedRegister_19 : decode cX3_pushedRegister 19 = .ok (.getfield 21, 3) := by decide +kernel
theorem dX3_pushedRegister_22 : decode cX3_pushedRegister 22 = .ok (.iload_n 1, 1) := by decide +kernel
theorem dX3_pushedRegister_23 : decode cX3_pushedRegister 23 = .ok (.invokevirtual 139, 3) := by decide +kernel
theorem dX3_pushedRegister_26 : decode cX3_pushedRegister 26 = .ok (.ireturn, 1) := by decide +kernel
theorem dX3_pop_0 : decode cX3_pop 0 = .ok (.aload_n 0, 1) := by decide +kernel
theorem dX3_pop_1 : decode cX3_pop 1 = .ok (.getfield 21, 3) := by decide +kernel
theorem dX3_pop_4 : decode cX3_pop 4 = .ok (.iconst 4, 1) := by decide +kernel
theorem dX3_pop_5 : decode cX3_pop 5 = .ok (.invokevirtual 139, 3) := by decide +kernel
theorem dX3_pop_8 : decode cX3_pop 8 = .ok (.istore_n 1, 1) := by decide +kernel
theorem dX3_pop_9 : decode cX3_pop 9 = .ok (.aload_n 0, 1) := by decide +kernel
theorem dX3_pop_10 : decode cX3_pop 10 = .ok (.getfield 21, 3) := by decide +kernel
theorem dX3_pop_13 : decode cX3_pop 13 = .ok (.iconst 4, 1) := by decide +kernel
theorem dX3_pop_14 : decode cX3_pop 14 = .ok (.iload_n 1, 1) := by decide +kernel
theorem dX3_pop_15 : decode cX3_pop 15 = .ok (.iconst 2, 1) := by decide +kernel
theorem dX3_pop_16 : decode cX3_pop 16 = .ok (.iadd, 1) := by decide +kernel
theorem dX3_pop_17 : decode cX3_pop 17 = .ok (.invokevirtual 142, 3) := by decide +kernel
theorem dX3_pop_20 : decode cX3_pop 20 = .ok (.aload_n 0, 1) := by decide +kernel
theorem dX3_pop_21 : decode cX3_pop 21 = .ok (.getfield 12, 3) := by decide +kernel
theorem dX3_pop_24 : decode cX3_pop 24 = .ok (.aload_n 0, 1) := by decide +kernel
theorem dX3_pop_25 : decode cX3_pop 25 = .ok (.getfield 21, 3) := by decide +kernel
theorem dX3_pop_28 : decode cX3_pop 28 = .ok (.iconst 2, 1) := by decide +kernel
theorem dX3_pop_29 : decode cX3_pop 29 = .ok (.invokevirtual 117, 3) := by decide +kernel
theorem dX3_pop_32 : decode cX3_pop 32 = .ok (.iload_n 1, 1) := by decide +kernel
theorem dX3_pop_33 : decode cX3_pop 33 = .ok (.iconst 1, 1) := by decide +kernel
theorem dX3_pop_34 : decode cX3_pop 34 = .ok (.invokevirtual 124, 3) := by decide +kernel
theorem dX3_pop_37 : decode cX3_pop 37 = .ok (.ireturn, 1) := by decide +kernel
theorem dX3_segmentFor_0 : decode cX3_segmentFor 0 = .ok (.aload_n 0, 1) := by decide +kernel
theorem dX3_segmentFor_1 : decode cX3_segmentFor 1 = .ok (.getfield 21, 3) := by decide +kernel
theorem dX3_segmentFor_4 : decode cX3_segmentFor 4 = .ok (.aload_n 0, 1) := by decide +kernel
theorem dX3_segmentFor_5 : decode cX3_segmentFor 5 = .ok (.getfield 35, 3) := by decide +kernel
theorem dX3_segmentFor_8 : decode cX3_segmentFor 8 = .ok (.iload_n 1, 1) := by decide +kernel
theorem dX3_segmentFor_9 : decode cX3_segmentFor 9 = .ok (.invokevirtual 149, 3) := by decide +kernel
theorem dX3_segmentFor_12 : decode cX3_segmentFor 12 = .ok (.invokevirtual 117, 3) := by decide +kernel
theorem dX3_segmentFor_15 : decode cX3_segmentFor 15 = .ok (.ireturn, 1) := by decide +kernel
theorem dX3_e_0 : decode cX3_e 0 = .ok (.aload_n 0, 1) := by decide +kernel
theorem dX3_e_1 : decode cX3_e 1 = .ok (.getfield 35, 3) := by decide +kernel
theorem dX3_e_4 : decode cX3_e 4 = .ok (.invokevirtual 152, 3) := by decide +kernel
theorem dX3_e_7 : decode cX3_e 7 = .ok (.ifCond .eq 21, 3) := by decide +kernel
theorem dX3_e_10 : decode cX3_e 10 = .ok (.aload_n 0, 1) := by decide +kernel
theorem dX3_e_11 : decode cX3_e 11 = .ok (.getfield 21, 3) := by decide +kernel
theorem dX3_e_14 : decode cX3_e 14 = .ok (.aload_n 0, 1) := by decide +kernel
theorem dX3_e_15 : decode cX3_e 15 = .ok (.getfield 35, 3) := by decide +kernel
theorem dX3_e_18 : decode cX3_e 18 = .ok (.getfield 155, 3) := by decide +kernel
theorem dX3_e_21 : decode cX3_e 21 = .ok (.iload_n 1, 1) := by decide +kernel
theorem dX3_e_22 : decode cX3_e 22 = .ok (.invokevirtual 158, 3) := by decide +kernel
theorem dX3_e_25 : decode cX3_e 25 = .ok (.goto 25, 3) := by decide +kernel
theorem dX3_e_28 : decode cX3_e 28 = .ok (.aload_n 0, 1) := by decide +kernel
theorem dX3_e_29 : decode cX3_e 29 = .ok (.getfield 12, 3) := by decide +kernel
theorem dX3_e_32 : decode cX3_e 32 = .ok (.aload_n 0, 1) := by decide +kernel
theorem dX3_e_33 : decode cX3_e 33 = .ok (.getfield 35, 3) := by decide +kernel
theorem dX3_e_36 : decode cX3_e 36 = .ok (.getfield 162, 3) := by decide +kernel
theorem dX3_e_39 : decode cX3_e 39 = .ok (.aload_n 0, 1) := by decide +kernel
theorem dX3_e_40 : decode cX3_e 40 = .ok (.getfield 35, 3) := by decide +kernel
theorem dX3_e_43 : decode cX3_e 43 = .ok (.getfield 165, 3) := by decide +kernel
theorem dX3_e_46 : decode cX3_e 46 = .ok (.iload_n 1, 1) := by decide +kernel
theorem dX3_e_47 : decode cX3_e 47 = .ok (.invokevirtual 124, 3) := by decide +kernel
theorem dX3_e_50 : decode cX3_e 50 = .ok (.ireturn, 1) := by decide +kernel
theorem dX3_giveE_0 : decode cX3_giveE 0 = .ok (.aload_n 0, 1) := by decide +kernel
theorem dX3_giveE_1 : decode cX3_giveE 1 = .ok (.getfield 35, 3) := by decide +kernel
theorem dX3_giveE_4 : decode cX3_giveE 4 = .ok (.invokevirtual 152, 3) := by decide +kernel
theorem dX3_giveE_7 : decode cX3_giveE 7 = .ok (.ifCond .eq 22, 3) := by decide +kernel
theorem dX3_giveE_10 : decode cX3_giveE 10 = .ok (.aload_n 0, 1) := by decide +kernel
theorem dX3_giveE_11 : decode cX3_giveE 11 = .ok (.getfield 21, 3) := by decide +kernel
theorem dX3_giveE_14 : decode cX3_giveE 14 = .ok (.aload_n 0, 1) := by decide +kernel
theorem dX3_giveE_15 : decode cX3_giveE 15 = .ok (.getfield 35, 3) := by decide +kernel
theorem dX3_giveE_18 : decode cX3_giveE 18 = .ok (.getfield 155, 3) := by decide +kernel
theorem dX3_giveE_21 : decode cX3_giveE 21 = .ok (.iload_n 1, 1) := by decide +kernel
theorem dX3_giveE_22 : decode cX3_giveE 22 = .ok (.iload_n 2, 1) := by decide +kernel
theorem dX3_giveE_23 : decode cX3_giveE 23 = .ok (.invokevirtual 86, 3) := by decide +kernel
theorem dX3_giveE_26 : decode cX3_giveE 26 = .ok (.goto 26, 3) := by decide +kernel
theorem dX3_giveE_29 : decode cX3_giveE 29 = .ok (.aload_n 0, 1) := by decide +kernel
theorem dX3_giveE_30 : decode cX3_giveE 30 = .ok (.getfield 12, 3) := by decide +kernel
theorem dX3_giveE_33 : decode cX3_giveE 33 = .ok (.aload_n 0, 1) := by decide +kernel
theorem dX3_giveE_34 : decode cX3_giveE 34 = .ok (.getfield 35, 3) := by decide +kernel
theorem dX3_giveE_37 : decode cX3_giveE 37 = .ok (.getfield 162, 3) := by decide +kernel
theorem dX3_giveE_40 : decode cX3_giveE 40 = .ok (.aload_n 0, 1) := by decide +kernel
theorem dX3_giveE_41 : decode cX3_giveE 41 = .ok (.getfield 35, 3) := by decide +kernel
theorem dX3_giveE_44 : decode cX3_giveE 44 = .ok (.getfield 165, 3) := by decide +kernel
theorem dX3_giveE_47 : decode cX3_giveE 47 = .ok (.iload_n 1, 1) := by decide +kernel
theorem dX3_giveE_48 : decode cX3_giveE 48 = .ok (.iload_n 2, 1) := by decide +kernel
theorem dX3_giveE_49 : decode cX3_giveE 49 = .ok (.invokevirtual 145, 3) := by decide +kernel
theorem dX3_giveE_52 : decode cX3_giveE 52 = .ok (.return_, 1) := by decide +kernel
theorem dX3_wordBehindE_0 : decode cX3_wordBehindE 0 = .ok (.aload_n 0, 1) := by decide +kernel
theorem dX3_wordBehindE_1 : decode cX3_wordBehindE 1 = .ok (.getfield 12, 3) := by decide +kernel
theorem dX3_wordBehindE_4 : decode cX3_wordBehindE 4 = .ok (.aload_n 0, 1) := by decide +kernel
theorem dX3_wordBehindE_5 : decode cX3_wordBehindE 5 = .ok (.getfield 35, 3) := by decide +kernel
theorem dX3_wordBehindE_8 : decode cX3_wordBehindE 8 = .ok (.getfield 162, 3) := by decide +kernel
theorem dX3_wordBehindE_11 : decode cX3_wordBehindE 11 = .ok (.aload_n 0, 1) := by decide +kernel
theorem dX3_wordBehindE_12 : decode cX3_wordBehindE 12 = .ok (.getfield 35, 3) := by decide +kernel
theorem dX3_wordBehindE_15 : decode cX3_wordBehindE 15 = .ok (.getfield 165, 3) := by decide +kernel
theorem dX3_wordBehindE_18 : decode cX3_wordBehindE 18 = .ok (.iconst 2, 1) := by decide +kernel
theorem dX3_wordBehindE_19 : decode cX3_wordBehindE 19 = .ok (.iadd, 1) := by decide +kernel
theorem dX3_wordBehindE_20 : decode cX3_wordBehindE 20 = .ok (.iconst 1, 1) := by decide +kernel
theorem dX3_wordBehindE_21 : decode cX3_wordBehindE 21 = .ok (.invokevirtual 124, 3) := by decide +kernel
theorem dX3_wordBehindE_24 : decode cX3_wordBehindE 24 = .ok (.ireturn, 1) := by decide +kernel
theorem dX3_a_0 : decode cX3_a 0 = .ok (.aload_n 0, 1) := by decide +kernel
theorem dX3_a_1 : decode cX3_a 1 = .ok (.getfield 21, 3) := by decide +kernel
theorem dX3_a_4 : decode cX3_a 4 = .ok (.iconst 0, 1) := by decide +kernel
theorem dX3_a_5 : decode cX3_a 5 = .ok (.iload_n 1, 1) := by decide +kernel
theorem dX3_a_6 : decode cX3_a 6 = .ok (.invokevirtual 158, 3) := by decide +kernel
theorem dX3_a_9 : decode cX3_a 9 = .ok (.ireturn, 1) := by decide +kernel
theorem dX3_giveA_0 : decode cX3_giveA 0 = .ok (.aload_n 0, 1) := by decide +kernel
theorem dX3_giveA_1 : decode cX3_giveA 1 = .ok (.getfield 21, 3) := by decide +kernel
theorem dX3_giveA_4 : decode cX3_giveA 4 = .ok (.iconst 0, 1) := by decide +kernel
theorem dX3_giveA_5 : decode cX3_giveA 5 = .ok (.iload_n 1, 1) := by decide +kernel
theorem dX3_giveA_6 : decode cX3_giveA 6 = .ok (.iload_n 2, 1) := by decide +kernel
theorem dX3_giveA_7 : decode cX3_giveA 7 = .ok (.invokevirtual 86, 3) := by decide +kernel
theorem dX3_giveA_10 : decode cX3_giveA 10 = .ok (.return_, 1) := by decide +kernel
theorem dX3_operateE_0 : decode cX3_operateE 0 = .ok (.aload_n 0, 1) := by decide +kernel
theorem dX3_operateE_1 : decode cX3_operateE 1 = .ok (.getfield 28, 3) := by decide +kernel
theorem dX3_operateE_4 : decode cX3_operateE 4 = .ok (.iload_n 1, 1) := by decide +kernel
theorem dX3_operateE_5 : decode cX3_operateE 5 = .ok (.aload_n 0, 1) := by decide +kernel
theorem dX3_operateE_6 : decode cX3_operateE 6 = .ok (.iload_n 3, 1) := by decide +kernel
theorem dX3_operateE_7 : decode cX3_operateE 7 = .ok (.invokevirtual 168, 3) := by decide +kernel
theorem dX3_operateE_10 : decode cX3_operateE 10 = .ok (.iload_n 2, 1) := by decide +kernel
theorem dX3_operateE_11 : decode cX3_operateE 11 = .ok (.iload_n 3, 1) := by decide +kernel
theorem dX3_operateE_12 : decode cX3_operateE 12 = .ok (.invokevirtual 172, 3) := by decide +kernel
theorem dX3_operateE_15 : decode cX3_operateE 15 = .ok (.istore 4, 2) := by decide +kernel
theorem dX3_operateE_17 : decode cX3_operateE 17 = .ok (.iload_n 1, 1) := by decide +kernel
theorem dX3_operateE_18 : decode cX3_operateE 18 = .ok (.bipush 7, 2) := by decide +kernel
theorem dX3_operateE_20 : decode cX3_operateE 20 = .ok (.if_icmp .eq 16, 3) := by decide +kernel
theorem dX3_operateE_23 : decode cX3_operateE 23 = .ok (.iload_n 1, 1) := by decide +kernel
theorem dX3_operateE_24 : decode cX3_operateE 24 = .ok (.bipush 8, 2) := by decide +kernel
theorem dX3_operateE_26 : decode cX3_operateE 26 = .ok (.if_icmp .eq 10, 3) := by decide +kernel
theorem dX3_operateE_29 : decode cX3_operateE 29 = .ok (.aload_n 0, 1) := by decide +kernel
theorem dX3_operateE_30 : decode cX3_operateE 30 = .ok (.iload 4, 2) := by decide +kernel
theorem dX3_operateE_32 : decode cX3_operateE 32 = .ok (.iload_n 3, 1) := by decide +kernel
theorem dX3_operateE_33 : decode cX3_operateE 33 = .ok (.invokevirtual 176, 3) := by decide +kernel
theorem dX3_operateE_36 : decode cX3_operateE 36 = .ok (.return_, 1) := by decide +kernel
theorem dX3_jump_0 : decode cX3_jump 0 = .ok (.aload_n 0, 1) := by decide +kernel
theorem dX3_jump_1 : decode cX3_jump 1 = .ok (.getfield 21, 3) := by decide +kernel
theorem dX3_jump_4 : decode cX3_jump 4 = .ok (.aload_n 0, 1) := by decide +kernel
theorem dX3_jump_5 : decode cX3_jump 5 = .ok (.getfield 21, 3) := by decide +kernel
theorem dX3_jump_8 : decode cX3_jump 8 = .ok (.getfield 121, 3) := by decide +kernel
theorem dX3_jump_11 : decode cX3_jump 11 = .ok (.iload_n 1, 1) := by decide +kernel
theorem dX3_jump_12 : decode cX3_jump 12 = .ok (.iadd, 1) := by decide +kernel
theorem dX3_jump_13 : decode cX3_jump 13 = .ok (.invokevirtual 128, 3) := by decide +kernel
theorem dX3_jump_16 : decode cX3_jump 16 = .ok (.return_, 1) := by decide +kernel
theorem dX3_jumpIf_0 : decode cX3_jumpIf 0 = .ok (.iload_n 1, 1) := by decide +kernel
theorem dX3_jumpIf_1 : decode cX3_jumpIf 1 = .ok (.ifCond .eq 18, 3) := by decide +kernel
theorem dX3_jumpIf_4 : decode cX3_jumpIf 4 = .ok (.aload_n 0, 1) := by decide +kernel
theorem dX3_jumpIf_5 : decode cX3_jumpIf 5 = .ok (.aload_n 0, 1) := by decide +kernel
theorem dX3_jumpIf_6 : decode cX3_jumpIf 6 = .ok (.getfield 35, 3) := by decide +kernel
theorem dX3_jumpIf_9 : decode cX3_jumpIf 9 = .ok (.getfield 83, 3) := by decide +kernel
theorem dX3_jumpIf_12 : decode cX3_jumpIf 12 = .ok (.iconst 0, 1) := by decide +kernel
theorem dX3_jumpIf_13 : decode cX3_jumpIf 13 = .ok (.invokestatic 179, 3) := by decide +kernel
theorem dX3_jumpIf_16 : decode cX3_jumpIf 16 = .ok (.invokevirtual 182, 3) := by decide +kernel
theorem dX3_jumpIf_19 : decode cX3_jumpIf 19 = .ok (.return_, 1) := by decide +kernel
theorem dX3_jumpFar_0 : decode cX3_jumpFar 0 = .ok (.aload_n 0, 1) := by decide +kernel
theorem dX3_jumpFar_1 : decode cX3_jumpFar 1 = .ok (.getfield 21, 3) := by decide +kernel
theorem dX3_jumpFar_4 : decode cX3_jumpFar 4 = .ok (.iload_n 1, 1) := by decide +kernel
theorem dX3_jumpFar_5 : decode cX3_jumpFar 5 = .ok (.invokevirtual 128, 3) := by decide +kernel
theorem dX3_jumpFar_8 : decode cX3_jumpFar 8 = .ok (.aload_n 0, 1) := by decide +kernel
theorem dX3_jumpFar_9 : decode cX3_jumpFar 9 = .ok (.getfield 21, 3) := by decide +kernel
theorem dX3_jumpFar_12 : decode cX3_jumpFar 12 = .ok (.iconst 1, 1) := by decide +kernel
theorem dX3_jumpFar_13 : decode cX3_jumpFar 13 = .ok (.iload_n 2, 1) := by decide +kernel
theorem dX3_jumpFar_14 : decode cX3_jumpFar 14 = .ok (.invokevirtual 131, 3) := by decide +kernel
theorem dX3_jumpFar_17 : decode cX3_jumpFar 17 = .ok (.return_, 1) := by decide +kernel
theorem dX3_callFar_0 : decode cX3_callFar 0 = .ok (.aload_n 0, 1) := by decide +kernel
theorem dX3_callFar_1 : decode cX3_callFar 1 = .ok (.aload_n 0, 1) := by decide +kernel
theorem dX3_callFar_2 : decode cX3_callFar 2 = .ok (.getfield 21, 3) := by decide +kernel
theorem dX3_callFar_5 : decode cX3_callFar 5 = .ok (.iconst 1, 1) := by decide +kernel
theorem dX3_callFar_6 : decode cX3_callFar 6 = .ok (.invokevirtual 117, 3) := by decide +kernel
theorem dX3_callFar_9 : decode cX3_callFar 9 = .ok (.invokevirtual 110, 3) := by decide +kernel
theorem dX3_callFar_12 : decode cX3_callFar 12 = .ok (.aload_n 0, 1) := by decide +kernel
theorem dX3_callFar_13 : decode cX3_callFar 13 = .ok (.aload_n 0, 1) := by decide +kernel
theorem dX3_callFar_14 : decode cX3_callFar 14 = .ok (.getfield 21, 3) := by decide +kernel
theorem dX3_callFar_17 : decode cX3_callFar 17 = .ok (.getfield 121, 3) := by decide +kernel
theorem dX3_callFar_20 : decode cX3_callFar 20 = .ok (.invokevirtual 110, 3) := by decide +kernel
theorem dX3_callFar_23 : decode cX3_callFar 23 = .ok (.aload_n 0, 1) := by decide +kernel
theorem dX3_callFar_24 : decode cX3_callFar 24 = .ok (.iload_n 1, 1) := by decide +kernel
theorem dX3_callFar_25 : decode cX3_callFar 25 = .ok (.iload_n 2, 1) := by decide +kernel
theorem dX3_callFar_26 : decode cX3_callFar 26 = .ok (.invokevirtual 185, 3) := by decide +kernel
theorem dX3_callFar_29 : decode cX3_callFar 29 = .ok (.return_, 1) := by decide +kernel
theorem dX3_operationCodes_0 : decode cX3_operationCodes 0 = .ok (.aload_n 0, 1) := by decide +kernel
theorem dX3_operationCodes_1 : decode cX3_operationCodes 1 = .ok (.getfield 35, 3) := by decide +kernel
theorem dX3_operationCodes_4 : decode cX3_operationCodes 4 = .ok (.getfield 47, 3) := by decide +kernel
theorem dX3_operationCodes_7 : decode cX3_operationCodes 7 = .ok (.istore_n 1, 1) := by decide +kernel
theorem dX3_operationCodes_8 : decode cX3_operationCodes 8 = .ok (.iload_n 1, 1) := by decide +kernel
theorem dX3_operationCodes_9 : decode cX3_operationCodes 9 = .ok (.iconst 3, 1) := by decide +kernel
theorem dX3_operationCodes_10 : decode cX3_operationCodes 10 = .ok (.ishr, 1) := by decide +kernel
theorem dX3_operationCodes_11 : decode cX3_operationCodes 11 = .ok (.bipush 7, 2) := by decide +kernel
theorem dX3_operationCodes_13 : decode cX3_operationCodes 13 = .ok (.iand, 1) := by decide +kernel
theorem dX3_operationCodes_14 : decode cX3_operationCodes 14 = .ok (.istore_n 2, 1) := by decide +kernel
theorem dX3_operationCodes_15 : decode cX3_operationCodes 15 = .ok (.aload_n 0, 1) := by decide +kernel
theorem dX3_operationCodes_16 : decode cX3_operationCodes 16 = .ok (.getfield 35, 3) := by decide +kernel
theorem dX3_operationCodes_19 : decode cX3_operationCodes 19 = .ok (.invokevirtual 188, 3) := by decide +kernel
theorem dX3_operationCodes_22 : decode cX3_operationCodes 22 = .ok (.istore_n 3, 1) := by decide +kernel
theorem dX3_operationCodes_23 : decode cX3_operationCodes 23 = .ok (.iload_n 1, 1) := by decide +kernel
theorem dX3_operationCodes_24 : decode cX3_operationCodes 24 = .ok (.bipush 7, 2) := by decide +kernel
theorem dX3_operationCodes_26 : decode cX3_operationCodes 26 = .ok (.iand, 1) := by decide +kernel
theorem dX3_operationCodes_27 : decode cX3_operationCodes 27 = .ok (.tableswitch 156 0 6 #[41, 41, 65, 65, 112, 112, 141], 41) := by decide +kernel
theorem dX3_operationCodes_68 : decode cX3_operationCodes 68 = .ok (.aload_n 0, 1) := by decide +kernel
theorem dX3_operationCodes_69 : decode cX3_operationCodes 69 = .ok (.iload_n 2, 1) := by decide +kernel
theorem dX3_operationCodes_70 : decode cX3_operationCodes 70 = .ok (.aload_n 0, 1) := by decide +kernel
theorem dX3_operationCodes_71 : decode cX3_operationCodes 71 = .ok (.getfield 21, 3) := by decide +kernel
theorem dX3_operationCodes_74 : decode cX3_operationCodes 74 = .ok (.aload_n 0, 1) := by decide +kernel
theorem dX3_operationCodes_75 : decode cX3_operationCodes 75 = .ok (.getfield 35, 3) := by decide +kernel
theorem dX3_operationCodes_78 : decode cX3_operationCodes 78 = .ok (.getfield 191, 3) := by decide +kernel
theorem dX3_operationCodes_81 : decode cX3_operationCodes 81 = .ok (.iload_n 3, 1) := by decide +kernel
theorem dX3_operationCodes_82 : decode cX3_operationCodes 82 = .ok (.invokevirtual 158, 3) := by decide +kernel
theorem dX3_operationCodes_85 : decode cX3_operationCodes 85 = .ok (.iload_n 3, 1) := by decide +kernel
theorem dX3_operationCodes_86 : decode cX3_operationCodes 86 = .ok (.invokevirtual 194, 3) := by decide +kernel
theorem dX3_operationCodes_89 : decode cX3_operationCodes 89 = .ok (.goto 136, 3) := by decide +kernel
theorem dX3_operationCodes_92 : decode cX3_operationCodes 92 = .ok (.aload_n 0, 1) := by decide +kernel
theorem dX3_operationCodes_93 : decode cX3_operationCodes 93 = .ok (.getfield 21, 3) := by decide +kernel
theorem dX3_operationCodes_96 : decode cX3_operationCodes 96 = .ok (.aload_n 0, 1) := by decide +kernel
theorem dX3_operationCodes_97 : decode cX3_operationCodes 97 = .ok (.getfield 35, 3) := by decide +kernel
theorem dX3_operationCodes_100 : decode cX3_operationCodes 100 = .ok (.getfield 191, 3) := by decide +kernel
theorem dX3_operationCodes_103 : decode cX3_operationCodes 103 = .ok (.aload_n 0, 1) := by decide +kernel
theorem dX3_operationCodes_104 : decode cX3_operationCodes 104 = .ok (.getfield 28, 3) := by decide +kernel
theorem dX3_operationCodes_107 : decode cX3_operationCodes 107 = .ok (.iload_n 2, 1) := by decide +kernel
theorem dX3_operationCodes_108 : decode cX3_operationCodes 108 = .ok (.aload_n 0, 1) := by decide +kernel
theorem dX3_operationCodes_109 : decode cX3_operationCodes 109 = .ok (.getfield 21, 3) := by decide +kernel
theorem dX3_operationCodes_112 : decode cX3_operationCodes 112 = .ok (.aload_n 0, 1) := by decide +kernel
theorem dX3_operationCodes_113 : decode cX3_operationCodes 113 = .ok (.getfield 35, 3) := by decide +kernel
theorem dX3_operationCodes_116 : decode cX3_operationCodes 116 = .ok (.getfield 191, 3) := by decide +kernel
theorem dX3_operationCodes_119 : decode cX3_operationCodes 119 = .ok (.iload_n 3, 1) := by decide +kernel
theorem dX3_operationCodes_120 : decode cX3_operationCodes 120 = .ok (.invokevirtual 158, 3) := by decide +kernel
theorem dX3_operationCodes_123 : decode cX3_operationCodes 123 = .ok (.aload_n 0, 1) := by decide +kernel
theorem dX3_operationCodes_124 : decode cX3_operationCodes 124 = .ok (.iload_n 3, 1) := by decide +kernel
theorem dX3_operationCodes_125 : decode cX3_operationCodes 125 = .ok (.invokevirtual 168, 3) := by decide +kernel
theorem dX3_operationCodes_128 : decode cX3_operationCodes 128 = .ok (.iload_n 3, 1) := by decide +kernel
theorem dX3_operationCodes_129 : decode cX3_operationCodes 129 = .ok (.invokevirtual 172, 3) := by decide +kernel
theorem dX3_operationCodes_132 : decode cX3_operationCodes 132 = .ok (.iload_n 3, 1) := by decide +kernel
theorem dX3_operationCodes_133 : decode cX3_operationCodes 133 = .ok (.invokevirtual 86, 3) := by decide +kernel
theorem dX3_operationCodes_136 : decode cX3_operationCodes 136 = .ok (.goto 89, 3) := by decide +kernel
theorem dX3_operationCodes_139 : decode cX3_operationCodes 139 = .ok (.aload_n 0, 1) := by decide +kernel
theorem dX3_operationCodes_140 : decode cX3_operationCodes 140 = .ok (.aload_n 0, 1) := by decide +kernel
theorem dX3_operationCodes_141 : decode cX3_operationCodes 141 = .ok (.getfield 28, 3) := by decide +kernel
theorem dX3_operationCodes_144 : decode cX3_operationCodes 144 = .ok (.iload_n 2, 1) := by decide +kernel
theorem dX3_operationCodes_145 : decode cX3_operationCodes 145 = .ok (.aload_n 0, 1) := by decide +kernel
theorem dX3_operationCodes_146 : decode cX3_operationCodes 146 = .ok (.iload_n 3, 1) := by decide +kernel
theorem dX3_operationCodes_147 : decode cX3_operationCodes 147 = .ok (.invokevirtual 197, 3) := by decide +kernel
theorem dX3_operationCodes_150 : decode cX3_operationCodes 150 = .ok (.aload_n 0, 1) := by decide +kernel
theorem dX3_operationCodes_151 : decode cX3_operationCodes 151 = .ok (.getfield 35, 3) := by decide +kernel
theorem dX3_operationCodes_154 : decode cX3_operationCodes 154 = .ok (.getfield 83, 3) := by decide +kernel
theorem dX3_operationCodes_157 : decode cX3_operationCodes 157 = .ok (.iload_n 3, 1) := by decide +kernel
theorem dX3_operationCodes_158 : decode cX3_operationCodes 158 = .ok (.invokevirtual 172, 3) := by decide +kernel
theorem dX3_operationCodes_161 : decode cX3_operationCodes 161 = .ok (.iload_n 3, 1) := by decide +kernel
theorem dX3_operationCodes_162 : decode cX3_operationCodes 162 = .ok (.invokevirtual 200, 3) := by decide +kernel
theorem dX3_operationCodes_165 : decode cX3_operationCodes 165 = .ok (.goto 60, 3) := by decide +kernel
theorem dX3_operationCodes_168 : decode cX3_operationCodes 168 = .ok (.aload_n 0, 1) := by decide +kernel
theorem dX3_operationCodes_169 : decode cX3_operationCodes 169 = .ok (.aload_n 0, 1) := by decide +kernel
theorem dX3_operationCodes_170 : decode cX3_operationCodes 170 = .ok (.getfield 21, 3) := by decide +kernel
theorem dX3_operationCodes_173 : decode cX3_operationCodes 173 = .ok (.iload_n 2, 1) := by decide +kernel
theorem dX3_operationCodes_174 : decode cX3_operationCodes 174 = .ok (.invokevirtual 117, 3) := by decide +kernel
theorem dX3_operationCodes_177 : decode cX3_operationCodes 177 = .ok (.invokevirtual 110, 3) := by decide +kernel
theorem dX3_operationCodes_180 : decode cX3_operationCodes 180 = .ok (.goto 45, 3) := by decide +kernel
theorem dX3_operationCodes_183 : decode cX3_operationCodes 183 = .ok (.iload_n 1, 1) := by decide +kernel
theorem dX3_operationCodes_184 : decode cX3_operationCodes 184 = .ok (.bipush 32, 2) := by decide +kernel
theorem dX3_operationCodes_186 : decode cX3_operationCodes 186 = .ok (.if_icmp .ge 18, 3) := by decide +kernel
theorem dX3_operationCodes_189 : decode cX3_operationCodes 189 = .ok (.aload_n 0, 1) := by decide +kernel
theorem dX3_operationCodes_190 : decode cX3_operationCodes 190 = .ok (.getfield 21, 3) := by decide +kernel
theorem dX3_operationCodes_193 : decode cX3_operationCodes 193 = .ok (.iload_n 2, 1) := by decide +kernel
theorem dX3_operationCodes_194 : decode cX3_operationCodes 194 = .ok (.aload_n 0, 1) := by decide +kernel
theorem dX3_operationCodes_195 : decode cX3_operationCodes 195 = .ok (.invokevirtual 203, 3) := by decide +kernel
theorem dX3_operationCodes_198 : decode cX3_operationCodes 198 = .ok (.invokevirtual 131, 3) := by decide +kernel
theorem dX3_operationCodes_201 : decode cX3_operationCodes 201 = .ok (.goto 24, 3) := by decide +kernel
theorem dX3_operationCodes_204 : decode cX3_operationCodes 204 = .ok (.aload_n 0, 1) := by decide +kernel
theorem dX3_operationCodes_205 : decode cX3_operationCodes 205 = .ok (.aload_n 0, 1) := by decide +kernel
theorem dX3_operationCodes_206 : decode cX3_operationCodes 206 = .ok (.getfield 28, 3) := by decide +kernel
theorem dX3_operationCodes_209 : decode cX3_operationCodes 209 = .ok (.iload_n 2, 1) := by decide +kernel
theorem dX3_operationCodes_210 : decode cX3_operationCodes 210 = .ok (.iconst 3, 1) := by decide +kernel
theorem dX3_operationCodes_211 : decode cX3_operationCodes 211 = .ok (.iand, 1) := by decide +kernel
theorem dX3_operationCodes_212 : decode cX3_operationCodes 212 = .ok (.aload_n 0, 1) := by decide +kernel
theorem dX3_operationCodes_213 : decode cX3_operationCodes 213 = .ok (.iconst 1, 1) := by decide +kernel
theorem dX3_operationCodes_214 : decode cX3_operationCodes 214 = .ok (.invokevirtual 197, 3) := by decide +kernel
theorem dX3_operationCodes_217 : decode cX3_operationCodes 217 = .ok (.iconst 0, 1) := by decide +kernel
theorem dX3_operationCodes_218 : decode cX3_operationCodes 218 = .ok (.invokevirtual 206, 3) := by decide +kernel
theorem dX3_operationCodes_221 : decode cX3_operationCodes 221 = .ok (.iconst 1, 1) := by decide +kernel
theorem dX3_operationCodes_222 : decode cX3_operationCodes 222 = .ok (.invokevirtual 200, 3) := by decide +kernel
theorem dX3_operationCodes_225 : decode cX3_operationCodes 225 = .ok (.return_, 1) := by decide +kernel
theorem dX3_stepWordRegister_0 : decode cX3_stepWordRegister 0 = .ok (.aload_n 0, 1) := by decide +kernel
theorem dX3_stepWordRegister_1 : decode cX3_stepWordRegister 1 = .ok (.getfield 28, 3) := by decide +kernel
theorem dX3_stepWordRegister_4 : decode cX3_stepWordRegister 4 = .ok (.aload_n 0, 1) := by decide +kernel
theorem dX3_stepWordRegister_5 : decode cX3_stepWordRegister 5 = .ok (.getfield 21, 3) := by decide +kernel
theorem dX3_stepWordRegister_8 : decode cX3_stepWordRegister 8 = .ok (.aload_n 0, 1) := by decide +kernel
theorem dX3_stepWordRegister_9 : decode cX3_stepWordRegister 9 = .ok (.getfield 35, 3) := by decide +kernel
theorem dX3_stepWordRegister_12 : decode cX3_stepWordRegister 12 = .ok (.getfield 47, 3) := by decide +kernel
theorem dX3_stepWordRegister_15 : decode cX3_stepWordRegister 15 = .ok (.invokevirtual 139, 3) := by decide +kernel
theorem dX3_stepWordRegister_18 : decode cX3_stepWordRegister 18 = .ok (.aload_n 0, 1) := by decide +kernel
theorem dX3_stepWordRegister_19 : decode cX3_stepWordRegister 19 = .ok (.getfield 35, 3) := by decide +kernel
theorem dX3_stepWordRegister_22 : decode cX3_stepWordRegister 22 = .ok (.getfield 47, 3) := by decide +kernel
theorem dX3_stepWordRegister_25 : decode cX3_stepWordRegister 25 = .ok (.bipush 8, 2) := by decide +kernel
theorem dX3_stepWordRegister_27 : decode cX3_stepWordRegister 27 = .ok (.iand, 1) := by decide +kernel
theorem dX3_stepWordRegister_28 : decode cX3_stepWordRegister 28 = .ok (.ifCond .eq 7, 3) := by decide +kernel
theorem dX3_stepWordRegister_31 : decode cX3_stepWordRegister 31 = .ok (.iconst 1, 1) := by decide +kernel
theorem dX3_stepWordRegister_32 : decode cX3_stepWordRegister 32 = .ok (.goto 4, 3) := by decide +kernel
theorem dX3_stepWordRegister_35 : decode cX3_stepWordRegister 35 = .ok (.iconst 0, 1) := by decide +kernel
theorem dX3_stepWordRegister_36 : decode cX3_stepWordRegister 36 = .ok (.iconst 1, 1) := by decide +kernel
theorem dX3_stepWordRegister_37 : decode cX3_stepWordRegister 37 = .ok (.invokevirtual 210, 3) := by decide +kernel
theorem dX3_stepWordRegister_40 : decode cX3_stepWordRegister 40 = .ok (.istore_n 1, 1) := by decide +kernel
theorem dX3_stepWordRegister_41 : decode cX3_stepWordRegister 41 = .ok (.aload_n 0, 1) := by decide +kernel
theorem dX3_stepWordRegister_42 : decode cX3_stepWordRegister 42 = .ok (.getfield 21, 3) := by decide +kernel
theorem dX3_stepWordRegister_45 : decode cX3_stepWordRegister 45 = .ok (.aload_n 0, 1) := by decide +kernel
theorem dX3_stepWordRegister_46 : decode cX3_stepWordRegister 46 = .ok (.getfield 35, 3) := by decide +kernel
theorem dX3_stepWordRegister_49 : decode cX3_stepWordRegister 49 = .ok (.getfield 47, 3) := by decide +kernel
theorem dX3_stepWordRegister_52 : decode cX3_stepWordRegister 52 = .ok (.iload_n 1, 1) := by decide +kernel
theorem dX3_stepWordRegister_53 : decode cX3_stepWordRegister 53 = .ok (.invokevirtual 142, 3) := by decide +kernel
theorem dX3_stepWordRegister_56 : decode cX3_stepWordRegister 56 = .ok (.return_, 1) := by decide +kernel
theorem dX3_registerStackCodes_0 : decode cX3_registerStackCodes 0 = .ok (.aload_n 0, 1) := by decide +kernel
theorem dX3_registerStackCodes_1 : decode cX3_registerStackCodes 1 = .ok (.getfield 35, 3) := by decide +kernel
theorem dX3_registerStackCodes_4 : decode cX3_registerStackCodes 4 = .ok (.getfield 47, 3) := by decide +kernel
theorem dX3_registerStackCodes_7 : decode cX3_registerStackCodes 7 = .ok (.bipush 8, 2) := by decide +kernel
theorem dX3_registerStackCodes_9 : decode cX3_registerStackCodes 9 = .ok (.iand, 1) := by decide +kernel
theorem dX3_registerStackCodes_10 : decode cX3_registerStackCodes 10 = .ok (.ifCond .ne 24, 3) := by decide +kernel
theorem dX3_registerStackCodes_13 : decode cX3_registerStackCodes 13 = .ok (.aload_n 0, 1) := by decide +kernel
theorem dX3_registerStackCodes_14 : decode cX3_registerStackCodes 14 = .ok (.aload_n 0, 1) := by decide +kernel
theorem dX3_registerStackCodes_15 : decode cX3_registerStackCodes 15 = .ok (.aload_n 0, 1) := by decide +kernel
theorem dX3_registerStackCodes_16 : decode cX3_registerStackCodes 16 = .ok (.getfield 35, 3) := by decide +kernel
theorem dX3_registerStackCodes_19 : decode cX3_registerStackCodes 19 = .ok (.getfield 47, 3) := by decide +kernel
theorem dX3_registerStackCodes_22 : decode cX3_registerStackCodes 22 = .ok (.bipush 7, 2) := by decide +kernel
theorem dX3_registerStackCodes_24 : decode cX3_registerStackCodes 24 = .ok (.iand, 1) := by decide +kernel
theorem dX3_registerStackCodes_25 : decode cX3_registerStackCodes 25 = .ok (.invokevirtual 214, 3) := by decide +kernel
theorem dX3_registerStackCodes_28 : decode cX3_registerStackCodes 28 = .ok (.invokevirtual 110, 3) := by decide +kernel
theorem dX3_registerStackCodes_31 : decode cX3_registerStackCodes 31 = .ok (.goto 21, 3) := by decide +kernel
theorem dX3_registerStackCodes_34 : decode cX3_registerStackCodes 34 = .ok (.aload_n 0, 1) := by decide +kernel
theorem dX3_registerStackCodes_35 : decode cX3_registerStackCodes 35 = .ok (.getfield 21, 3) := by decide +kernel
theorem dX3_registerStackCodes_38 : decode cX3_registerStackCodes 38 = .ok (.aload_n 0, 1) := by decide +kernel
theorem dX3_registerStackCodes_39 : decode cX3_registerStackCodes 39 = .ok (.getfield 35, 3) := by decide +kernel
theorem dX3_registerStackCodes_42 : decode cX3_registerStackCodes 42 = .ok (.getfield 47, 3) := by decide +kernel
theorem dX3_registerStackCodes_45 : decode cX3_registerStackCodes 45 = .ok (.aload_n 0, 1) := by decide +kernel
theorem dX3_registerStackCodes_46 : decode cX3_registerStackCodes 46 = .ok (.invokevirtual 203, 3) := by decide +kernel
theorem dX3_registerStackCodes_49 : decode cX3_registerStackCodes 49 = .ok (.invokevirtual 142, 3) := by decide +kernel
theorem dX3_registerStackCodes_52 : decode cX3_registerStackCodes 52 = .ok (.return_, 1) := by decide +kernel
theorem dX3_operandCodes_0 : decode cX3_operandCodes 0 = .ok (.aload_n 0, 1) := by decide +kernel
theorem dX3_operandCodes_1 : decode cX3_operandCodes 1 = .ok (.getfield 35, 3) := by decide +kernel
theorem dX3_operandCodes_4 : decode cX3_operandCodes 4 = .ok (.invokevirtual 188, 3) := by decide +kernel
theorem dX3_operandCodes_7 : decode cX3_operandCodes 7 = .ok (.istore_n 1, 1) := by decide +kernel
theorem dX3_operandCodes_8 : decode cX3_operandCodes 8 = .ok (.aload_n 0, 1) := by decide +kernel
theorem dX3_operandCodes_9 : decode cX3_operandCodes 9 = .ok (.getfield 35, 3) := by decide +kernel
theorem dX3_operandCodes_12 : decode cX3_operandCodes 12 = .ok (.getfield 47, 3) := by decide +kernel
theorem dX3_operandCodes_15 : decode cX3_operandCodes 15 = .ok (.tableswitch 271 128 142 #[73, 73, 73, 95, 124, 124, 149, 149, 157, 157, 180, 180, 203, 225, 249], 73) := by decide +kernel
theorem dX3_operandCodes_88 : decode cX3_operandCodes 88 = .ok (.aload_n 0, 1) := by decide +kernel
theorem dX3_operandCodes_89 : decode cX3_operandCodes 89 = .ok (.aload_n 0, 1) := by decide +kernel
theorem dX3_operandCodes_90 : decode cX3_operandCodes 90 = .ok (.getfield 35, 3) := by decide +kernel
theorem dX3_operandCodes_93 : decode cX3_operandCodes 93 = .ok (.getfield 191, 3) := by decide +kernel
theorem dX3_operandCodes_96 : decode cX3_operandCodes 96 = .ok (.aload_n 0, 1) := by decide +kernel
theorem dX3_operandCodes_97 : decode cX3_operandCodes 97 = .ok (.getfield 35, 3) := by decide +kernel
theorem dX3_operandCodes_100 : decode cX3_operandCodes 100 = .ok (.getfield 83, 3) := by decide +kernel
theorem dX3_operandCodes_103 : decode cX3_operandCodes 103 = .ok (.iload_n 1, 1) := by decide +kernel
theorem dX3_operandCodes_104 : decode cX3_operandCodes 104 = .ok (.invokevirtual 194, 3) := by decide +kernel
theorem dX3_operandCodes_107 : decode cX3_operandCodes 107 = .ok (.goto 188, 3) := by decide +kernel
theorem dX3_operandCodes_110 : decode cX3_operandCodes 110 = .ok (.aload_n 0, 1) := by decide +kernel
theorem dX3_operandCodes_111 : decode cX3_operandCodes 111 = .ok (.aload_n 0, 1) := by decide +kernel
theorem dX3_operandCodes_112 : decode cX3_operandCodes 112 = .ok (.getfield 35, 3) := by decide +kernel
theorem dX3_operandCodes_115 : decode cX3_operandCodes 115 = .ok (.getfield 191, 3) := by decide +kernel
theorem dX3_operandCodes_118 : decode cX3_operandCodes 118 = .ok (.aload_n 0, 1) := by decide +kernel
theorem dX3_operandCodes_119 : decode cX3_operandCodes 119 = .ok (.getfield 35, 3) := by decide +kernel
theorem dX3_operandCodes_122 : decode cX3_operandCodes 122 = .ok (.getfield 83, 3) := by decide +kernel
theorem dX3_operandCodes_125 : decode cX3_operandCodes 125 = .ok (.iconst 0, 1) := by decide +kernel
theorem dX3_operandCodes_126 : decode cX3_operandCodes 126 = .ok (.invokestatic 179, 3) := by decide +kernel
theorem dX3_operandCodes_129 : decode cX3_operandCodes 129 = .ok (.ldc 217, 2) := by decide +kernel
theorem dX3_operandCodes_131 : decode cX3_operandCodes 131 = .ok (.iand, 1) := by decide +kernel
theorem dX3_operandCodes_132 : decode cX3_operandCodes 132 = .ok (.iconst 1, 1) := by decide +kernel
theorem dX3_operandCodes_133 : decode cX3_operandCodes 133 = .ok (.invokevirtual 194, 3) := by decide +kernel
theorem dX3_operandCodes_136 : decode cX3_operandCodes 136 = .ok (.goto 159, 3) := by decide +kernel
theorem dX3_operandCodes_139 : decode cX3_operandCodes 139 = .ok (.aload_n 0, 1) := by decide +kernel
theorem dX3_operandCodes_140 : decode cX3_operandCodes 140 = .ok (.bipush 8, 2) := by decide +kernel
theorem dX3_operandCodes_142 : decode cX3_operandCodes 142 = .ok (.aload_n 0, 1) := by decide +kernel
theorem dX3_operandCodes_143 : decode cX3_operandCodes 143 = .ok (.getfield 21, 3) := by decide +kernel
theorem dX3_operandCodes_146 : decode cX3_operandCodes 146 = .ok (.aload_n 0, 1) := by decide +kernel
theorem dX3_operandCodes_147 : decode cX3_operandCodes 147 = .ok (.getfield 35, 3) := by decide +kernel
theorem dX3_operandCodes_150 : decode cX3_operandCodes 150 = .ok (.getfield 191, 3) := by decide +kernel
theorem dX3_operandCodes_153 : decode cX3_operandCodes 153 = .ok (.iload_n 1, 1) := by decide +kernel
theorem dX3_operandCodes_154 : decode cX3_operandCodes 154 = .ok (.invokevirtual 158, 3) := by decide +kernel
theorem dX3_operandCodes_157 : decode cX3_operandCodes 157 = .ok (.iload_n 1, 1) := by decide +kernel
theorem dX3_operandCodes_158 : decode cX3_operandCodes 158 = .ok (.invokevirtual 194, 3) := by decide +kernel
theorem dX3_operandCodes_161 : decode cX3_operandCodes 161 = .ok (.goto 134, 3) := by decide +kernel
theorem dX3_operandCodes_164 : decode cX3_operandCodes 164 = .ok (.aload_n 0, 1) := by decide +kernel
theorem dX3_operandCodes_165 : decode cX3_operandCodes 165 = .ok (.iload_n 1, 1) := by decide +kernel
theorem dX3_operandCodes_166 : decode cX3_operandCodes 166 = .ok (.invokevirtual 218, 3) := by decide +kernel
theorem dX3_operandCodes_169 : decode cX3_operandCodes 169 = .ok (.goto 126, 3) := by decide +kernel
theorem dX3_operandCodes_172 : decode cX3_operandCodes 172 = .ok (.aload_n 0, 1) := by decide +kernel
theorem dX3_operandCodes_173 : decode cX3_operandCodes 173 = .ok (.aload_n 0, 1) := by decide +kernel
theorem dX3_operandCodes_174 : decode cX3_operandCodes 174 = .ok (.getfield 21, 3) := by decide +kernel
theorem dX3_operandCodes_177 : decode cX3_operandCodes 177 = .ok (.aload_n 0, 1) := by decide +kernel
theorem dX3_operandCodes_178 : decode cX3_operandCodes 178 = .ok (.getfield 35, 3) := by decide +kernel
theorem dX3_operandCodes_181 : decode cX3_operandCodes 181 = .ok (.getfield 191, 3) := by decide +kernel
theorem dX3_operandCodes_184 : decode cX3_operandCodes 184 = .ok (.iload_n 1, 1) := by decide +kernel
theorem dX3_operandCodes_185 : decode cX3_operandCodes 185 = .ok (.invokevirtual 158, 3) := by decide +kernel
theorem dX3_operandCodes_188 : decode cX3_operandCodes 188 = .ok (.iload_n 1, 1) := by decide +kernel
theorem dX3_operandCodes_189 : decode cX3_operandCodes 189 = .ok (.invokevirtual 176, 3) := by decide +kernel
theorem dX3_operandCodes_192 : decode cX3_operandCodes 192 = .ok (.goto 103, 3) := by decide +kernel
theorem dX3_operandCodes_195 : decode cX3_operandCodes 195 = .ok (.aload_n 0, 1) := by decide +kernel
theorem dX3_operandCodes_196 : decode cX3_operandCodes 196 = .ok (.getfield 21, 3) := by decide +kernel
theorem dX3_operandCodes_199 : decode cX3_operandCodes 199 = .ok (.aload_n 0, 1) := by decide +kernel
theorem dX3_operandCodes_200 : decode cX3_operandCodes 200 = .ok (.getfield 35, 3) := by decide +kernel
theorem dX3_operandCodes_203 : decode cX3_operandCodes 203 = .ok (.getfield 191, 3) := by decide +kernel
theorem dX3_operandCodes_206 : decode cX3_operandCodes 206 = .ok (.aload_n 0, 1) := by decide +kernel
theorem dX3_operandCodes_207 : decode cX3_operandCodes 207 = .ok (.iload_n 1, 1) := by decide +kernel
theorem dX3_operandCodes_208 : decode cX3_operandCodes 208 = .ok (.invokevirtual 168, 3) := by decide +kernel
theorem dX3_operandCodes_211 : decode cX3_operandCodes 211 = .ok (.iload_n 1, 1) := by decide +kernel
theorem dX3_operandCodes_212 : decode cX3_operandCodes 212 = .ok (.invokevirtual 86, 3) := by decide +kernel
theorem dX3_operandCodes_215 : decode cX3_operandCodes 215 = .ok (.goto 80, 3) := by decide +kernel
theorem dX3_operandCodes_218 : decode cX3_operandCodes 218 = .ok (.aload_n 0, 1) := by decide +kernel
theorem dX3_operandCodes_219 : decode cX3_operandCodes 219 = .ok (.aload_n 0, 1) := by decide +kernel
theorem dX3_operandCodes_220 : decode cX3_operandCodes 220 = .ok (.getfield 21, 3) := by decide +kernel
theorem dX3_operandCodes_223 : decode cX3_operandCodes 223 = .ok (.aload_n 0, 1) := by decide +kernel
theorem dX3_operandCodes_224 : decode cX3_operandCodes 224 = .ok (.getfield 35, 3) := by decide +kernel
theorem dX3_operandCodes_227 : decode cX3_operandCodes 227 = .ok (.getfield 191, 3) := by decide +kernel
theorem dX3_operandCodes_230 : decode cX3_operandCodes 230 = .ok (.invokevirtual 117, 3) := by decide +kernel
theorem dX3_operandCodes_233 : decode cX3_operandCodes 233 = .ok (.iconst 1, 1) := by decide +kernel
theorem dX3_operandCodes_234 : decode cX3_operandCodes 234 = .ok (.invokevirtual 176, 3) := by decide +kernel
theorem dX3_operandCodes_237 : decode cX3_operandCodes 237 = .ok (.goto 58, 3) := by decide +kernel
theorem dX3_operandCodes_240 : decode cX3_operandCodes 240 = .ok (.aload_n 0, 1) := by decide +kernel
theorem dX3_operandCodes_241 : decode cX3_operandCodes 241 = .ok (.getfield 21, 3) := by decide +kernel
theorem dX3_operandCodes_244 : decode cX3_operandCodes 244 = .ok (.aload_n 0, 1) := by decide +kernel
theorem dX3_operandCodes_245 : decode cX3_operandCodes 245 = .ok (.getfield 35, 3) := by decide +kernel
theorem dX3_operandCodes_248 : decode cX3_operandCodes 248 = .ok (.getfield 191, 3) := by decide +kernel
theorem dX3_operandCodes_251 : decode cX3_operandCodes 251 = .ok (.aload_n 0, 1) := by decide +kernel
theorem dX3_operandCodes_252 : decode cX3_operandCodes 252 = .ok (.getfield 35, 3) := by decide +kernel
theorem dX3_operandCodes_255 : decode cX3_operandCodes 255 = .ok (.getfield 165, 3) := by decide +kernel
theorem dX3_operandCodes_258 : decode cX3_operandCodes 258 = .ok (.invokevirtual 142, 3) := by decide +kernel
theorem dX3_operandCodes_261 : decode cX3_operandCodes 261 = .ok (.goto 34, 3) := by decide +kernel
theorem dX3_operandCodes_264 : decode cX3_operandCodes 264 = .ok (.aload_n 0, 1) := by decide +kernel
theorem dX3_operandCodes_265 : decode cX3_operandCodes 265 = .ok (.getfield 21, 3) := by decide +kernel
theorem dX3_operandCodes_268 : decode cX3_operandCodes 268 = .ok (.aload_n 0, 1) := by decide +kernel
theorem dX3_operandCodes_269 : decode cX3_operandCodes 269 = .ok (.getfield 35, 3) := by decide +kernel
theorem dX3_operandCodes_272 : decode cX3_operandCodes 272 = .ok (.getfield 191, 3) := by decide +kernel
theorem dX3_operandCodes_275 : decode cX3_operandCodes 275 = .ok (.aload_n 0, 1) := by decide +kernel
theorem dX3_operandCodes_276 : decode cX3_operandCodes 276 = .ok (.iconst 1, 1) := by decide +kernel
theorem dX3_operandCodes_277 : decode cX3_operandCodes 277 = .ok (.invokevirtual 168, 3) := by decide +kernel
theorem dX3_operandCodes_280 : decode cX3_operandCodes 280 = .ok (.invokevirtual 131, 3) := by decide +kernel
theorem dX3_operandCodes_283 : decode cX3_operandCodes 283 = .ok (.goto 12, 3) := by decide +kernel
theorem dX3_operandCodes_286 : decode cX3_operandCodes 286 = .ok (.aload_n 0, 1) := by decide +kernel
theorem dX3_operandCodes_287 : decode cX3_operandCodes 287 = .ok (.aload_n 0, 1) := by decide +kernel
theorem dX3_operandCodes_288 : decode cX3_operandCodes 288 = .ok (.invokevirtual 203, 3) := by decide +kernel
theorem dX3_operandCodes_291 : decode cX3_operandCodes 291 = .ok (.iconst 1, 1) := by decide +kernel
theorem dX3_operandCodes_292 : decode cX3_operandCodes 292 = .ok (.invokevirtual 176, 3) := by decide +kernel
theorem dX3_operandCodes_295 : decode cX3_operandCodes 295 = .ok (.return_, 1) := by decide +kernel
theorem dX3_exchangeE_0 : decode cX3_exchangeE 0 = .ok (.aload_n 0, 1) := by decide +kernel
theorem dX3_exchangeE_1 : decode cX3_exchangeE 1 = .ok (.iload_n 1, 1) := by decide +kernel
theorem dX3_exchangeE_2 : decode cX3_exchangeE 2 = .ok (.invokevirtual 168, 3) := by decide +kernel
theorem dX3_exchangeE_5 : decode cX3_exchangeE 5 = .ok (.istore_n 2, 1) := by decide +kernel
theorem dX3_exchangeE_6 : decode cX3_exchangeE 6 = .ok (.aload_n 0, 1) := by decide +kernel
theorem dX3_exchangeE_7 : decode cX3_exchangeE 7 = .ok (.aload_n 0, 1) := by decide +kernel
theorem dX3_exchangeE_8 : decode cX3_exchangeE 8 = .ok (.getfield 21, 3) := by decide +kernel
theorem dX3_exchangeE_11 : decode cX3_exchangeE 11 = .ok (.aload_n 0, 1) := by decide +kernel
theorem dX3_exchangeE_12 : decode cX3_exchangeE 12 = .ok (.getfield 35, 3) := by decide +kernel
theorem dX3_exchangeE_15 : decode cX3_exchangeE 15 = .ok (.getfield 191, 3) := by decide +kernel
theorem dX3_exchangeE_18 : decode cX3_exchangeE 18 = .ok (.iload_n 1, 1) := by decide +kernel
theorem dX3_exchangeE_19 : decode cX3_exchangeE 19 = .ok (.invokevirtual 158, 3) := by decide +kernel
theorem dX3_exchangeE_22 : decode cX3_exchangeE 22 = .ok (.iload_n 1, 1) := by decide +kernel
theorem dX3_exchangeE_23 : decode cX3_exchangeE 23 = .ok (.invokevirtual 176, 3) := by decide +kernel
theorem dX3_exchangeE_26 : decode cX3_exchangeE 26 = .ok (.aload_n 0, 1) := by decide +kernel
theorem dX3_exchangeE_27 : decode cX3_exchangeE 27 = .ok (.getfield 21, 3) := by decide +kernel
theorem dX3_exchangeE_30 : decode cX3_exchangeE 30 = .ok (.aload_n 0, 1) := by decide +kernel
theorem dX3_exchangeE_31 : decode cX3_exchangeE 31 = .ok (.getfield 35, 3) := by decide +kernel
theorem dX3_exchangeE_34 : decode cX3_exchangeE 34 = .ok (.getfield 191, 3) := by decide +kernel
theorem dX3_exchangeE_37 : decode cX3_exchangeE 37 = .ok (.iload_n 2, 1) := by decide +kernel
theorem dX3_exchangeE_38 : decode cX3_exchangeE 38 = .ok (.iload_n 1, 1) := by decide +kernel
theorem dX3_exchangeE_39 : decode cX3_exchangeE 39 = .ok (.invokevirtual 86, 3) := by decide +kernel
theorem dX3_exchangeE_42 : decode cX3_exchangeE 42 = .ok (.return_, 1) := by decide +kernel
theorem dX3_exchangeAndFlagCodes_0 : decode cX3_exchangeAndFlagCodes 0 = .ok (.aload_n 0, 1) := by decide +kernel
theorem dX3_exchangeAndFlagCodes_1 : decode cX3_exchangeAndFlagCodes 1 = .ok (.getfield 35, 3) := by decide +kernel
theorem dX3_exchangeAndFlagCodes_4 : decode cX3_exchangeAndFlagCodes 4 = .ok (.getfield 47, 3) := by decide +kernel
theorem dX3_exchangeAndFlagCodes_7 : decode cX3_exchangeAndFlagCodes 7 = .ok (.tableswitch 185 152 159 #[45, 62, 85, 106, 109, 120, 134, 164], 45) := by decide +kernel
theorem dX3_exchangeAndFlagCodes_52 : decode cX3_exchangeAndFlagCodes 52 = .ok (.aload_n 0, 1) := by decide +kernel
theorem dX3_exchangeAndFlagCodes_53 : decode cX3_exchangeAndFlagCodes 53 = .ok (.aload_n 0, 1) := by decide +kernel
theorem dX3_exchangeAndFlagCodes_54 : decode cX3_exchangeAndFlagCodes 54 = .ok (.iconst 0, 1) := by decide +kernel
theorem dX3_exchangeAndFlagCodes_55 : decode cX3_exchangeAndFlagCodes 55 = .ok (.invokevirtual 197, 3) := by decide +kernel
theorem dX3_exchangeAndFlagCodes_58 : decode cX3_exchangeAndFlagCodes 58 = .ok (.iconst 0, 1) := by decide +kernel
theorem dX3_exchangeAndFlagCodes_59 : decode cX3_exchangeAndFlagCodes 59 = .ok (.invokestatic 179, 3) := by decide +kernel
theorem dX3_exchangeAndFlagCodes_62 : decode cX3_exchangeAndFlagCodes 62 = .ok (.iconst 1, 1) := by decide +kernel
theorem dX3_exchangeAndFlagCodes_63 : decode cX3_exchangeAndFlagCodes 63 = .ok (.invokevirtual 200, 3) := by decide +kernel
theorem dX3_exchangeAndFlagCodes_66 : decode cX3_exchangeAndFlagCodes 66 = .ok (.goto 140, 3) := by decide +kernel
theorem dX3_exchangeAndFlagCodes_69 : decode cX3_exchangeAndFlagCodes 69 = .ok (.aload_n 0, 1) := by decide +kernel
theorem dX3_exchangeAndFlagCodes_70 : decode cX3_exchangeAndFlagCodes 70 = .ok (.getfield 21, 3) := by decide +kernel
theorem dX3_exchangeAndFlagCodes_73 : decode cX3_exchangeAndFlagCodes 73 = .ok (.iconst 2, 1) := by decide +kernel
theorem dX3_exchangeAndFlagCodes_74 : decode cX3_exchangeAndFlagCodes 74 = .ok (.aload_n 0, 1) := by decide +kernel
theorem dX3_exchangeAndFlagCodes_75 : decode cX3_exchangeAndFlagCodes 75 = .ok (.iconst 1, 1) := by decide +kernel
theorem dX3_exchangeAndFlagCodes_76 : decode cX3_exchangeAndFlagCodes 76 = .ok (.invokevirtual 197, 3) := by decide +kernel
theorem dX3_exchangeAndFlagCodes_79 : decode cX3_exchangeAndFlagCodes 79 = .ok (.iconst 1, 1) := by decide +kernel
theorem dX3_exchangeAndFlagCodes_80 : decode cX3_exchangeAndFlagCodes 80 = .ok (.invokestatic 179, 3) := by decide +kernel
theorem dX3_exchangeAndFlagCodes_83 : decode cX3_exchangeAndFlagCodes 83 = .ok (.bipush 16, 2) := by decide +kernel
theorem dX3_exchangeAndFlagCodes_85 : decode cX3_exchangeAndFlagCodes 85 = .ok (.ishr, 1) := by decide +kernel
theorem dX3_exchangeAndFlagCodes_86 : decode cX3_exchangeAndFlagCodes 86 = .ok (.invokevirtual 142, 3) := by decide +kernel
theorem dX3_exchangeAndFlagCodes_89 : decode cX3_exchangeAndFlagCodes 89 = .ok (.goto 117, 3) := by decide +kernel
theorem dX3_exchangeAndFlagCodes_92 : decode cX3_exchangeAndFlagCodes 92 = .ok (.aload_n 0, 1) := by decide +kernel
theorem dX3_exchangeAndFlagCodes_93 : decode cX3_exchangeAndFlagCodes 93 = .ok (.aload_n 0, 1) := by decide +kernel
theorem dX3_exchangeAndFlagCodes_94 : decode cX3_exchangeAndFlagCodes 94 = .ok (.getfield 35, 3) := by decide +kernel
theorem dX3_exchangeAndFlagCodes_97 : decode cX3_exchangeAndFlagCodes 97 = .ok (.getfield 83, 3) := by decide +kernel
theorem dX3_exchangeAndFlagCodes_100 : decode cX3_exchangeAndFlagCodes 100 = .ok (.aload_n 0, 1) := by decide +kernel
theorem dX3_exchangeAndFlagCodes_101 : decode cX3_exchangeAndFlagCodes 101 = .ok (.getfield 35, 3) := by decide +kernel
theorem dX3_exchangeAndFlagCodes_104 : decode cX3_exchangeAndFlagCodes 104 = .ok (.getfield 221, 3) := by decide +kernel
theorem dX3_exchangeAndFlagCodes_107 : decode cX3_exchangeAndFlagCodes 107 = .ok (.invokevirtual 224, 3) := by decide +kernel
theorem dX3_exchangeAndFlagCodes_110 : decode cX3_exchangeAndFlagCodes 110 = .ok (.goto 96, 3) := by decide +kernel
theorem dX3_exchangeAndFlagCodes_113 : decode cX3_exchangeAndFlagCodes 113 = .ok (.goto 93, 3) := by decide +kernel
theorem dX3_exchangeAndFlagCodes_116 : decode cX3_exchangeAndFlagCodes 116 = .ok (.aload_n 0, 1) := by decide +kernel
theorem dX3_exchangeAndFlagCodes_117 : decode cX3_exchangeAndFlagCodes 117 = .ok (.aload_n 0, 1) := by decide +kernel
theorem dX3_exchangeAndFlagCodes_118 : decode cX3_exchangeAndFlagCodes 118 = .ok (.invokevirtual 106, 3) := by decide +kernel
theorem dX3_exchangeAndFlagCodes_121 : decode cX3_exchangeAndFlagCodes 121 = .ok (.invokevirtual 110, 3) := by decide +kernel
theorem dX3_exchangeAndFlagCodes_124 : decode cX3_exchangeAndFlagCodes 124 = .ok (.goto 82, 3) := by decide +kernel
theorem dX3_exchangeAndFlagCodes_127 : decode cX3_exchangeAndFlagCodes 127 = .ok (.aload_n 0, 1) := by decide +kernel
theorem dX3_exchangeAndFlagCodes_128 : decode cX3_exchangeAndFlagCodes 128 = .ok (.getfield 28, 3) := by decide +kernel
theorem dX3_exchangeAndFlagCodes_131 : decode cX3_exchangeAndFlagCodes 131 = .ok (.aload_n 0, 1) := by decide +kernel
theorem dX3_exchangeAndFlagCodes_132 : decode cX3_exchangeAndFlagCodes 132 = .ok (.invokevirtual 203, 3) := by decide +kernel
theorem dX3_exchangeAndFlagCodes_135 : decode cX3_exchangeAndFlagCodes 135 = .ok (.invokevirtual 227, 3) := by decide +kernel
theorem dX3_exchangeAndFlagCodes_138 : decode cX3_exchangeAndFlagCodes 138 = .ok (.goto 68, 3) := by decide +kernel
theorem dX3_exchangeAndFlagCodes_141 : decode cX3_exchangeAndFlagCodes 141 = .ok (.aload_n 0, 1) := by decide +kernel
theorem dX3_exchangeAndFlagCodes_142 : decode cX3_exchangeAndFlagCodes 142 = .ok (.getfield 28, 3) := by decide +kernel
theorem dX3_exchangeAndFlagCodes_145 : decode cX3_exchangeAndFlagCodes 145 = .ok (.aload_n 0, 1) := by decide +kernel
theorem dX3_exchangeAndFlagCodes_146 : decode cX3_exchangeAndFlagCodes 146 = .ok (.getfield 28, 3) := by decide +kernel
theorem dX3_exchangeAndFlagCodes_149 : decode cX3_exchangeAndFlagCodes 149 = .ok (.getfield 135, 3) := by decide +kernel
theorem dX3_exchangeAndFlagCodes_152 : decode cX3_exchangeAndFlagCodes 152 = .ok (.ldc 230, 2) := by decide +kernel
theorem dX3_exchangeAndFlagCodes_154 : decode cX3_exchangeAndFlagCodes 154 = .ok (.iand, 1) := by decide +kernel
theorem dX3_exchangeAndFlagCodes_155 : decode cX3_exchangeAndFlagCodes 155 = .ok (.aload_n 0, 1) := by decide +kernel
theorem dX3_exchangeAndFlagCodes_156 : decode cX3_exchangeAndFlagCodes 156 = .ok (.getfield 21, 3) := by decide +kernel
theorem dX3_exchangeAndFlagCodes_159 : decode cX3_exchangeAndFlagCodes 159 = .ok (.iconst 4, 1) := by decide +kernel
theorem dX3_exchangeAndFlagCodes_160 : decode cX3_exchangeAndFlagCodes 160 = .ok (.iconst 0, 1) := by decide +kernel
theorem dX3_exchangeAndFlagCodes_161 : decode cX3_exchangeAndFlagCodes 161 = .ok (.invokevirtual 158, 3) := by decide +kernel
theorem dX3_exchangeAndFlagCodes_164 : decode cX3_exchangeAndFlagCodes 164 = .ok (.ior, 1) := by decide +kernel
theorem dX3_exchangeAndFlagCodes_165 : decode cX3_exchangeAndFlagCodes 165 = .ok (.invokevirtual 227, 3) := by decide +kernel
theorem dX3_exchangeAndFlagCodes_168 : decode cX3_exchangeAndFlagCodes 168 = .ok (.goto 38, 3) := by decide +kernel
theorem dX3_exchangeAndFlagCodes_171 : decode cX3_exchangeAndFlagCodes 171 = .ok (.aload_n 0, 1) := by decide +kernel
theorem dX3_exchangeAndFlagCodes_172 : decode cX3_exchangeAndFlagCodes 172 = .ok (.getfield 21, 3) := by decide +kernel
theorem dX3_exchangeAndFlagCodes_175 : decode cX3_exchangeAndFlagCodes 175 = .ok (.iconst 4, 1) := by decide +kernel
theorem dX3_exchangeAndFlagCodes_176 : decode cX3_exchangeAndFlagCodes 176 = .ok (.aload_n 0, 1) := by decide +kernel
theorem dX3_exchangeAndFlagCodes_177 : decode cX3_exchangeAndFlagCodes 177 = .ok (.getfield 28, 3) := by decide +kernel
theorem dX3_exchangeAndFlagCodes_180 : decode cX3_exchangeAndFlagCodes 180 = .ok (.getfield 135, 3) := by decide +kernel
theorem dX3_exchangeAndFlagCodes_183 : decode cX3_exchangeAndFlagCodes 183 = .ok (.iconst 2, 1) := by decide +kernel
theorem dX3_exchangeAndFlagCodes_184 : decode cX3_exchangeAndFlagCodes 184 = .ok (.ior, 1) := by decide +kernel
theorem dX3_exchangeAndFlagCodes_185 : decode cX3_exchangeAndFlagCodes 185 = .ok (.iconst 0, 1) := by decide +kernel
theorem dX3_exchangeAndFlagCodes_186 : decode cX3_exchangeAndFlagCodes 186 = .ok (.invokevirtual 86, 3) := by decide +kernel
theorem dX3_exchangeAndFlagCodes_189 : decode cX3_exchangeAndFlagCodes 189 = .ok (.goto 17, 3) := by decide +kernel
theorem dX3_exchangeAndFlagCodes_192 : decode cX3_exchangeAndFlagCodes 192 = .ok (.aload_n 0, 1) := by decide +kernel
theorem dX3_exchangeAndFlagCodes_193 : decode cX3_exchangeAndFlagCodes 193 = .ok (.aload_n 0, 1) := by decide +kernel
theorem dX3_exchangeAndFlagCodes_194 : decode cX3_exchangeAndFlagCodes 194 = .ok (.getfield 35, 3) := by decide +kernel
theorem dX3_exchangeAndFlagCodes_197 : decode cX3_exchangeAndFlagCodes 197 = .ok (.getfield 47, 3) := by decide +kernel
theorem dX3_exchangeAndFlagCodes_200 : decode cX3_exchangeAndFlagCodes 200 = .ok (.bipush 7, 2) := by decide +kernel
theorem dX3_exchangeAndFlagCodes_202 : decode cX3_exchangeAndFlagCodes 202 = .ok (.iand, 1) := by decide +kernel
theorem dX3_exchangeAndFlagCodes_203 : decode cX3_exchangeAndFlagCodes 203 = .ok (.invokevirtual 231, 3) := by decide +kernel
theorem dX3_exchangeAndFlagCodes_206 : decode cX3_exchangeAndFlagCodes 206 = .ok (.return_, 1) := by decide +kernel
theorem dX3_exchangeA_0 : decode cX3_exchangeA 0 = .ok (.aload_n 0, 1) := by decide +kernel
theorem dX3_exchangeA_1 : decode cX3_exchangeA 1 = .ok (.iconst 1, 1) := by decide +kernel
theorem dX3_exchangeA_2 : decode cX3_exchangeA 2 = .ok (.invokevirtual 197, 3) := by decide +kernel
theorem dX3_exchangeA_5 : decode cX3_exchangeA 5 = .ok (.istore_n 2, 1) := by decide +kernel
theorem dX3_exchangeA_6 : decode cX3_exchangeA 6 = .ok (.aload_n 0, 1) := by decide +kernel
theorem dX3_exchangeA_7 : decode cX3_exchangeA 7 = .ok (.aload_n 0, 1) := by decide +kernel
theorem dX3_exchangeA_8 : decode cX3_exchangeA 8 = .ok (.getfield 21, 3) := by decide +kernel
theorem dX3_exchangeA_11 : decode cX3_exchangeA 11 = .ok (.iload_n 1, 1) := by decide +kernel
theorem dX3_exchangeA_12 : decode cX3_exchangeA 12 = .ok (.invokevirtual 139, 3) := by decide +kernel
theorem dX3_exchangeA_15 : decode cX3_exchangeA 15 = .ok (.iconst 1, 1) := by decide +kernel
theorem dX3_exchangeA_16 : decode cX3_exchangeA 16 = .ok (.invokevirtual 200, 3) := by decide +kernel
theorem dX3_exchangeA_19 : decode cX3_exchangeA 19 = .ok (.aload_n 0, 1) := by decide +kernel
theorem dX3_exchangeA_20 : decode cX3_exchangeA 20 = .ok (.getfield 21, 3) := by decide +kernel
theorem dX3_exchangeA_23 : decode cX3_exchangeA 23 = .ok (.iload_n 1, 1) := by decide +kernel
theorem dX3_exchangeA_24 : decode cX3_exchangeA 24 = .ok (.iload_n 2, 1) := by decide +kernel
theorem dX3_exchangeA_25 : decode cX3_exchangeA 25 = .ok (.invokevirtual 142, 3) := by decide +kernel
theorem dX3_exchangeA_28 : decode cX3_exchangeA 28 = .ok (.return_, 1) := by decide +kernel
theorem dX3_placeCodes_0 : decode cX3_placeCodes 0 = .ok (.aload_n 0, 1) := by decide +kernel
theorem dX3_placeCodes_1 : decode cX3_placeCodes 1 = .ok (.getfield 35, 3) := by decide +kernel
theorem dX3_placeCodes_4 : decode cX3_placeCodes 4 = .ok (.invokevirtual 188, 3) := by decide +kernel
theorem dX3_placeCodes_7 : decode cX3_placeCodes 7 = .ok (.istore_n 1, 1) := by decide +kernel
theorem dX3_placeCodes_8 : decode cX3_placeCodes 8 = .ok (.aload_n 0, 1) := by decide +kernel
theorem dX3_placeCodes_9 : decode cX3_placeCodes 9 = .ok (.iconst 3, 1) := by decide +kernel
theorem dX3_placeCodes_10 : decode cX3_placeCodes 10 = .ok (.invokevirtual 234, 3) := by decide +kernel
theorem dX3_placeCodes_13 : decode cX3_placeCodes 13 = .ok (.istore_n 2, 1) := by decide +kernel
theorem dX3_placeCodes_14 : decode cX3_placeCodes 14 = .ok (.aload_n 0, 1) := by decide +kernel
theorem dX3_placeCodes_15 : decode cX3_placeCodes 15 = .ok (.getfield 35, 3) := by decide +kernel
theorem dX3_placeCodes_18 : decode cX3_placeCodes 18 = .ok (.getfield 47, 3) := by decide +kernel
theorem dX3_placeCodes_21 : decode cX3_placeCodes 21 = .ok (.sipush 168, 3) := by decide +kernel
theorem dX3_placeCodes_24 : decode cX3_placeCodes 24 = .ok (.if_icmp .lt 29, 3) := by decide +kernel
theorem dX3_placeCodes_27 : decode cX3_placeCodes 27 = .ok (.aload_n 0, 1) := by decide +kernel
theorem dX3_placeCodes_28 : decode cX3_placeCodes 28 = .ok (.getfield 28, 3) := by decide +kernel
theorem dX3_placeCodes_31 : decode cX3_placeCodes 31 = .ok (.bipush 8, 2) := by decide +kernel
theorem dX3_placeCodes_33 : decode cX3_placeCodes 33 = .ok (.aload_n 0, 1) := by decide +kernel
theorem dX3_placeCodes_34 : decode cX3_placeCodes 34 = .ok (.iload_n 1, 1) := by decide +kernel
theorem dX3_placeCodes_35 : decode cX3_placeCodes 35 = .ok (.invokevirtual 197, 3) := by decide +kernel
theorem dX3_placeCodes_38 : decode cX3_placeCodes 38 = .ok (.aload_n 0, 1) := by decide +kernel
theorem dX3_placeCodes_39 : decode cX3_placeCodes 39 = .ok (.getfield 35, 3) := by decide +kernel
theorem dX3_placeCodes_42 : decode cX3_placeCodes 42 = .ok (.getfield 83, 3) := by decide +kernel
theorem dX3_placeCodes_45 : decode cX3_placeCodes 45 = .ok (.iload_n 1, 1) := by decide +kernel
theorem dX3_placeCodes_46 : decode cX3_placeCodes 46 = .ok (.invokevirtual 172, 3) := by decide +kernel
theorem dX3_placeCodes_49 : decode cX3_placeCodes 49 = .ok (.pop, 1) := by decide +kernel
theorem dX3_placeCodes_50 : decode cX3_placeCodes 50 = .ok (.goto 61, 3) := by decide +kernel
theorem dX3_placeCodes_53 : decode cX3_placeCodes 53 = .ok (.aload_n 0, 1) := by decide +kernel
theorem dX3_placeCodes_54 : decode cX3_placeCodes 54 = .ok (.getfield 35, 3) := by decide +kernel
theorem dX3_placeCodes_57 : decode cX3_placeCodes 57 = .ok (.getfield 47, 3) := by decide +kernel
theorem dX3_placeCodes_60 : decode cX3_placeCodes 60 = .ok (.sipush 162, 3) := by decide +kernel
theorem dX3_placeCodes_63 : decode cX3_placeCodes 63 = .ok (.if_icmp .lt 27, 3) := by decide +kernel
theorem dX3_placeCodes_66 : decode cX3_placeCodes 66 = .ok (.aload_n 0, 1) := by decide +kernel
theorem dX3_placeCodes_67 : decode cX3_placeCodes 67 = .ok (.getfield 12, 3) := by decide +kernel
theorem dX3_placeCodes_70 : decode cX3_placeCodes 70 = .ok (.iload_n 2, 1) := by decide +kernel
theorem dX3_placeCodes_71 : decode cX3_placeCodes 71 = .ok (.aload_n 0, 1) := by decide +kernel
theorem dX3_placeCodes_72 : decode cX3_placeCodes 72 = .ok (.getfield 35, 3) := by decide +kernel
theorem dX3_placeCodes_75 : decode cX3_placeCodes 75 = .ok (.getfield 83, 3) := by decide +kernel
theorem dX3_placeCodes_78 : decode cX3_placeCodes 78 = .ok (.aload_n 0, 1) := by decide +kernel
theorem dX3_placeCodes_79 : decode cX3_placeCodes 79 = .ok (.iload_n 1, 1) := by decide +kernel
theorem dX3_placeCodes_80 : decode cX3_placeCodes 80 = .ok (.invokevirtual 197, 3) := by decide +kernel
theorem dX3_placeCodes_83 : decode cX3_placeCodes 83 = .ok (.iload_n 1, 1) := by decide +kernel
theorem dX3_placeCodes_84 : decode cX3_placeCodes 84 = .ok (.invokevirtual 145, 3) := by decide +kernel
theorem dX3_placeCodes_87 : decode cX3_placeCodes 87 = .ok (.goto 24, 3) := by decide +kernel
theorem dX3_placeCodes_90 : decode cX3_placeCodes 90 = .ok (.aload_n 0, 1) := by decide +kernel
theorem dX3_placeCodes_91 : decode cX3_placeCodes 91 = .ok (.aload_n 0, 1) := by decide +kernel
theorem dX3_placeCodes_92 : decode cX3_placeCodes 92 = .ok (.getfield 12, 3) := by decide +kernel
theorem dX3_placeCodes_95 : decode cX3_placeCodes 95 = .ok (.iload_n 2, 1) := by decide +kernel
theorem dX3_placeCodes_96 : decode cX3_placeCodes 96 = .ok (.aload_n 0, 1) := by decide +kernel
theorem dX3_placeCodes_97 : decode cX3_placeCodes 97 = .ok (.getfield 35, 3) := by decide +kernel
theorem dX3_placeCodes_100 : decode cX3_placeCodes 100 = .ok (.getfield 83, 3) := by decide +kernel
theorem dX3_placeCodes_103 : decode cX3_placeCodes 103 = .ok (.iload_n 1, 1) := by decide +kernel
theorem dX3_placeCodes_104 : decode cX3_placeCodes 104 = .ok (.invokevirtual 124, 3) := by decide +kernel
theorem dX3_placeCodes_107 : decode cX3_placeCodes 107 = .ok (.iload_n 1, 1) := by decide +kernel
theorem dX3_placeCodes_108 : decode cX3_placeCodes 108 = .ok (.invokevirtual 200, 3) := by decide +kernel
theorem dX3_placeCodes_111 : decode cX3_placeCodes 111 = .ok (.return_, 1) := by decide +kernel
theorem dX3_strings_0 : decode cX3_strings 0 = .ok (.aload_n 0, 1) := by decide +kernel
theorem dX3_strings_1 : decode cX3_strings 1 = .ok (.getfield 35, 3) := by decide +kernel
theorem dX3_strings_4 : decode cX3_strings 4 = .ok (.getfield 237, 3) := by decide +kernel
theorem dX3_strings_7 : decode cX3_strings 7 = .ok (.iconst (-1), 1) := by decide +kernel
theorem dX3_strings_8 : decode cX3_strings 8 = .ok (.if_icmp .ne 8, 3) := by decide +kernel
theorem dX3_strings_11 : decode cX3_strings 11 = .ok (.aload_n 0, 1) := by decide +kernel
theorem dX3_strings_12 : decode cX3_strings 12 = .ok (.invokevirtual 240, 3) := by decide +kernel
theorem dX3_strings_15 : decode cX3_strings 15 = .ok (.return_, 1) := by decide +kernel
theorem dX3_strings_16 : decode cX3_strings 16 = .ok (.aload_n 0, 1) := by decide +kernel
theorem dX3_strings_17 : decode cX3_strings 17 = .ok (.getfield 35, 3) := by decide +kernel
theorem dX3_strings_20 : decode cX3_strings 20 = .ok (.getfield 237, 3) := by decide +kernel
theorem dX3_strings_23 : decode cX3_strings 23 = .ok (.sipush 243, 3) := by decide +kernel
theorem dX3_strings_26 : decode cX3_strings 26 = .ok (.if_icmp .ne 7, 3) := by decide +kernel
theorem dX3_strings_29 : decode cX3_strings 29 = .ok (.iconst 1, 1) := by decide +kernel
theorem dX3_strings_30 : decode cX3_strings 30 = .ok (.goto 4, 3) := by decide +kernel
theorem dX3_strings_33 : decode cX3_strings 33 = .ok (.iconst 0, 1) := by decide +kernel
theorem dX3_strings_34 : decode cX3_strings 34 = .ok (.istore_n 1, 1) := by decide +kernel
theorem dX3_strings_35 : decode cX3_strings 35 = .ok (.iconst 0, 1) := by decide +kernel
theorem dX3_strings_36 : decode cX3_strings 36 = .ok (.istore_n 2, 1) := by decide +kernel
theorem dX3_strings_37 : decode cX3_strings 37 = .ok (.iload_n 2, 1) := by decide +kernel
theorem dX3_strings_38 : decode cX3_strings 38 = .ok (.bipush 64, 2) := by decide +kernel
theorem dX3_strings_40 : decode cX3_strings 40 = .ok (.if_icmp .ge 76, 3) := by decide +kernel
theorem dX3_strings_43 : decode cX3_strings 43 = .ok (.aload_n 0, 1) := by decide +kernel
theorem dX3_strings_44 : decode cX3_strings 44 = .ok (.getfield 21, 3) := by decide +kernel
theorem dX3_strings_47 : decode cX3_strings 47 = .ok (.iconst 1, 1) := by decide +kernel
theorem dX3_strings_48 : decode cX3_strings 48 = .ok (.invokevirtual 139, 3) := by decide +kernel
theorem dX3_strings_51 : decode cX3_strings 51 = .ok (.ifCond .eq 65, 3) := by decide +kernel
theorem dX3_strings_54 : decode cX3_strings 54 = .ok (.aload_n 0, 1) := by decide +kernel
theorem dX3_strings_55 : decode cX3_strings 55 = .ok (.getfield 21, 3) := by decide +kernel
theorem dX3_strings_58 : decode cX3_strings 58 = .ok (.iconst 1, 1) := by decide +kernel
theorem dX3_strings_59 : decode cX3_strings 59 = .ok (.aload_n 0, 1) := by decide +kernel
theorem dX3_strings_60 : decode cX3_strings 60 = .ok (.getfield 21, 3) := by decide +kernel
theorem dX3_strings_63 : decode cX3_strings 63 = .ok (.iconst 1, 1) := by decide +kernel
theorem dX3_strings_64 : decode cX3_strings 64 = .ok (.invokevirtual 139, 3) := by decide +kernel
theorem dX3_strings_67 : decode cX3_strings 67 = .ok (.iconst 1, 1) := by decide +kernel
theorem dX3_strings_68 : decode cX3_strings 68 = .ok (.isub, 1) := by decide +kernel
theorem dX3_strings_69 : decode cX3_strings 69 = .ok (.invokevirtual 142, 3) := by decide +kernel
theorem dX3_strings_72 : decode cX3_strings 72 = .ok (.aload_n 0, 1) := by decide +kernel
theorem dX3_strings_73 : decode cX3_strings 73 = .ok (.dup, 1) := by decide +kernel
theorem dX3_strings_74 : decode cX3_strings 74 = .ok (.getfield 243, 3) := by decide +kernel
theorem dX3_strings_77 : decode cX3_strings 77 = .ok (.iconst 1, 1) := by decide +kernel
theorem dX3_strings_78 : decode cX3_strings 78 = .ok (.iadd, 1) := by decide +kernel
theorem dX3_strings_79 : decode cX3_strings 79 = .ok (.putfield 243, 3) := by decide +kernel
theorem dX3_strings_82 : decode cX3_strings 82 = .ok (.aload_n 0, 1) := by decide +kernel
theorem dX3_strings_83 : decode cX3_strings 83 = .ok (.invokevirtual 240, 3) := by decide +kernel
theorem dX3_strings_86 : decode cX3_strings 86 = .ok (.aload_n 0, 1) := by decide +kernel
theorem dX3_strings_87 : decode cX3_strings 87 = .ok (.getfield 35, 3) := by decide +kernel
theorem dX3_strings_90 : decode cX3_strings 90 = .ok (.invokevirtual 246, 3) := by decide +kernel
theorem dX3_strings_93 : decode cX3_strings 93 = .ok (.ifCond .eq 17, 3) := by decide +kernel
theorem dX3_strings_96 : decode cX3_strings 96 = .ok (.aload_n 0, 1) := by decide +kernel
theorem dX3_strings_97 : decode cX3_strings 97 = .ok (.getfield 28, 3) := by decide +kernel
theorem dX3_strings_100 : decode cX3_strings 100 = .ok (.bipush 64, 2) := by decide +kernel
theorem dX3_strings_102 : decode cX3_strings 102 = .ok (.invokevirtual 249, 3) := by decide +kernel
theorem dX3_strings_105 : decode cX3_strings 105 = .ok (.iload_n 1, 1) := by decide +kernel
theorem dX3_strings_106 : decode cX3_strings 106 = .ok (.if_icmp .eq 4, 3) := by decide +kernel
theorem dX3_strings_109 : decode cX3_strings 109 = .ok (.return_, 1) := by decide +kernel
theorem dX3_strings_110 : decode cX3_strings 110 = .ok (.iinc 2 1, 3) := by decide +kernel
theorem dX3_strings_113 : decode cX3_strings 113 = .ok (.goto (-76), 3) := by decide +kernel
theorem dX3_strings_116 : decode cX3_strings 116 = .ok (.aload_n 0, 1) := by decide +kernel
theorem dX3_strings_117 : decode cX3_strings 117 = .ok (.getfield 21, 3) := by decide +kernel
theorem dX3_strings_120 : decode cX3_strings 120 = .ok (.iconst 1, 1) := by decide +kernel
theorem dX3_strings_121 : decode cX3_strings 121 = .ok (.invokevirtual 139, 3) := by decide +kernel
theorem dX3_strings_124 : decode cX3_strings 124 = .ok (.ifCond .eq 17, 3) := by decide +kernel
theorem dX3_strings_127 : decode cX3_strings 127 = .ok (.aload_n 0, 1) := by decide +kernel
theorem dX3_strings_128 : decode cX3_strings 128 = .ok (.getfield 21, 3) := by decide +kernel
theorem dX3_strings_131 : decode cX3_strings 131 = .ok (.aload_n 0, 1) := by decide +kernel
theorem dX3_strings_132 : decode cX3_strings 132 = .ok (.getfield 35, 3) := by decide +kernel
theorem dX3_strings_135 : decode cX3_strings 135 = .ok (.getfield 252, 3) := by decide +kernel
theorem dX3_strings_138 : decode cX3_strings 138 = .ok (.invokevirtual 128, 3) := by decide +kernel
theorem dX3_strings_141 : decode cX3_strings 141 = .ok (.return_, 1) := by decide +kernel
theorem dX3_stringOnce_0 : decode cX3_stringOnce 0 = .ok (.aload_n 0, 1) := by decide +kernel
theorem dX3_stringOnce_1 : decode cX3_stringOnce 1 = .ok (.getfield 35, 3) := by decide +kernel
theorem dX3_stringOnce_4 : decode cX3_stringOnce 4 = .ok (.invokevirtual 188, 3) := by decide +kernel
theorem dX3_stringOnce_7 : decode cX3_stringOnce 7 = .ok (.istore_n 1, 1) := by decide +kernel
theorem dX3_stringOnce_8 : decode cX3_stringOnce 8 = .ok (.aload_n 0, 1) := by decide +kernel
theorem dX3_stringOnce_9 : decode cX3_stringOnce 9 = .ok (.getfield 21, 3) := by decide +kernel
theorem dX3_stringOnce_12 : decode cX3_stringOnce 12 = .ok (.bipush 6, 2) := by decide +kernel
theorem dX3_stringOnce_14 : decode cX3_stringOnce 14 = .ok (.invokevirtual 139, 3) := by decide +kernel
theorem dX3_stringOnce_17 : decode cX3_stringOnce 17 = .ok (.istore_n 2, 1) := by decide +kernel
theorem dX3_stringOnce_18 : decode cX3_stringOnce 18 = .ok (.aload_n 0, 1) := by decide +kernel
theorem dX3_stringOnce_19 : decode cX3_stringOnce 19 = .ok (.getfield 21, 3) := by decide +kernel
theorem dX3_stringOnce_22 : decode cX3_stringOnce 22 = .ok (.bipush 7, 2) := by decide +kernel
theorem dX3_stringOnce_24 : decode cX3_stringOnce 24 = .ok (.invokevirtual 139, 3) := by decide +kernel
theorem dX3_stringOnce_27 : decode cX3_stringOnce 27 = .ok (.istore_n 3, 1) := by decide +kernel
theorem dX3_stringOnce_28 : decode cX3_stringOnce 28 = .ok (.aload_n 0, 1) := by decide +kernel
theorem dX3_stringOnce_29 : decode cX3_stringOnce 29 = .ok (.iconst 3, 1) := by decide +kernel
theorem dX3_stringOnce_30 : decode cX3_stringOnce 30 = .ok (.invokevirtual 234, 3) := by decide +kernel
theorem dX3_stringOnce_33 : decode cX3_stringOnce 33 = .ok (.istore 4, 2) := by decide +kernel
theorem dX3_stringOnce_35 : decode cX3_stringOnce 35 = .ok (.aload_n 0, 1) := by decide +kernel
theorem dX3_stringOnce_36 : decode cX3_stringOnce 36 = .ok (.getfield 21, 3) := by decide +kernel
theorem dX3_stringOnce_39 : decode cX3_stringOnce 39 = .ok (.iconst 0, 1) := by decide +kernel
theorem dX3_stringOnce_40 : decode cX3_stringOnce 40 = .ok (.invokevirtual 117, 3) := by decide +kernel
theorem dX3_stringOnce_43 : decode cX3_stringOnce 43 = .ok (.istore 5, 2) := by decide +kernel
theorem dX3_stringOnce_45 : decode cX3_stringOnce 45 = .ok (.aload_n 0, 1) := by decide +kernel
theorem dX3_stringOnce_46 : decode cX3_stringOnce 46 = .ok (.getfield 35, 3) := by decide +kernel
theorem dX3_stringOnce_49 : decode cX3_stringOnce 49 = .ok (.getfield 47, 3) := by decide +kernel
theorem dX3_stringOnce_52 : decode cX3_stringOnce 52 = .ok (.iconst 1, 1) := by decide +kernel
theorem dX3_stringOnce_53 : decode cX3_stringOnce 53 = .ok (.ishr, 1) := by decide +kernel
theorem dX3_stringOnce_54 : decode cX3_stringOnce 54 = .ok (.bipush 7, 2) := by decide +kernel
theorem dX3_stringOnce_56 : decode cX3_stringOnce 56 = .ok (.iand, 1) := by decide +kernel
theorem dX3_stringOnce_57 : decode cX3_stringOnce 57 = .ok (.tableswitch 155 2 6 #[35, 68, 155, 109, 132], 35) := by decide +kernel
theorem dX3_stringOnce_92 : decode cX3_stringOnce 92 = .ok (.aload_n 0, 1) := by decide +kernel
theorem dX3_stringOnce_93 : decode cX3_stringOnce 93 = .ok (.getfield 12, 3) := by decide +kernel
theorem dX3_stringOnce_96 : decode cX3_stringOnce 96 = .ok (.iload 5, 2) := by decide +kernel
theorem dX3_stringOnce_98 : decode cX3_stringOnce 98 = .ok (.iload_n 3, 1) := by decide +kernel
theorem dX3_stringOnce_99 : decode cX3_stringOnce 99 = .ok (.aload_n 0, 1) := by decide +kernel
theorem dX3_stringOnce_100 : decode cX3_stringOnce 100 = .ok (.getfield 12, 3) := by decide +kernel
theorem dX3_stringOnce_103 : decode cX3_stringOnce 103 = .ok (.iload 4, 2) := by decide +kernel
theorem dX3_stringOnce_105 : decode cX3_stringOnce 105 = .ok (.iload_n 2, 1) := by decide +kernel
theorem dX3_stringOnce_106 : decode cX3_stringOnce 106 = .ok (.iload_n 1, 1) := by decide +kernel
theorem dX3_stringOnce_107 : decode cX3_stringOnce 107 = .ok (.invokevirtual 124, 3) := by decide +kernel
theorem dX3_stringOnce_110 : decode cX3_stringOnce 110 = .ok (.iload_n 1, 1) := by decide +kernel
theorem dX3_stringOnce_111 : decode cX3_stringOnce 111 = .ok (.invokevirtual 145, 3) := by decide +kernel
theorem dX3_stringOnce_114 : decode cX3_stringOnce 114 = .ok (.aload_n 0, 1) := by decide +kernel
theorem dX3_stringOnce_115 : decode cX3_stringOnce 115 = .ok (.invokevirtual 255, 3) := by decide +kernel
theorem dX3_stringOnce_118 : decode cX3_stringOnce 118 = .ok (.aload_n 0, 1) := by decide +kernel
theorem dX3_stringOnce_119 : decode cX3_stringOnce 119 = .ok (.invokevirtual 258, 3) := by decide +kernel
theorem dX3_stringOnce_122 : decode cX3_stringOnce 122 = .ok (.goto 118, 3) := by decide +kernel
theorem dX3_stringOnce_125 : decode cX3_stringOnce 125 = .ok (.aload_n 0, 1) := by decide +kernel
theorem dX3_stringOnce_126 : decode cX3_stringOnce 126 = .ok (.getfield 28, 3) := by decide +kernel
theorem dX3_stringOnce_129 : decode cX3_stringOnce 129 = .ok (.aload_n 0, 1) := by decide +kernel
theorem dX3_stringOnce_130 : decode cX3_stringOnce 130 = .ok (.getfield 12, 3) := by decide +kernel
theorem dX3_stringOnce_133 : decode cX3_stringOnce 133 = .ok (.iload 4, 2) := by decide +kernel
theorem dX3_stringOnce_135 : decode cX3_stringOnce 135 = .ok (.iload_n 2, 1) := by decide +kernel
theorem dX3_stringOnce_136 : decode cX3_stringOnce 136 = .ok (.iload_n 1, 1) := by decide +kernel
theorem dX3_stringOnce_137 : decode cX3_stringOnce 137 = .ok (.invokevirtual 124, 3) := by decide +kernel
theorem dX3_stringOnce_140 : decode cX3_stringOnce 140 = .ok (.aload_n 0, 1) := by decide +kernel
theorem dX3_stringOnce_141 : decode cX3_stringOnce 141 = .ok (.getfield 12, 3) := by decide +kernel
theorem dX3_stringOnce_144 : decode cX3_stringOnce 144 = .ok (.iload 5, 2) := by decide +kernel
theorem dX3_stringOnce_146 : decode cX3_stringOnce 146 = .ok (.iload_n 3, 1) := by decide +kernel
theorem dX3_stringOnce_147 : decode cX3_stringOnce 147 = .ok (.iload_n 1, 1) := by decide +kernel
theorem dX3_stringOnce_148 : decode cX3_stringOnce 148 = .ok (.invokevirtual 124, 3) := by decide +kernel
theorem dX3_stringOnce_151 : decode cX3_stringOnce 151 = .ok (.iload_n 1, 1) := by decide +kernel
theorem dX3_stringOnce_152 : decode cX3_stringOnce 152 = .ok (.invokevirtual 261, 3) := by decide +kernel
theorem dX3_stringOnce_155 : decode cX3_stringOnce 155 = .ok (.aload_n 0, 1) := by decide +kernel
theorem dX3_stringOnce_156 : decode cX3_stringOnce 156 = .ok (.invokevirtual 255, 3) := by decide +kernel
theorem dX3_stringOnce_159 : decode cX3_stringOnce 159 = .ok (.aload_n 0, 1) := by decide +kernel
theorem dX3_stringOnce_160 : decode cX3_stringOnce 160 = .ok (.invokevirtual 258, 3) := by decide +kernel
theorem dX3_stringOnce_163 : decode cX3_stringOnce 163 = .ok (.goto 77, 3) := by decide +kernel
theorem dX3_stringOnce_166 : decode cX3_stringOnce 166 = .ok (.aload_n 0, 1) := by decide +kernel
theorem dX3_stringOnce_167 : decode cX3_stringOnce 167 = .ok (.getfield 12, 3) := by decide +kernel
theorem dX3_stringOnce_170 : decode cX3_stringOnce 170 = .ok (.iload 5, 2) := by decide +kernel
theorem dX3_stringOnce_172 : decode cX3_stringOnce 172 = .ok (.iload_n 3, 1) := by decide +kernel
theorem dX3_stringOnce_173 : decode cX3_stringOnce 173 = .ok (.aload_n 0, 1) := by decide +kernel
theorem dX3_stringOnce_174 : decode cX3_stringOnce 174 = .ok (.iload_n 1, 1) := by decide +kernel
theorem dX3_stringOnce_175 : decode cX3_stringOnce 175 = .ok (.invokevirtual 197, 3) := by decide +kernel
theorem dX3_stringOnce_178 : decode cX3_stringOnce 178 = .ok (.iload_n 1, 1) := by decide +kernel
theorem dX3_stringOnce_179 : decode cX3_stringOnce 179 = .ok (.invokevirtual 145, 3) := by decide +kernel
theorem dX3_stringOnce_182 : decode cX3_stringOnce 182 = .ok (.aload_n 0, 1) := by decide +kernel
theorem dX3_stringOnce_183 : decode cX3_stringOnce 183 = .ok (.invokevirtual 258, 3) := by decide +kernel
theorem dX3_stringOnce_186 : decode cX3_stringOnce 186 = .ok (.goto 54, 3) := by decide +kernel
theorem dX3_stringOnce_189 : decode cX3_stringOnce 189 = .ok (.aload_n 0, 1) := by decide +kernel
theorem dX3_stringOnce_190 : decode cX3_stringOnce 190 = .ok (.aload_n 0, 1) := by decide +kernel
theorem dX3_stringOnce_191 : decode cX3_stringOnce 191 = .ok (.getfield 12, 3) := by decide +kernel
theorem dX3_stringOnce_194 : decode cX3_stringOnce 194 = .ok (.iload 4, 2) := by decide +kernel
theorem dX3_stringOnce_196 : decode cX3_stringOnce 196 = .ok (.iload_n 2, 1) := by decide +kernel
theorem dX3_stringOnce_197 : decode cX3_stringOnce 197 = .ok (.iload_n 1, 1) := by decide +kernel
theorem dX3_stringOnce_198 : decode cX3_stringOnce 198 = .ok (.invokevirtual 124, 3) := by decide +kernel
theorem dX3_stringOnce_201 : decode cX3_stringOnce 201 = .ok (.iload_n 1, 1) := by decide +kernel
theorem dX3_stringOnce_202 : decode cX3_stringOnce 202 = .ok (.invokevirtual 200, 3) := by decide +kernel
theorem dX3_stringOnce_205 : decode cX3_stringOnce 205 = .ok (.aload_n 0, 1) := by decide +kernel
theorem dX3_stringOnce_206 : decode cX3_stringOnce 206 = .ok (.invokevirtual 255, 3) := by decide +kernel
theorem dX3_stringOnce_209 : decode cX3_stringOnce 209 = .ok (.goto 31, 3) := by decide +kernel
theorem dX3_stringOnce_212 : decode cX3_stringOnce 212 = .ok (.aload_n 0, 1) := by decide +kernel
theorem dX3_stringOnce_213 : decode cX3_stringOnce 213 = .ok (.getfield 28, 3) := by decide +kernel
theorem dX3_stringOnce_216 : decode cX3_stringOnce 216 = .ok (.aload_n 0, 1) := by decide +kernel
theorem dX3_stringOnce_217 : decode cX3_stringOnce 217 = .ok (.iload_n 1, 1) := by decide +kernel
theorem dX3_stringOnce_218 : decode cX3_stringOnce 218 = .ok (.invokevirtual 197, 3) := by decide +kernel
theorem dX3_stringOnce_221 : decode cX3_stringOnce 221 = .ok (.aload_n 0, 1) := by decide +kernel
theorem dX3_stringOnce_222 : decode cX3_stringOnce 222 = .ok (.getfield 12, 3) := by decide +kernel
theorem dX3_stringOnce_225 : decode cX3_stringOnce 225 = .ok (.iload 5, 2) := by decide +kernel
theorem dX3_stringOnce_227 : decode cX3_stringOnce 227 = .ok (.iload_n 3, 1) := by decide +kernel
theorem dX3_stringOnce_228 : decode cX3_stringOnce 228 = .ok (.iload_n 1, 1) := by decide +kernel
theorem dX3_stringOnce_229 : decode cX3_stringOnce 229 = .ok (.invokevirtual 124, 3) := by decide +kernel
theorem dX3_stringOnce_232 : decode cX3_stringOnce 232 = .ok (.iload_n 1, 1) := by decide +kernel
theorem dX3_stringOnce_233 : decode cX3_stringOnce 233 = .ok (.invokevirtual 261, 3) := by decide +kernel
theorem dX3_stringOnce_236 : decode cX3_stringOnce 236 = .ok (.aload_n 0, 1) := by decide +kernel
theorem dX3_stringOnce_237 : decode cX3_stringOnce 237 = .ok (.invokevirtual 258, 3) := by decide +kernel
theorem dX3_stringOnce_240 : decode cX3_stringOnce 240 = .ok (.return_, 1) := by decide +kernel
theorem dX3_passSource_0 : decode cX3_passSource 0 = .ok (.aload_n 0, 1) := by decide +kernel
theorem dX3_passSource_1 : decode cX3_passSource 1 = .ok (.getfield 21, 3) := by decide +kernel
theorem dX3_passSource_4 : decode cX3_passSource 4 = .ok (.bipush 6, 2) := by decide +kernel
theorem dX3_passSource_6 : decode cX3_passSource 6 = .ok (.aload_n 0, 1) := by decide +kernel
theorem dX3_passSource_7 : decode cX3_passSource 7 = .ok (.getfield 21, 3) := by decide +kernel
theorem dX3_passSource_10 : decode cX3_passSource 10 = .ok (.bipush 6, 2) := by decide +kernel
theorem dX3_passSource_12 : decode cX3_passSource 12 = .ok (.invokevirtual 139, 3) := by decide +kernel
theorem dX3_passSource_15 : decode cX3_passSource 15 = .ok (.aload_n 0, 1) := by decide +kernel
theorem dX3_passSource_16 : decode cX3_passSource 16 = .ok (.invokevirtual 264, 3) := by decide +kernel
theorem dX3_passSource_19 : decode cX3_passSource 19 = .ok (.iadd, 1) := by decide +kernel
theorem dX3_passSource_20 : decode cX3_passSource 20 = .ok (.invokevirtual 142, 3) := by decide +kernel
theorem dX3_passSource_23 : decode cX3_passSource 23 = .ok (.return_, 1) := by decide +kernel
theorem dX3_passTarget_0 : decode cX3_passTarget 0 = .ok (.aload_n 0, 1) := by decide +kernel
theorem dX3_passTarget_1 : decode cX3_passTarget 1 = .ok (.getfield 21, 3) := by decide +kernel
theorem dX3_passTarget_4 : decode cX3_passTarget 4 = .ok (.bipush 7, 2) := by decide +kernel
theorem dX3_passTarget_6 : decode cX3_passTarget 6 = .ok (.aload_n 0, 1) := by decide +kernel
theorem dX3_passTarget_7 : decode cX3_passTarget 7 = .ok (.getfield 21, 3) := by decide +kernel
theorem dX3_passTarget_10 : decode cX3_passTarget 10 = .ok (.bipush 7, 2) := by decide +kernel
theorem dX3_passTarget_12 : decode cX3_passTarget 12 = .ok (.invokevirtual 139, 3) := by decide +kernel
theorem dX3_passTarget_15 : decode cX3_passTarget 15 = .ok (.aload_n 0, 1) := by decide +kernel
theorem dX3_passTarget_16 : decode cX3_passTarget 16 = .ok (.invokevirtual 264, 3) := by decide +kernel
theorem dX3_passTarget_19 : decode cX3_passTarget 19 = .ok (.iadd, 1) := by decide +kernel
theorem dX3_passTarget_20 : decode cX3_passTarget 20 = .ok (.invokevirtual 142, 3) := by decide +kernel
theorem dX3_passTarget_23 : decode cX3_passTarget 23 = .ok (.return_, 1) := by decide +kernel
theorem dX3_stringStride_0 : decode cX3_stringStride 0 = .ok (.aload_n 0, 1) := by decide +kernel
theorem dX3_stringStride_1 : decode cX3_stringStride 1 = .ok (.getfield 35, 3) := by decide +kernel
theorem dX3_stringStride_4 : decode cX3_stringStride 4 = .ok (.invokevirtual 188, 3) := by decide +kernel
theorem dX3_stringStride_7 : decode cX3_stringStride 7 = .ok (.ifCond .eq 7, 3) := by decide +kernel
theorem dX3_stringStride_10 : decode cX3_stringStride 10 = .ok (.iconst 2, 1) := by decide +kernel
theorem dX3_stringStride_11 : decode cX3_stringStride 11 = .ok (.goto 4, 3) := by decide +kernel
theorem dX3_stringStride_14 : decode cX3_stringStride 14 = .ok (.iconst 1, 1) := by decide +kernel
theorem dX3_stringStride_15 : decode cX3_stringStride 15 = .ok (.istore_n 1, 1) := by decide +kernel
theorem dX3_stringStride_16 : decode cX3_stringStride 16 = .ok (.aload_n 0, 1) := by decide +kernel
theorem dX3_stringStride_17 : decode cX3_stringStride 17 = .ok (.getfield 28, 3) := by decide +kernel
theorem dX3_stringStride_20 : decode cX3_stringStride 20 = .ok (.sipush 1024, 3) := by decide +kernel
theorem dX3_stringStride_23 : decode cX3_stringStride 23 = .ok (.invokevirtual 249, 3) := by decide +kernel
theorem dX3_stringStride_26 : decode cX3_stringStride 26 = .ok (.ifCond .eq 8, 3) := by decide +kernel
theorem dX3_stringStride_29 : decode cX3_stringStride 29 = .ok (.iload_n 1, 1) := by decide +kernel
theorem dX3_stringStride_30 : decode cX3_stringStride 30 = .ok (.ineg, 1) := by decide +kernel
theorem dX3_stringStride_31 : decode cX3_stringStride 31 = .ok (.goto 4, 3) := by decide +kernel
theorem dX3_stringStride_34 : decode cX3_stringStride 34 = .ok (.iload_n 1, 1) := by decide +kernel
theorem dX3_stringStride_35 : decode cX3_stringStride 35 = .ok (.ireturn, 1) := by decide +kernel
theorem dX3_returnCodes_0 : decode cX3_returnCodes 0 = .ok (.aload_n 0, 1) := by decide +kernel
theorem dX3_returnCodes_1 : decode cX3_returnCodes 1 = .ok (.getfield 35, 3) := by decide +kernel
theorem dX3_returnCodes_4 : decode cX3_returnCodes 4 = .ok (.getfield 47, 3) := by decide +kernel
theorem dX3_returnCodes_7 : decode cX3_returnCodes 7 = .ok (.tableswitch 201 192 206 #[73, 87, 73, 87, 95, 103, 111, 111, 132, 146, 132, 146, 154, 162, 176], 73) := by decide +kernel
theorem dX3_returnCodes_80 : decode cX3_returnCodes 80 = .ok (.aload_n 0, 1) := by decide +kernel
theorem dX3_returnCodes_81 : decode cX3_returnCodes 81 = .ok (.aload_n 0, 1) := by decide +kernel
theorem dX3_returnCodes_82 : decode cX3_returnCodes 82 = .ok (.getfield 35, 3) := by decide +kernel
theorem dX3_returnCodes_85 : decode cX3_returnCodes 85 = .ok (.getfield 83, 3) := by decide +kernel
theorem dX3_returnCodes_88 : decode cX3_returnCodes 88 = .ok (.invokevirtual 267, 3) := by decide +kernel
theorem dX3_returnCodes_91 : decode cX3_returnCodes 91 = .ok (.goto 133, 3) := by decide +kernel
theorem dX3_returnCodes_94 : decode cX3_returnCodes 94 = .ok (.aload_n 0, 1) := by decide +kernel
theorem dX3_returnCodes_95 : decode cX3_returnCodes 95 = .ok (.iconst 0, 1) := by decide +kernel
theorem dX3_returnCodes_96 : decode cX3_returnCodes 96 = .ok (.invokevirtual 267, 3) := by decide +kernel
theorem dX3_returnCodes_99 : decode cX3_returnCodes 99 = .ok (.goto 125, 3) := by decide +kernel
theorem dX3_returnCodes_102 : decode cX3_returnCodes 102 = .ok (.aload_n 0, 1) := by decide +kernel
theorem dX3_returnCodes_103 : decode cX3_returnCodes 103 = .ok (.iconst 0, 1) := by decide +kernel
theorem dX3_returnCodes_104 : decode cX3_returnCodes 104 = .ok (.invokevirtual 270, 3) := by decide +kernel
theorem dX3_returnCodes_107 : decode cX3_returnCodes 107 = .ok (.goto 117, 3) := by decide +kernel
theorem dX3_returnCodes_110 : decode cX3_returnCodes 110 = .ok (.aload_n 0, 1) := by decide +kernel
theorem dX3_returnCodes_111 : decode cX3_returnCodes 111 = .ok (.iconst 3, 1) := by decide +kernel
theorem dX3_returnCodes_112 : decode cX3_returnCodes 112 = .ok (.invokevirtual 270, 3) := by decide +kernel
theorem dX3_returnCodes_115 : decode cX3_returnCodes 115 = .ok (.goto 109, 3) := by decide +kernel
theorem dX3_returnCodes_118 : decode cX3_returnCodes 118 = .ok (.aload_n 0, 1) := by decide +kernel
theorem dX3_returnCodes_119 : decode cX3_returnCodes 119 = .ok (.aload_n 0, 1) := by decide +kernel
theorem dX3_returnCodes_120 : decode cX3_returnCodes 120 = .ok (.getfield 35, 3) := by decide +kernel
theorem dX3_returnCodes_123 : decode cX3_returnCodes 123 = .ok (.getfield 83, 3) := by decide +kernel
theorem dX3_returnCodes_126 : decode cX3_returnCodes 126 = .ok (.aload_n 0, 1) := by decide +kernel
theorem dX3_returnCodes_127 : decode cX3_returnCodes 127 = .ok (.getfield 35, 3) := by decide +kernel
theorem dX3_returnCodes_130 : decode cX3_returnCodes 130 = .ok (.invokevirtual 188, 3) := by decide +kernel
theorem dX3_returnCodes_133 : decode cX3_returnCodes 133 = .ok (.invokevirtual 176, 3) := by decide +kernel
theorem dX3_returnCodes_136 : decode cX3_returnCodes 136 = .ok (.goto 88, 3) := by decide +kernel
theorem dX3_returnCodes_139 : decode cX3_returnCodes 139 = .ok (.aload_n 0, 1) := by decide +kernel
theorem dX3_returnCodes_140 : decode cX3_returnCodes 140 = .ok (.aload_n 0, 1) := by decide +kernel
theorem dX3_returnCodes_141 : decode cX3_returnCodes 141 = .ok (.getfield 35, 3) := by decide +kernel
theorem dX3_returnCodes_144 : decode cX3_returnCodes 144 = .ok (.getfield 83, 3) := by decide +kernel
theorem dX3_returnCodes_147 : decode cX3_returnCodes 147 = .ok (.invokevirtual 273, 3) := by decide +kernel
theorem dX3_returnCodes_150 : decode cX3_returnCodes 150 = .ok (.goto 74, 3) := by decide +kernel
theorem dX3_returnCodes_153 : decode cX3_returnCodes 153 = .ok (.aload_n 0, 1) := by decide +kernel
theorem dX3_returnCodes_154 : decode cX3_returnCodes 154 = .ok (.iconst 0, 1) := by decide +kernel
theorem dX3_returnCodes_155 : decode cX3_returnCodes 155 = .ok (.invokevirtual 273, 3) := by decide +kernel
theorem dX3_returnCodes_158 : decode cX3_returnCodes 158 = .ok (.goto 66, 3) := by decide +kernel
theorem dX3_returnCodes_161 : decode cX3_returnCodes 161 = .ok (.aload_n 0, 1) := by decide +kernel
theorem dX3_returnCodes_162 : decode cX3_returnCodes 162 = .ok (.iconst 3, 1) := by decide +kernel
theorem dX3_returnCodes_163 : decode cX3_returnCodes 163 = .ok (.putfield 43, 3) := by decide +kernel
theorem dX3_returnCodes_166 : decode cX3_returnCodes 166 = .ok (.goto 58, 3) := by decide +kernel
theorem dX3_returnCodes_169 : decode cX3_returnCodes 169 = .ok (.aload_n 0, 1) := by decide +kernel
theorem dX3_returnCodes_170 : decode cX3_returnCodes 170 = .ok (.aload_n 0, 1) := by decide +kernel
theorem dX3_returnCodes_171 : decode cX3_returnCodes 171 = .ok (.getfield 35, 3) := by decide +kernel
theorem dX3_returnCodes_174 : decode cX3_returnCodes 174 = .ok (.getfield 83, 3) := by decide +kernel
theorem dX3_returnCodes_177 : decode cX3_returnCodes 177 = .ok (.putfield 43, 3) := by decide +kernel
theorem dX3_returnCodes_180 : decode cX3_returnCodes 180 = .ok (.goto 44, 3) := by decide +kernel
theorem dX3_returnCodes_183 : decode cX3_returnCodes 183 = .ok (.aload_n 0, 1) := by decide +kernel
theorem dX3_returnCodes_184 : decode cX3_returnCodes 184 = .ok (.aload_n 0, 1) := by decide +kernel
theorem dX3_returnCodes_185 : decode cX3_returnCodes 185 = .ok (.getfield 28, 3) := by decide +kernel
theorem dX3_returnCodes_188 : decode cX3_returnCodes 188 = .ok (.sipush 2048, 3) := by decide +kernel
theorem dX3_returnCodes_191 : decode cX3_returnCodes 191 = .ok (.invokevirtual 249, 3) := by decide +kernel
theorem dX3_returnCodes_194 : decode cX3_returnCodes 194 = .ok (.ifCond .eq 7, 3) := by decide +kernel
theorem dX3_returnCodes_197 : decode cX3_returnCodes 197 = .ok (.iconst 4, 1) := by decide +kernel
theorem dX3_returnCodes_198 : decode cX3_returnCodes 198 = .ok (.goto 4, 3) := by decide +kernel
theorem dX3_returnCodes_201 : decode cX3_returnCodes 201 = .ok (.iconst (-1), 1) := by decide +kernel
theorem dX3_returnCodes_202 : decode cX3_returnCodes 202 = .ok (.putfield 43, 3) := by decide +kernel
theorem dX3_returnCodes_205 : decode cX3_returnCodes 205 = .ok (.goto 19, 3) := by decide +kernel
theorem dX3_returnCodes_208 : decode cX3_returnCodes 208 = .ok (.aload_n 0, 1) := by decide +kernel
theorem dX3_returnCodes_209 : decode cX3_returnCodes 209 = .ok (.iconst 0, 1) := by decide +kernel
theorem dX3_returnCodes_210 : decode cX3_returnCodes 210 = .ok (.invokevirtual 273, 3) := by decide +kernel
theorem dX3_returnCodes_213 : decode cX3_returnCodes 213 = .ok (.aload_n 0, 1) := by decide +kernel
theorem dX3_returnCodes_214 : decode cX3_returnCodes 214 = .ok (.getfield 28, 3) := by decide +kernel
theorem dX3_returnCodes_217 : decode cX3_returnCodes 217 = .ok (.aload_n 0, 1) := by decide +kernel
theorem dX3_returnCodes_218 : decode cX3_returnCodes 218 = .ok (.invokevirtual 203, 3) := by decide +kernel
theorem dX3_returnCodes_221 : decode cX3_returnCodes 221 = .ok (.invokevirtual 227, 3) := by decide +kernel
theorem dX3_returnCodes_224 : decode cX3_returnCodes 224 = .ok (.return_, 1) := by decide +kernel
theorem dX3_returnNear_0 : decode cX3_returnNear 0 = .ok (.aload_n 0, 1) := by decide +kernel
theorem dX3_returnNear_1 : decode cX3_returnNear 1 = .ok (.getfield 21, 3) := by decide +kernel
theorem dX3_returnNear_4 : decode cX3_returnNear 4 = .ok (.aload_n 0, 1) := by decide +kernel
theorem dX3_returnNear_5 : decode cX3_returnNear 5 = .ok (.invokevirtual 203, 3) := by decide +kernel
theorem dX3_returnNear_8 : decode cX3_returnNear 8 = .ok (.invokevirtual 128, 3) := by decide +kernel
theorem dX3_returnNear_11 : decode cX3_returnNear 11 = .ok (.aload_n 0, 1) := by decide +kernel
theorem dX3_returnNear_12 : decode cX3_returnNear 12 = .ok (.getfield 21, 3) := by decide +kernel
theorem dX3_returnNear_15 : decode cX3_returnNear 15 = .ok (.iconst 4, 1) := by decide +kernel
theorem dX3_returnNear_16 : decode cX3_returnNear 16 = .ok (.aload_n 0, 1) := by decide +kernel
theorem dX3_returnNear_17 : decode cX3_returnNear 17 = .ok (.getfield 21, 3) := by decide +kernel
theorem dX3_returnNear_20 : decode cX3_returnNear 20 = .ok (.iconst 4, 1) := by decide +kernel
theorem dX3_returnNear_21 : decode cX3_returnNear 21 = .ok (.invokevirtual 139, 3) := by decide +kernel
theorem dX3_returnNear_24 : decode cX3_returnNear 24 = .ok (.iload_n 1, 1) := by decide +kernel
theorem dX3_returnNear_25 : decode cX3_returnNear 25 = .ok (.iadd, 1) := by decide +kernel
theorem dX3_returnNear_26 : decode cX3_returnNear 26 = .ok (.invokevirtual 142, 3) := by decide +kernel
theorem dX3_returnNear_29 : decode cX3_returnNear 29 = .ok (.return_, 1) := by decide +kernel
theorem dX3_returnFar_0 : decode cX3_returnFar 0 = .ok (.aload_n 0, 1) := by decide +kernel
theorem dX3_returnFar_1 : decode cX3_returnFar 1 = .ok (.getfield 21, 3) := by decide +kernel
theorem dX3_returnFar_4 : decode cX3_returnFar 4 = .ok (.aload_n 0, 1) := by decide +kernel
theorem dX3_returnFar_5 : decode cX3_returnFar 5 = .ok (.invokevirtual 203, 3) := by decide +kernel
theorem dX3_returnFar_8 : decode cX3_returnFar 8 = .ok (.invokevirtual 128, 3) := by decide +kernel
theorem dX3_returnFar_11 : decode cX3_returnFar 11 = .ok (.aload_n 0, 1) := by decide +kernel
theorem dX3_returnFar_12 : decode cX3_returnFar 12 = .ok (.getfield 21, 3) := by decide +kernel
theorem dX3_returnFar_15 : decode cX3_returnFar 15 = .ok (.iconst 1, 1) := by decide +kernel
theorem dX3_returnFar_16 : decode cX3_returnFar 16 = .ok (.aload_n 0, 1) := by decide +kernel
theorem dX3_returnFar_17 : decode cX3_returnFar 17 = .ok (.invokevirtual 203, 3) := by decide +kernel
theorem dX3_returnFar_20 : decode cX3_returnFar 20 = .ok (.invokevirtual 131, 3) := by decide +kernel
theorem dX3_returnFar_23 : decode cX3_returnFar 23 = .ok (.aload_n 0, 1) := by decide +kernel
theorem dX3_returnFar_24 : decode cX3_returnFar 24 = .ok (.getfield 21, 3) := by decide +kernel
theorem dX3_returnFar_27 : decode cX3_returnFar 27 = .ok (.iconst 4, 1) := by decide +kernel
theorem dX3_returnFar_28 : decode cX3_returnFar 28 = .ok (.aload_n 0, 1) := by decide +kernel
theorem dX3_returnFar_29 : decode cX3_returnFar 29 = .ok (.getfield 21, 3) := by decide +kernel
theorem dX3_returnFar_32 : decode cX3_returnFar 32 = .ok (.iconst 4, 1) := by decide +kernel
theorem dX3_returnFar_33 : decode cX3_returnFar 33 = .ok (.invokevirtual 139, 3) := by decide +kernel
theorem dX3_returnFar_36 : decode cX3_returnFar 36 = .ok (.iload_n 1, 1) := by decide +kernel
theorem dX3_returnFar_37 : decode cX3_returnFar 37 = .ok (.iadd, 1) := by decide +kernel
theorem dX3_returnFar_38 : decode cX3_returnFar 38 = .ok (.invokevirtual 142, 3) := by decide +kernel
theorem dX3_returnFar_41 : decode cX3_returnFar 41 = .ok (.return_, 1) := by decide +kernel
theorem dX3_giveFar_0 : decode cX3_giveFar 0 = .ok (.aload_n 0, 1) := by decide +kernel
theorem dX3_giveFar_1 : decode cX3_giveFar 1 = .ok (.invokevirtual 276, 3) := by decide +kernel
theorem dX3_giveFar_4 : decode cX3_giveFar 4 = .ok (.istore_n 2, 1) := by decide +kernel
theorem dX3_giveFar_5 : decode cX3_giveFar 5 = .ok (.aload_n 0, 1) := by decide +kernel
theorem dX3_giveFar_6 : decode cX3_giveFar 6 = .ok (.getfield 21, 3) := by decide +kernel
theorem dX3_giveFar_9 : decode cX3_giveFar 9 = .ok (.aload_n 0, 1) := by decide +kernel
theorem dX3_giveFar_10 : decode cX3_giveFar 10 = .ok (.getfield 35, 3) := by decide +kernel
theorem dX3_giveFar_13 : decode cX3_giveFar 13 = .ok (.getfield 191, 3) := by decide +kernel
theorem dX3_giveFar_16 : decode cX3_giveFar 16 = .ok (.aload_n 0, 1) := by decide +kernel
theorem dX3_giveFar_17 : decode cX3_giveFar 17 = .ok (.iconst 1, 1) := by decide +kernel
theorem dX3_giveFar_18 : decode cX3_giveFar 18 = .ok (.invokevirtual 168, 3) := by decide +kernel
theorem dX3_giveFar_21 : decode cX3_giveFar 21 = .ok (.invokevirtual 142, 3) := by decide +kernel
theorem dX3_giveFar_24 : decode cX3_giveFar 24 = .ok (.aload_n 0, 1) := by decide +kernel
theorem dX3_giveFar_25 : decode cX3_giveFar 25 = .ok (.getfield 21, 3) := by decide +kernel
theorem dX3_giveFar_28 : decode cX3_giveFar 28 = .ok (.iload_n 1, 1) := by decide +kernel
theorem dX3_giveFar_29 : decode cX3_giveFar 29 = .ok (.iload_n 2, 1) := by decide +kernel
theorem dX3_giveFar_30 : decode cX3_giveFar 30 = .ok (.invokevirtual 131, 3) := by decide +kernel
theorem dX3_giveFar_33 : decode cX3_giveFar 33 = .ok (.return_, 1) := by decide +kernel
theorem dX3_shiftAndAdjustCodes_0 : decode cX3_shiftAndAdjustCodes 0 = .ok (.aload_n 0, 1) := by decide +kernel
theorem dX3_shiftAndAdjustCodes_1 : decode cX3_shiftAndAdjustCodes 1 = .ok (.getfield 35, 3) := by decide +kernel
theorem dX3_shiftAndAdjustCodes_4 : decode cX3_shiftAndAdjustCodes 4 = .ok (.invokevirtual 188, 3) := by decide +kernel
theorem dX3_shiftAndAdjustCodes_7 : decode cX3_shiftAndAdjustCodes 7 = .ok (.istore_n 1, 1) := by decide +kernel
theorem dX3_shiftAndAdjustCodes_8 : decode cX3_shiftAndAdjustCodes 8 = .ok (.aload_n 0, 1) := by decide +kernel
theorem dX3_shiftAndAdjustCodes_9 : decode cX3_shiftAndAdjustCodes 9 = .ok (.getfield 35, 3) := by decide +kernel
theorem dX3_shiftAndAdjustCodes_12 : decode cX3_shiftAndAdjustCodes 12 = .ok (.getfield 47, 3) := by decide +kernel
theorem dX3_shiftAndAdjustCodes_15 : decode cX3_shiftAndAdjustCodes 15 = .ok (.tableswitch 248 208 215 #[45, 45, 74, 74, 111, 157, 185, 211], 45) := by decide +kernel
theorem dX3_shiftAndAdjustCodes_60 : decode cX3_shiftAndAdjustCodes 60 = .ok (.aload_n 0, 1) := by decide +kernel
theorem dX3_shiftAndAdjustCodes_61 : decode cX3_shiftAndAdjustCodes 61 = .ok (.aload_n 0, 1) := by decide +kernel
theorem dX3_shiftAndAdjustCodes_62 : decode cX3_shiftAndAdjustCodes 62 = .ok (.getfield 28, 3) := by decide +kernel
theorem dX3_shiftAndAdjustCodes_65 : decode cX3_shiftAndAdjustCodes 65 = .ok (.aload_n 0, 1) := by decide +kernel
theorem dX3_shiftAndAdjustCodes_66 : decode cX3_shiftAndAdjustCodes 66 = .ok (.getfield 35, 3) := by decide +kernel
theorem dX3_shiftAndAdjustCodes_69 : decode cX3_shiftAndAdjustCodes 69 = .ok (.getfield 191, 3) := by decide +kernel
theorem dX3_shiftAndAdjustCodes_72 : decode cX3_shiftAndAdjustCodes 72 = .ok (.aload_n 0, 1) := by decide +kernel
theorem dX3_shiftAndAdjustCodes_73 : decode cX3_shiftAndAdjustCodes 73 = .ok (.iload_n 1, 1) := by decide +kernel
theorem dX3_shiftAndAdjustCodes_74 : decode cX3_shiftAndAdjustCodes 74 = .ok (.invokevirtual 168, 3) := by decide +kernel
theorem dX3_shiftAndAdjustCodes_77 : decode cX3_shiftAndAdjustCodes 77 = .ok (.iconst 1, 1) := by decide +kernel
theorem dX3_shiftAndAdjustCodes_78 : decode cX3_shiftAndAdjustCodes 78 = .ok (.iload_n 1, 1) := by decide +kernel
theorem dX3_shiftAndAdjustCodes_79 : decode cX3_shiftAndAdjustCodes 79 = .ok (.invokevirtual 279, 3) := by decide +kernel
theorem dX3_shiftAndAdjustCodes_82 : decode cX3_shiftAndAdjustCodes 82 = .ok (.iload_n 1, 1) := by decide +kernel
theorem dX3_shiftAndAdjustCodes_83 : decode cX3_shiftAndAdjustCodes 83 = .ok (.invokevirtual 176, 3) := by decide +kernel
theorem dX3_shiftAndAdjustCodes_86 : decode cX3_shiftAndAdjustCodes 86 = .ok (.goto 177, 3) := by decide +kernel
theorem dX3_shiftAndAdjustCodes_89 : decode cX3_shiftAndAdjustCodes 89 = .ok (.aload_n 0, 1) := by decide +kernel
theorem dX3_shiftAndAdjustCodes_90 : decode cX3_shiftAndAdjustCodes 90 = .ok (.aload_n 0, 1) := by decide +kernel
theorem dX3_shiftAndAdjustCodes_91 : decode cX3_shiftAndAdjustCodes 91 = .ok (.getfield 28, 3) := by decide +kernel
theorem dX3_shiftAndAdjustCodes_94 : decode cX3_shiftAndAdjustCodes 94 = .ok (.aload_n 0, 1) := by decide +kernel
theorem dX3_shiftAndAdjustCodes_95 : decode cX3_shiftAndAdjustCodes 95 = .ok (.getfield 35, 3) := by decide +kernel
theorem dX3_shiftAndAdjustCodes_98 : decode cX3_shiftAndAdjustCodes 98 = .ok (.getfield 191, 3) := by decide +kernel
theorem dX3_shiftAndAdjustCodes_101 : decode cX3_shiftAndAdjustCodes 101 = .ok (.aload_n 0, 1) := by decide +kernel
theorem dX3_shiftAndAdjustCodes_102 : decode cX3_shiftAndAdjustCodes 102 = .ok (.iload_n 1, 1) := by decide +kernel
theorem dX3_shiftAndAdjustCodes_103 : decode cX3_shiftAndAdjustCodes 103 = .ok (.invokevirtual 168, 3) := by decide +kernel
theorem dX3_shiftAndAdjustCodes_106 : decode cX3_shiftAndAdjustCodes 106 = .ok (.aload_n 0, 1) := by decide +kernel
theorem dX3_shiftAndAdjustCodes_107 : decode cX3_shiftAndAdjustCodes 107 = .ok (.getfield 21, 3) := by decide +kernel
theorem dX3_shiftAndAdjustCodes_110 : decode cX3_shiftAndAdjustCodes 110 = .ok (.iconst 1, 1) := by decide +kernel
theorem dX3_shiftAndAdjustCodes_111 : decode cX3_shiftAndAdjustCodes 111 = .ok (.iconst 0, 1) := by decide +kernel
theorem dX3_shiftAndAdjustCodes_112 : decode cX3_shiftAndAdjustCodes 112 = .ok (.invokevirtual 158, 3) := by decide +kernel
theorem dX3_shiftAndAdjustCodes_115 : decode cX3_shiftAndAdjustCodes 115 = .ok (.iload_n 1, 1) := by decide +kernel
theorem dX3_shiftAndAdjustCodes_116 : decode cX3_shiftAndAdjustCodes 116 = .ok (.invokevirtual 279, 3) := by decide +kernel
theorem dX3_shiftAndAdjustCodes_119 : decode cX3_shiftAndAdjustCodes 119 = .ok (.iload_n 1, 1) := by decide +kernel
theorem dX3_shiftAndAdjustCodes_120 : decode cX3_shiftAndAdjustCodes 120 = .ok (.invokevirtual 176, 3) := by decide +kernel
theorem dX3_shiftAndAdjustCodes_123 : decode cX3_shiftAndAdjustCodes 123 = .ok (.goto 140, 3) := by decide +kernel
theorem dX3_shiftAndAdjustCodes_126 : decode cX3_shiftAndAdjustCodes 126 = .ok (.aload_n 0, 1) := by decide +kernel
theorem dX3_shiftAndAdjustCodes_127 : decode cX3_shiftAndAdjustCodes 127 = .ok (.getfield 35, 3) := by decide +kernel
theorem dX3_shiftAndAdjustCodes_130 : decode cX3_shiftAndAdjustCodes 130 = .ok (.getfield 83, 3) := by decide +kernel
theorem dX3_shiftAndAdjustCodes_133 : decode cX3_shiftAndAdjustCodes 133 = .ok (.ifCond .ne 11, 3) := by decide +kernel
theorem dX3_shiftAndAdjustCodes_136 : decode cX3_shiftAndAdjustCodes 136 = .ok (.aload_n 0, 1) := by decide +kernel
theorem dX3_shiftAndAdjustCodes_137 : decode cX3_shiftAndAdjustCodes 137 = .ok (.iconst 0, 1) := by decide +kernel
theorem dX3_shiftAndAdjustCodes_138 : decode cX3_shiftAndAdjustCodes 138 = .ok (.putfield 43, 3) := by decide +kernel
theorem dX3_shiftAndAdjustCodes_141 : decode cX3_shiftAndAdjustCodes 141 = .ok (.goto 122, 3) := by decide +kernel
theorem dX3_shiftAndAdjustCodes_144 : decode cX3_shiftAndAdjustCodes 144 = .ok (.aload_n 0, 1) := by decide +kernel
theorem dX3_shiftAndAdjustCodes_145 : decode cX3_shiftAndAdjustCodes 145 = .ok (.aload_n 0, 1) := by decide +kernel
theorem dX3_shiftAndAdjustCodes_146 : decode cX3_shiftAndAdjustCodes 146 = .ok (.getfield 28, 3) := by decide +kernel
theorem dX3_shiftAndAdjustCodes_149 : decode cX3_shiftAndAdjustCodes 149 = .ok (.iconst 4, 1) := by decide +kernel
theorem dX3_shiftAndAdjustCodes_150 : decode cX3_shiftAndAdjustCodes 150 = .ok (.aload_n 0, 1) := by decide +kernel
theorem dX3_shiftAndAdjustCodes_151 : decode cX3_shiftAndAdjustCodes 151 = .ok (.iconst 1, 1) := by decide +kernel
theorem dX3_shiftAndAdjustCodes_152 : decode cX3_shiftAndAdjustCodes 152 = .ok (.invokevirtual 197, 3) := by decide +kernel
theorem dX3_shiftAndAdjustCodes_155 : decode cX3_shiftAndAdjustCodes 155 = .ok (.aload_n 0, 1) := by decide +kernel
theorem dX3_shiftAndAdjustCodes_156 : decode cX3_shiftAndAdjustCodes 156 = .ok (.getfield 35, 3) := by decide +kernel
theorem dX3_shiftAndAdjustCodes_159 : decode cX3_shiftAndAdjustCodes 159 = .ok (.getfield 83, 3) := by decide +kernel
theorem dX3_shiftAndAdjustCodes_162 : decode cX3_shiftAndAdjustCodes 162 = .ok (.invokevirtual 206, 3) := by decide +kernel
theorem dX3_shiftAndAdjustCodes_165 : decode cX3_shiftAndAdjustCodes 165 = .ok (.iconst 1, 1) := by decide +kernel
theorem dX3_shiftAndAdjustCodes_166 : decode cX3_shiftAndAdjustCodes 166 = .ok (.invokevirtual 200, 3) := by decide +kernel
theorem dX3_shiftAndAdjustCodes_169 : decode cX3_shiftAndAdjustCodes 169 = .ok (.goto 94, 3) := by decide +kernel
theorem dX3_shiftAndAdjustCodes_172 : decode cX3_shiftAndAdjustCodes 172 = .ok (.aload_n 0, 1) := by decide +kernel
theorem dX3_shiftAndAdjustCodes_173 : decode cX3_shiftAndAdjustCodes 173 = .ok (.aload_n 0, 1) := by decide +kernel
theorem dX3_shiftAndAdjustCodes_174 : decode cX3_shiftAndAdjustCodes 174 = .ok (.getfield 28, 3) := by decide +kernel
theorem dX3_shiftAndAdjustCodes_177 : decode cX3_shiftAndAdjustCodes 177 = .ok (.iconst 5, 1) := by decide +kernel
theorem dX3_shiftAndAdjustCodes_178 : decode cX3_shiftAndAdjustCodes 178 = .ok (.aload_n 0, 1) := by decide +kernel
theorem dX3_shiftAndAdjustCodes_179 : decode cX3_shiftAndAdjustCodes 179 = .ok (.iconst 1, 1) := by decide +kernel
theorem dX3_shiftAndAdjustCodes_180 : decode cX3_shiftAndAdjustCodes 180 = .ok (.invokevirtual 197, 3) := by decide +kernel
theorem dX3_shiftAndAdjustCodes_183 : decode cX3_shiftAndAdjustCodes 183 = .ok (.aload_n 0, 1) := by decide +kernel
theorem dX3_shiftAndAdjustCodes_184 : decode cX3_shiftAndAdjustCodes 184 = .ok (.getfield 35, 3) := by decide +kernel
theorem dX3_shiftAndAdjustCodes_187 : decode cX3_shiftAndAdjustCodes 187 = .ok (.getfield 83, 3) := by decide +kernel
theorem dX3_shiftAndAdjustCodes_190 : decode cX3_shiftAndAdjustCodes 190 = .ok (.invokevirtual 206, 3) := by decide +kernel
theorem dX3_shiftAndAdjustCodes_193 : decode cX3_shiftAndAdjustCodes 193 = .ok (.iconst 1, 1) := by decide +kernel
theorem dX3_shiftAndAdjustCodes_194 : decode cX3_shiftAndAdjustCodes 194 = .ok (.invokevirtual 200, 3) := by decide +kernel
theorem dX3_shiftAndAdjustCodes_197 : decode cX3_shiftAndAdjustCodes 197 = .ok (.goto 66, 3) := by decide +kernel
theorem dX3_shiftAndAdjustCodes_200 : decode cX3_shiftAndAdjustCodes 200 = .ok (.aload_n 0, 1) := by decide +kernel
theorem dX3_shiftAndAdjustCodes_201 : decode cX3_shiftAndAdjustCodes 201 = .ok (.aload_n 0, 1) := by decide +kernel
theorem dX3_shiftAndAdjustCodes_202 : decode cX3_shiftAndAdjustCodes 202 = .ok (.getfield 28, 3) := by decide +kernel
theorem dX3_shiftAndAdjustCodes_205 : decode cX3_shiftAndAdjustCodes 205 = .ok (.iconst 1, 1) := by decide +kernel
theorem dX3_shiftAndAdjustCodes_206 : decode cX3_shiftAndAdjustCodes 206 = .ok (.invokevirtual 249, 3) := by decide +kernel
theorem dX3_shiftAndAdjustCodes_209 : decode cX3_shiftAndAdjustCodes 209 = .ok (.ifCond .eq 9, 3) := by decide +kernel
theorem dX3_shiftAndAdjustCodes_212 : decode cX3_shiftAndAdjustCodes 212 = .ok (.sipush 255, 3) := by decide +kernel
theorem dX3_shiftAndAdjustCodes_215 : decode cX3_shiftAndAdjustCodes 215 = .ok (.goto 4, 3) := by decide +kernel
theorem dX3_shiftAndAdjustCodes_218 : decode cX3_shiftAndAdjustCodes 218 = .ok (.iconst 0, 1) := by decide +kernel
theorem dX3_shiftAndAdjustCodes_219 : decode cX3_shiftAndAdjustCodes 219 = .ok (.iconst 0, 1) := by decide +kernel
theorem dX3_shiftAndAdjustCodes_220 : decode cX3_shiftAndAdjustCodes 220 = .ok (.invokevirtual 200, 3) := by decide +kernel
theorem dX3_shiftAndAdjustCodes_223 : decode cX3_shiftAndAdjustCodes 223 = .ok (.goto 40, 3) := by decide +kernel
theorem dX3_shiftAndAdjustCodes_226 : decode cX3_shiftAndAdjustCodes 226 = .ok (.aload_n 0, 1) := by decide +kernel
theorem dX3_shiftAndAdjustCodes_227 : decode cX3_shiftAndAdjustCodes 227 = .ok (.getfield 21, 3) := by decide +kernel
theorem dX3_shiftAndAdjustCodes_230 : decode cX3_shiftAndAdjustCodes 230 = .ok (.iconst 3, 1) := by decide +kernel
theorem dX3_shiftAndAdjustCodes_231 : decode cX3_shiftAndAdjustCodes 231 = .ok (.invokevirtual 139, 3) := by decide +kernel
theorem dX3_shiftAndAdjustCodes_234 : decode cX3_shiftAndAdjustCodes 234 = .ok (.aload_n 0, 1) := by decide +kernel
theorem dX3_shiftAndAdjustCodes_235 : decode cX3_shiftAndAdjustCodes 235 = .ok (.iconst 0, 1) := by decide +kernel
theorem dX3_shiftAndAdjustCodes_236 : decode cX3_shiftAndAdjustCodes 236 = .ok (.invokevirtual 197, 3) := by decide +kernel
theorem dX3_shiftAndAdjustCodes_239 : decode cX3_shiftAndAdjustCodes 239 = .ok (.iadd, 1) := by decide +kernel
theorem dX3_shiftAndAdjustCodes_240 : decode cX3_shiftAndAdjustCodes 240 = .ok (.istore_n 2, 1) := by decide +kernel
theorem dX3_shiftAndAdjustCodes_241 : decode cX3_shiftAndAdjustCodes 241 = .ok (.aload_n 0, 1) := by decide +kernel
theorem dX3_shiftAndAdjustCodes_242 : decode cX3_shiftAndAdjustCodes 242 = .ok (.aload_n 0, 1) := by decide +kernel
theorem dX3_shiftAndAdjustCodes_243 : decode cX3_shiftAndAdjustCodes 243 = .ok (.getfield 12, 3) := by decide +kernel
theorem dX3_shiftAndAdjustCodes_246 : decode cX3_shiftAndAdjustCodes 246 = .ok (.aload_n 0, 1) := by decide +kernel
theorem dX3_shiftAndAdjustCodes_247 : decode cX3_shiftAndAdjustCodes 247 = .ok (.iconst 3, 1) := by decide +kernel
theorem dX3_shiftAndAdjustCodes_248 : decode cX3_shiftAndAdjustCodes 248 = .ok (.invokevirtual 234, 3) := by decide +kernel
theorem dX3_shiftAndAdjustCodes_251 : decode cX3_shiftAndAdjustCodes 251 = .ok (.iload_n 2, 1) := by decide +kernel
theorem dX3_shiftAndAdjustCodes_252 : decode cX3_shiftAndAdjustCodes 252 = .ok (.iconst 0, 1) := by decide +kernel
theorem dX3_shiftAndAdjustCodes_253 : decode cX3_shiftAndAdjustCodes 253 = .ok (.invokevirtual 124, 3) := by decide +kernel
theorem dX3_shiftAndAdjustCodes_256 : decode cX3_shiftAndAdjustCodes 256 = .ok (.iconst 0, 1) := by decide +kernel
theorem dX3_shiftAndAdjustCodes_257 : decode cX3_shiftAndAdjustCodes 257 = .ok (.invokevirtual 200, 3) := by decide +kernel
theorem dX3_shiftAndAdjustCodes_260 : decode cX3_shiftAndAdjustCodes 260 = .ok (.goto 3, 3) := by decide +kernel
theorem dX3_shiftAndAdjustCodes_263 : decode cX3_shiftAndAdjustCodes 263 = .ok (.return_, 1) := by decide +kernel
theorem dX3_loopAndPortCodes_0 : decode cX3_loopAndPortCodes 0 = .ok (.aload_n 0, 1) := by decide +kernel
theorem dX3_loopAndPortCodes_1 : decode cX3_loopAndPortCodes 1 = .ok (.getfield 35, 3) := by decide +kernel
theorem dX3_loopAndPortCodes_4 : decode cX3_loopAndPortCodes 4 = .ok (.getfield 47, 3) := by decide +kernel
theorem dX3_loopAndPortCodes_7 : decode cX3_loopAndPortCodes 7 = .ok (.tableswitch 159 224 235 #[61, 61, 61, 68, 159, 159, 159, 159, 91, 116, 130, 151], 61) := by decide +kernel
theorem dX3_loopAndPortCodes_68 : decode cX3_loopAndPortCodes 68 = .ok (.aload_n 0, 1) := by decide +kernel
theorem dX3_loopAndPortCodes_69 : decode cX3_loopAndPortCodes 69 = .ok (.invokevirtual 282, 3) := by decide +kernel
theorem dX3_loopAndPortCodes_72 : decode cX3_loopAndPortCodes 72 = .ok (.goto 129, 3) := by decide +kernel
theorem dX3_loopAndPortCodes_75 : decode cX3_loopAndPortCodes 75 = .ok (.aload_n 0, 1) := by decide +kernel
theorem dX3_loopAndPortCodes_76 : decode cX3_loopAndPortCodes 76 = .ok (.aload_n 0, 1) := by decide +kernel
theorem dX3_loopAndPortCodes_77 : decode cX3_loopAndPortCodes 77 = .ok (.getfield 21, 3) := by decide +kernel
theorem dX3_loopAndPortCodes_80 : decode cX3_loopAndPortCodes 80 = .ok (.iconst 1, 1) := by decide +kernel
theorem dX3_loopAndPortCodes_81 : decode cX3_loopAndPortCodes 81 = .ok (.invokevirtual 139, 3) := by decide +kernel
theorem dX3_loopAndPortCodes_84 : decode cX3_loopAndPortCodes 84 = .ok (.ifCond .ne 7, 3) := by decide +kernel
theorem dX3_loopAndPortCodes_87 : decode cX3_loopAndPortCodes 87 = .ok (.iconst 1, 1) := by decide +kernel
theorem dX3_loopAndPortCodes_88 : decode cX3_loopAndPortCodes 88 = .ok (.goto 4, 3) := by decide +kernel
theorem dX3_loopAndPortCodes_91 : decode cX3_loopAndPortCodes 91 = .ok (.iconst 0, 1) := by decide +kernel
theorem dX3_loopAndPortCodes_92 : decode cX3_loopAndPortCodes 92 = .ok (.invokevirtual 63, 3) := by decide +kernel
theorem dX3_loopAndPortCodes_95 : decode cX3_loopAndPortCodes 95 = .ok (.goto 106, 3) := by decide +kernel
theorem dX3_loopAndPortCodes_98 : decode cX3_loopAndPortCodes 98 = .ok (.aload_n 0, 1) := by decide +kernel
theorem dX3_loopAndPortCodes_99 : decode cX3_loopAndPortCodes 99 = .ok (.aload_n 0, 1) := by decide +kernel
theorem dX3_loopAndPortCodes_100 : decode cX3_loopAndPortCodes 100 = .ok (.getfield 21, 3) := by decide +kernel
theorem dX3_loopAndPortCodes_103 : decode cX3_loopAndPortCodes 103 = .ok (.getfield 121, 3) := by decide +kernel
theorem dX3_loopAndPortCodes_106 : decode cX3_loopAndPortCodes 106 = .ok (.invokevirtual 110, 3) := by decide +kernel
theorem dX3_loopAndPortCodes_109 : decode cX3_loopAndPortCodes 109 = .ok (.aload_n 0, 1) := by decide +kernel
theorem dX3_loopAndPortCodes_110 : decode cX3_loopAndPortCodes 110 = .ok (.aload_n 0, 1) := by decide +kernel
theorem dX3_loopAndPortCodes_111 : decode cX3_loopAndPortCodes 111 = .ok (.getfield 35, 3) := by decide +kernel
theorem dX3_loopAndPortCodes_114 : decode cX3_loopAndPortCodes 114 = .ok (.getfield 83, 3) := by decide +kernel
theorem dX3_loopAndPortCodes_117 : decode cX3_loopAndPortCodes 117 = .ok (.invokevirtual 182, 3) := by decide +kernel
theorem dX3_loopAndPortCodes_120 : decode cX3_loopAndPortCodes 120 = .ok (.goto 81, 3) := by decide +kernel
theorem dX3_loopAndPortCodes_123 : decode cX3_loopAndPortCodes 123 = .ok (.aload_n 0, 1) := by decide +kernel
theorem dX3_loopAndPortCodes_124 : decode cX3_loopAndPortCodes 124 = .ok (.aload_n 0, 1) := by decide +kernel
theorem dX3_loopAndPortCodes_125 : decode cX3_loopAndPortCodes 125 = .ok (.getfield 35, 3) := by decide +kernel
theorem dX3_loopAndPortCodes_128 : decode cX3_loopAndPortCodes 128 = .ok (.getfield 83, 3) := by decide +kernel
theorem dX3_loopAndPortCodes_131 : decode cX3_loopAndPortCodes 131 = .ok (.invokevirtual 182, 3) := by decide +kernel
theorem dX3_loopAndPortCodes_134 : decode cX3_loopAndPortCodes 134 = .ok (.goto 67, 3) := by decide +kernel
theorem dX3_loopAndPortCodes_137 : decode cX3_loopAndPortCodes 137 = .ok (.aload_n 0, 1) := by decide +kernel
theorem dX3_loopAndPortCodes_138 : decode cX3_loopAndPortCodes 138 = .ok (.aload_n 0, 1) := by decide +kernel
theorem dX3_loopAndPortCodes_139 : decode cX3_loopAndPortCodes 139 = .ok (.getfield 35, 3) := by decide +kernel
theorem dX3_loopAndPortCodes_142 : decode cX3_loopAndPortCodes 142 = .ok (.getfield 83, 3) := by decide +kernel
theorem dX3_loopAndPortCodes_145 : decode cX3_loopAndPortCodes 145 = .ok (.aload_n 0, 1) := by decide +kernel
theorem dX3_loopAndPortCodes_146 : decode cX3_loopAndPortCodes 146 = .ok (.getfield 35, 3) := by decide +kernel
theorem dX3_loopAndPortCodes_149 : decode cX3_loopAndPortCodes 149 = .ok (.getfield 221, 3) := by decide +kernel
theorem dX3_loopAndPortCodes_152 : decode cX3_loopAndPortCodes 152 = .ok (.invokevirtual 185, 3) := by decide +kernel
theorem dX3_loopAndPortCodes_155 : decode cX3_loopAndPortCodes 155 = .ok (.goto 46, 3) := by decide +kernel
theorem dX3_loopAndPortCodes_158 : decode cX3_loopAndPortCodes 158 = .ok (.aload_n 0, 1) := by decide +kernel
theorem dX3_loopAndPortCodes_159 : decode cX3_loopAndPortCodes 159 = .ok (.iconst 1, 1) := by decide +kernel
theorem dX3_loopAndPortCodes_160 : decode cX3_loopAndPortCodes 160 = .ok (.invokevirtual 63, 3) := by decide +kernel
theorem dX3_loopAndPortCodes_163 : decode cX3_loopAndPortCodes 163 = .ok (.goto 38, 3) := by decide +kernel
theorem dX3_loopAndPortCodes_166 : decode cX3_loopAndPortCodes 166 = .ok (.aload_n 0, 1) := by decide +kernel
theorem dX3_loopAndPortCodes_167 : decode cX3_loopAndPortCodes 167 = .ok (.aload_n 0, 1) := by decide +kernel
theorem dX3_loopAndPortCodes_168 : decode cX3_loopAndPortCodes 168 = .ok (.getfield 35, 3) := by decide +kernel
theorem dX3_loopAndPortCodes_171 : decode cX3_loopAndPortCodes 171 = .ok (.getfield 47, 3) := by decide +kernel
theorem dX3_loopAndPortCodes_174 : decode cX3_loopAndPortCodes 174 = .ok (.sipush 232, 3) := by decide +kernel
theorem dX3_loopAndPortCodes_177 : decode cX3_loopAndPortCodes 177 = .ok (.if_icmp .ge 13, 3) := by decide +kernel
theorem dX3_loopAndPortCodes_180 : decode cX3_loopAndPortCodes 180 = .ok (.aload_n 0, 1) := by decide +kernel
theorem dX3_loopAndPortCodes_181 : decode cX3_loopAndPortCodes 181 = .ok (.getfield 35, 3) := by decide +kernel
theorem dX3_loopAndPortCodes_184 : decode cX3_loopAndPortCodes 184 = .ok (.getfield 83, 3) := by decide +kernel
theorem dX3_loopAndPortCodes_187 : decode cX3_loopAndPortCodes 187 = .ok (.goto 11, 3) := by decide +kernel
theorem dX3_loopAndPortCodes_190 : decode cX3_loopAndPortCodes 190 = .ok (.aload_n 0, 1) := by decide +kernel
theorem dX3_loopAndPortCodes_191 : decode cX3_loopAndPortCodes 191 = .ok (.getfield 21, 3) := by decide +kernel
theorem dX3_loopAndPortCodes_194 : decode cX3_loopAndPortCodes 194 = .ok (.iconst 2, 1) := by decide +kernel
theorem dX3_loopAndPortCodes_195 : decode cX3_loopAndPortCodes 195 = .ok (.invokevirtual 139, 3) := by decide +kernel
theorem dX3_loopAndPortCodes_198 : decode cX3_loopAndPortCodes 198 = .ok (.invokevirtual 285, 3) := by decide +kernel
theorem dX3_loopAndPortCodes_201 : decode cX3_loopAndPortCodes 201 = .ok (.return_, 1) := by decide +kernel
theorem dX3_loop_0 : decode cX3_loop 0 = .ok (.aload_n 0, 1) := by decide +kernel
theorem dX3_loop_1 : decode cX3_loop 1 = .ok (.getfield 21, 3) := by decide +kernel
theorem dX3_loop_4 : decode cX3_loop 4 = .ok (.iconst 1, 1) := by decide +kernel
theorem dX3_loop_5 : decode cX3_loop 5 = .ok (.aload_n 0, 1) := by decide +kernel
theorem dX3_loop_6 : decode cX3_loop 6 = .ok (.getfield 21, 3) := by decide +kernel
theorem dX3_loop_9 : decode cX3_loop 9 = .ok (.iconst 1, 1) := by decide +kernel
theorem dX3_loop_10 : decode cX3_loop 10 = .ok (.invokevirtual 139, 3) := by decide +kernel
theorem dX3_loop_13 : decode cX3_loop 13 = .ok (.iconst 1, 1) := by decide +kernel
theorem dX3_loop_14 : decode cX3_loop 14 = .ok (.isub, 1) := by decide +kernel
theorem dX3_loop_15 : decode cX3_loop 15 = .ok (.invokevirtual 142, 3) := by decide +kernel
theorem dX3_loop_18 : decode cX3_loop 18 = .ok (.aload_n 0, 1) := by decide +kernel
theorem dX3_loop_19 : decode cX3_loop 19 = .ok (.getfield 35, 3) := by decide +kernel
theorem dX3_loop_22 : decode cX3_loop 22 = .ok (.getfield 47, 3) := by decide +kernel
theorem dX3_loop_25 : decode cX3_loop 25 = .ok (.sipush 226, 3) := by decide +kernel
theorem dX3_loop_28 : decode cX3_loop 28 = .ok (.if_icmp .eq 33, 3) := by decide +kernel
theorem dX3_loop_31 : decode cX3_loop 31 = .ok (.aload_n 0, 1) := by decide +kernel
theorem dX3_loop_32 : decode cX3_loop 32 = .ok (.getfield 28, 3) := by decide +kernel
theorem dX3_loop_35 : decode cX3_loop 35 = .ok (.bipush 64, 2) := by decide +kernel
theorem dX3_loop_37 : decode cX3_loop 37 = .ok (.invokevirtual 249, 3) := by decide +kernel
theorem dX3_loop_40 : decode cX3_loop 40 = .ok (.aload_n 0, 1) := by decide +kernel
theorem dX3_loop_41 : decode cX3_loop 41 = .ok (.getfield 35, 3) := by decide +kernel
theorem dX3_loop_44 : decode cX3_loop 44 = .ok (.getfield 47, 3) := by decide +kernel
theorem dX3_loop_47 : decode cX3_loop 47 = .ok (.sipush 225, 3) := by decide +kernel
theorem dX3_loop_50 : decode cX3_loop 50 = .ok (.if_icmp .ne 7, 3) := by decide +kernel
theorem dX3_loop_53 : decode cX3_loop 53 = .ok (.iconst 1, 1) := by decide +kernel
theorem dX3_loop_54 : decode cX3_loop 54 = .ok (.goto 4, 3) := by decide +kernel
theorem dX3_loop_57 : decode cX3_loop 57 = .ok (.iconst 0, 1) := by decide +kernel
theorem dX3_loop_58 : decode cX3_loop 58 = .ok (.if_icmp .ne 7, 3) := by decide +kernel
theorem dX3_loop_61 : decode cX3_loop 61 = .ok (.iconst 1, 1) := by decide +kernel
theorem dX3_loop_62 : decode cX3_loop 62 = .ok (.goto 4, 3) := by decide +kernel
theorem dX3_loop_65 : decode cX3_loop 65 = .ok (.iconst 0, 1) := by decide +kernel
theorem dX3_loop_66 : decode cX3_loop 66 = .ok (.istore_n 1, 1) := by decide +kernel
theorem dX3_loop_67 : decode cX3_loop 67 = .ok (.aload_n 0, 1) := by decide +kernel
theorem dX3_loop_68 : decode cX3_loop 68 = .ok (.aload_n 0, 1) := by decide +kernel
theorem dX3_loop_69 : decode cX3_loop 69 = .ok (.getfield 21, 3) := by decide +kernel
theorem dX3_loop_72 : decode cX3_loop 72 = .ok (.iconst 1, 1) := by decide +kernel
theorem dX3_loop_73 : decode cX3_loop 73 = .ok (.invokevirtual 139, 3) := by decide +kernel
theorem dX3_loop_76 : decode cX3_loop 76 = .ok (.ifCond .eq 11, 3) := by decide +kernel
theorem dX3_loop_79 : decode cX3_loop 79 = .ok (.iload_n 1, 1) := by decide +kernel
theorem dX3_loop_80 : decode cX3_loop 80 = .ok (.ifCond .eq 7, 3) := by decide +kernel
theorem dX3_loop_83 : decode cX3_loop 83 = .ok (.iconst 1, 1) := by decide +kernel
theorem dX3_loop_84 : decode cX3_loop 84 = .ok (.goto 4, 3) := by decide +kernel
theorem dX3_loop_87 : decode cX3_loop 87 = .ok (.iconst 0, 1) := by decide +kernel
theorem dX3_loop_88 : decode cX3_loop 88 = .ok (.invokevirtual 63, 3) := by decide +kernel
theorem dX3_loop_91 : decode cX3_loop 91 = .ok (.return_, 1) := by decide +kernel
theorem dX3_usePort_0 : decode cX3_usePort 0 = .ok (.aload_n 0, 1) := by decide +kernel
theorem dX3_usePort_1 : decode cX3_usePort 1 = .ok (.getfield 35, 3) := by decide +kernel
theorem dX3_usePort_4 : decode cX3_usePort 4 = .ok (.invokevirtual 188, 3) := by decide +kernel
theorem dX3_usePort_7 : decode cX3_usePort 7 = .ok (.istore_n 2, 1) := by decide +kernel
theorem dX3_usePort_8 : decode cX3_usePort 8 = .ok (.aload_n 0, 1) := by decide +kernel
theorem dX3_usePort_9 : decode cX3_usePort 9 = .ok (.getfield 35, 3) := by decide +kernel
theorem dX3_usePort_12 : decode cX3_usePort 12 = .ok (.getfield 47, 3) := by decide +kernel
theorem dX3_usePort_15 : decode cX3_usePort 15 = .ok (.iconst 2, 1) := by decide +kernel
theorem dX3_usePort_16 : decode cX3_usePort 16 = .ok (.iand, 1) := by decide +kernel
theorem dX3_usePort_17 : decode cX3_usePort 17 = .ok (.ifCond .eq 7, 3) := by decide +kernel
theorem dX3_usePort_20 : decode cX3_usePort 20 = .ok (.iconst 1, 1) := by decide +kernel
theorem dX3_usePort_21 : decode cX3_usePort 21 = .ok (.goto 4, 3) := by decide +kernel
theorem dX3_usePort_24 : decode cX3_usePort 24 = .ok (.iconst 0, 1) := by decide +kernel
theorem dX3_usePort_25 : decode cX3_usePort 25 = .ok (.istore_n 3, 1) := by decide +kernel
theorem dX3_usePort_26 : decode cX3_usePort 26 = .ok (.iload_n 3, 1) := by decide +kernel
theorem dX3_usePort_27 : decode cX3_usePort 27 = .ok (.ifCond .ne 37, 3) := by decide +kernel
theorem dX3_usePort_30 : decode cX3_usePort 30 = .ok (.aload_n 0, 1) := by decide +kernel
theorem dX3_usePort_31 : decode cX3_usePort 31 = .ok (.iload_n 2, 1) := by decide +kernel
theorem dX3_usePort_32 : decode cX3_usePort 32 = .ok (.ifCond .eq 22, 3) := by decide +kernel
theorem dX3_usePort_35 : decode cX3_usePort 35 = .ok (.aload_n 0, 1) := by decide +kernel
theorem dX3_usePort_36 : decode cX3_usePort 36 = .ok (.iload_n 1, 1) := by decide +kernel
theorem dX3_usePort_37 : decode cX3_usePort 37 = .ok (.invokevirtual 288, 3) := by decide +kernel
theorem dX3_usePort_40 : decode cX3_usePort 40 = .ok (.aload_n 0, 1) := by decide +kernel
theorem dX3_usePort_41 : decode cX3_usePort 41 = .ok (.iload_n 1, 1) := by decide +kernel
theorem dX3_usePort_42 : decode cX3_usePort 42 = .ok (.iconst 1, 1) := by decide +kernel
theorem dX3_usePort_43 : decode cX3_usePort 43 = .ok (.iadd, 1) := by decide +kernel
theorem dX3_usePort_44 : decode cX3_usePort 44 = .ok (.invokevirtual 288, 3) := by decide +kernel
theorem dX3_usePort_47 : decode cX3_usePort 47 = .ok (.bipush 8, 2) := by decide +kernel
theorem dX3_usePort_49 : decode cX3_usePort 49 = .ok (.ishl, 1) := by decide +kernel
theorem dX3_usePort_50 : decode cX3_usePort 50 = .ok (.ior, 1) := by decide +kernel
theorem dX3_usePort_51 : decode cX3_usePort 51 = .ok (.goto 8, 3) := by decide +kernel
theorem dX3_usePort_54 : decode cX3_usePort 54 = .ok (.aload_n 0, 1) := by decide +kernel
theorem dX3_usePort_55 : decode cX3_usePort 55 = .ok (.iload_n 1, 1) := by decide +kernel
theorem dX3_usePort_56 : decode cX3_usePort 56 = .ok (.invokevirtual 288, 3) := by decide +kernel
theorem dX3_usePort_59 : decode cX3_usePort 59 = .ok (.iload_n 2, 1) := by decide +kernel
theorem dX3_usePort_60 : decode cX3_usePort 60 = .ok (.invokevirtual 200, 3) := by decide +kernel
theorem dX3_usePort_63 : decode cX3_usePort 63 = .ok (.return_, 1) := by decide +kernel
theorem dX3_usePort_64 : decode cX3_usePort 64 = .ok (.aload_n 0, 1) := by decide +kernel
theorem dX3_usePort_65 : decode cX3_usePort 65 = .ok (.iload_n 1, 1) := by decide +kernel
theorem dX3_usePort_66 : decode cX3_usePort 66 = .ok (.aload_n 0, 1) := by decide +kernel
theorem dX3_usePort_67 : decode cX3_usePort 67 = .ok (.iconst 0, 1) := by decide +kernel
theorem dX3_usePort_68 : decode cX3_usePort 68 = .ok (.invokevirtual 197, 3) := by decide +kernel
theorem dX3_usePort_71 : decode cX3_usePort 71 = .ok (.invokevirtual 291, 3) := by decide +kernel
theorem dX3_usePort_74 : decode cX3_usePort 74 = .ok (.iload_n 2, 1) := by decide +kernel
theorem dX3_usePort_75 : decode cX3_usePort 75 = .ok (.ifCond .eq 18, 3) := by decide +kernel
theorem dX3_usePort_78 : decode cX3_usePort 78 = .ok (.aload_n 0, 1) := by decide +kernel
theorem dX3_usePort_79 : decode cX3_usePort 79 = .ok (.iload_n 1, 1) := by decide +kernel
theorem dX3_usePort_80 : decode cX3_usePort 80 = .ok (.iconst 1, 1) := by decide +kernel
theorem dX3_usePort_81 : decode cX3_usePort 81 = .ok (.iadd, 1) := by decide +kernel
theorem dX3_usePort_82 : decode cX3_usePort 82 = .ok (.aload_n 0, 1) := by decide +kernel
theorem dX3_usePort_83 : decode cX3_usePort 83 = .ok (.iconst 1, 1) := by decide +kernel
theorem dX3_usePort_84 : decode cX3_usePort 84 = .ok (.invokevirtual 197, 3) := by decide +kernel
theorem dX3_usePort_87 : decode cX3_usePort 87 = .ok (.bipush 8, 2) := by decide +kernel
theorem dX3_usePort_89 : decode cX3_usePort 89 = .ok (.ishr, 1) := by decide +kernel
theorem dX3_usePort_90 : decode cX3_usePort 90 = .ok (.invokevirtual 291, 3) := by decide +kernel
theorem dX3_usePort_93 : decode cX3_usePort 93 = .ok (.return_, 1) := by decide +kernel
theorem dX3_lastCodes_0 : decode cX3_lastCodes 0 = .ok (.aload_n 0, 1) := by decide +kernel
theorem dX3_lastCodes_1 : decode cX3_lastCodes 1 = .ok (.getfield 35, 3) := by decide +kernel
theorem dX3_lastCodes_4 : decode cX3_lastCodes 4 = .ok (.invokevirtual 188, 3) := by decide +kernel
theorem dX3_lastCodes_7 : decode cX3_lastCodes 7 = .ok (.istore_n 1, 1) := by decide +kernel
theorem dX3_lastCodes_8 : decode cX3_lastCodes 8 = .ok (.aload_n 0, 1) := by decide +kernel
theorem dX3_lastCodes_9 : decode cX3_lastCodes 9 = .ok (.getfield 35, 3) := by decide +kernel
theorem dX3_lastCodes_12 : decode cX3_lastCodes 12 = .ok (.getfield 47, 3) := by decide +kernel
theorem dX3_lastCodes_15 : decode cX3_lastCodes 15 = .ok (.tableswitch 135 244 253 #[53, 61, 88, 88, 95, 95, 107, 107, 121, 121], 53) := by decide +kernel
theorem dX3_lastCodes_68 : decode cX3_lastCodes 68 = .ok (.aload_n 0, 1) := by decide +kernel
theorem dX3_lastCodes_69 : decode cX3_lastCodes 69 = .ok (.iconst 1, 1) := by decide +kernel
theorem dX3_lastCodes_70 : decode cX3_lastCodes 70 = .ok (.putfield 294, 3) := by decide +kernel
theorem dX3_lastCodes_73 : decode cX3_lastCodes 73 = .ok (.goto 81, 3) := by decide +kernel
theorem dX3_lastCodes_76 : decode cX3_lastCodes 76 = .ok (.aload_n 0, 1) := by decide +kernel
theorem dX3_lastCodes_77 : decode cX3_lastCodes 77 = .ok (.getfield 28, 3) := by decide +kernel
theorem dX3_lastCodes_80 : decode cX3_lastCodes 80 = .ok (.iconst 1, 1) := by decide +kernel
theorem dX3_lastCodes_81 : decode cX3_lastCodes 81 = .ok (.aload_n 0, 1) := by decide +kernel
theorem dX3_lastCodes_82 : decode cX3_lastCodes 82 = .ok (.getfield 28, 3) := by decide +kernel
theorem dX3_lastCodes_85 : decode cX3_lastCodes 85 = .ok (.iconst 1, 1) := by decide +kernel
theorem dX3_lastCodes_86 : decode cX3_lastCodes 86 = .ok (.invokevirtual 249, 3) := by decide +kernel
theorem dX3_lastCodes_89 : decode cX3_lastCodes 89 = .ok (.ifCond .ne 7, 3) := by decide +kernel
theorem dX3_lastCodes_92 : decode cX3_lastCodes 92 = .ok (.iconst 1, 1) := by decide +kernel
theorem dX3_lastCodes_93 : decode cX3_lastCodes 93 = .ok (.goto 4, 3) := by decide +kernel
theorem dX3_lastCodes_96 : decode cX3_lastCodes 96 = .ok (.iconst 0, 1) := by decide +kernel
theorem dX3_lastCodes_97 : decode cX3_lastCodes 97 = .ok (.invokevirtual 113, 3) := by decide +kernel
theorem dX3_lastCodes_100 : decode cX3_lastCodes 100 = .ok (.goto 54, 3) := by decide +kernel
theorem dX3_lastCodes_103 : decode cX3_lastCodes 103 = .ok (.aload_n 0, 1) := by decide +kernel
theorem dX3_lastCodes_104 : decode cX3_lastCodes 104 = .ok (.invokevirtual 298, 3) := by decide +kernel
theorem dX3_lastCodes_107 : decode cX3_lastCodes 107 = .ok (.goto 47, 3) := by decide +kernel
theorem dX3_lastCodes_110 : decode cX3_lastCodes 110 = .ok (.aload_n 0, 1) := by decide +kernel
theorem dX3_lastCodes_111 : decode cX3_lastCodes 111 = .ok (.getfield 28, 3) := by decide +kernel
theorem dX3_lastCodes_114 : decode cX3_lastCodes 114 = .ok (.iconst 1, 1) := by decide +kernel
theorem dX3_lastCodes_115 : decode cX3_lastCodes 115 = .ok (.iload_n 1, 1) := by decide +kernel
theorem dX3_lastCodes_116 : decode cX3_lastCodes 116 = .ok (.invokevirtual 113, 3) := by decide +kernel
theorem dX3_lastCodes_119 : decode cX3_lastCodes 119 = .ok (.goto 35, 3) := by decide +kernel
theorem dX3_lastCodes_122 : decode cX3_lastCodes 122 = .ok (.aload_n 0, 1) := by decide +kernel
theorem dX3_lastCodes_123 : decode cX3_lastCodes 123 = .ok (.getfield 28, 3) := by decide +kernel
theorem dX3_lastCodes_126 : decode cX3_lastCodes 126 = .ok (.sipush 512, 3) := by decide +kernel
theorem dX3_lastCodes_129 : decode cX3_lastCodes 129 = .ok (.iload_n 1, 1) := by decide +kernel
theorem dX3_lastCodes_130 : decode cX3_lastCodes 130 = .ok (.invokevirtual 113, 3) := by decide +kernel
theorem dX3_lastCodes_133 : decode cX3_lastCodes 133 = .ok (.goto 21, 3) := by decide +kernel
theorem dX3_lastCodes_136 : decode cX3_lastCodes 136 = .ok (.aload_n 0, 1) := by decide +kernel
theorem dX3_lastCodes_137 : decode cX3_lastCodes 137 = .ok (.getfield 28, 3) := by decide +kernel
theorem dX3_lastCodes_140 : decode cX3_lastCodes 140 = .ok (.sipush 1024, 3) := by decide +kernel
theorem dX3_lastCodes_143 : decode cX3_lastCodes 143 = .ok (.iload_n 1, 1) := by decide +kernel
theorem dX3_lastCodes_144 : decode cX3_lastCodes 144 = .ok (.invokevirtual 113, 3) := by decide +kernel
theorem dX3_lastCodes_147 : decode cX3_lastCodes 147 = .ok (.goto 7, 3) := by decide +kernel
theorem dX3_lastCodes_150 : decode cX3_lastCodes 150 = .ok (.aload_n 0, 1) := by decide +kernel
theorem dX3_lastCodes_151 : decode cX3_lastCodes 151 = .ok (.invokevirtual 301, 3) := by decide +kernel
theorem dX3_lastCodes_154 : decode cX3_lastCodes 154 = .ok (.return_, 1) := by decide +kernel
theorem dX3_codesF6_0 : decode cX3_codesF6 0 = .ok (.aload_n 0, 1) := by decide +kernel
theorem dX3_codesF6_1 : decode cX3_codesF6 1 = .ok (.getfield 35, 3) := by decide +kernel
theorem dX3_codesF6_4 : decode cX3_codesF6 4 = .ok (.invokevirtual 188, 3) := by decide +kernel
theorem dX3_codesF6_7 : decode cX3_codesF6 7 = .ok (.istore_n 1, 1) := by decide +kernel
theorem dX3_codesF6_8 : decode cX3_codesF6 8 = .ok (.aload_n 0, 1) := by decide +kernel
theorem dX3_codesF6_9 : decode cX3_codesF6 9 = .ok (.getfield 35, 3) := by decide +kernel
theorem dX3_codesF6_12 : decode cX3_codesF6 12 = .ok (.getfield 191, 3) := by decide +kernel
theorem dX3_codesF6_15 : decode cX3_codesF6 15 = .ok (.tableswitch 134 0 5 #[37, 37, 63, 87, 111, 111], 37) := by decide +kernel
theorem dX3_codesF6_52 : decode cX3_codesF6 52 = .ok (.aload_n 0, 1) := by decide +kernel
theorem dX3_codesF6_53 : decode cX3_codesF6 53 = .ok (.getfield 28, 3) := by decide +kernel
theorem dX3_codesF6_56 : decode cX3_codesF6 56 = .ok (.bipush 8, 2) := by decide +kernel
theorem dX3_codesF6_58 : decode cX3_codesF6 58 = .ok (.aload_n 0, 1) := by decide +kernel
theorem dX3_codesF6_59 : decode cX3_codesF6 59 = .ok (.iload_n 1, 1) := by decide +kernel
theorem dX3_codesF6_60 : decode cX3_codesF6 60 = .ok (.invokevirtual 168, 3) := by decide +kernel
theorem dX3_codesF6_63 : decode cX3_codesF6 63 = .ok (.aload_n 0, 1) := by decide +kernel
theorem dX3_codesF6_64 : decode cX3_codesF6 64 = .ok (.getfield 35, 3) := by decide +kernel
theorem dX3_codesF6_67 : decode cX3_codesF6 67 = .ok (.getfield 83, 3) := by decide +kernel
theorem dX3_codesF6_70 : decode cX3_codesF6 70 = .ok (.iload_n 1, 1) := by decide +kernel
theorem dX3_codesF6_71 : decode cX3_codesF6 71 = .ok (.invokevirtual 172, 3) := by decide +kernel
theorem dX3_codesF6_74 : decode cX3_codesF6 74 = .ok (.pop, 1) := by decide +kernel
theorem dX3_codesF6_75 : decode cX3_codesF6 75 = .ok (.goto 95, 3) := by decide +kernel
theorem dX3_codesF6_78 : decode cX3_codesF6 78 = .ok (.aload_n 0, 1) := by decide +kernel
theorem dX3_codesF6_79 : decode cX3_codesF6 79 = .ok (.aload_n 0, 1) := by decide +kernel
theorem dX3_codesF6_80 : decode cX3_codesF6 80 = .ok (.getfield 28, 3) := by decide +kernel
theorem dX3_codesF6_83 : decode cX3_codesF6 83 = .ok (.bipush 12, 2) := by decide +kernel
theorem dX3_codesF6_85 : decode cX3_codesF6 85 = .ok (.aload_n 0, 1) := by decide +kernel
theorem dX3_codesF6_86 : decode cX3_codesF6 86 = .ok (.iload_n 1, 1) := by decide +kernel
theorem dX3_codesF6_87 : decode cX3_codesF6 87 = .ok (.invokevirtual 168, 3) := by decide +kernel
theorem dX3_codesF6_90 : decode cX3_codesF6 90 = .ok (.iconst 0, 1) := by decide +kernel
theorem dX3_codesF6_91 : decode cX3_codesF6 91 = .ok (.iload_n 1, 1) := by decide +kernel
theorem dX3_codesF6_92 : decode cX3_codesF6 92 = .ok (.invokevirtual 172, 3) := by decide +kernel
theorem dX3_codesF6_95 : decode cX3_codesF6 95 = .ok (.iload_n 1, 1) := by decide +kernel
theorem dX3_codesF6_96 : decode cX3_codesF6 96 = .ok (.invokevirtual 176, 3) := by decide +kernel
theorem dX3_codesF6_99 : decode cX3_codesF6 99 = .ok (.goto 71, 3) := by decide +kernel
theorem dX3_codesF6_102 : decode cX3_codesF6 102 = .ok (.aload_n 0, 1) := by decide +kernel
theorem dX3_codesF6_103 : decode cX3_codesF6 103 = .ok (.aload_n 0, 1) := by decide +kernel
theorem dX3_codesF6_104 : decode cX3_codesF6 104 = .ok (.getfield 28, 3) := by decide +kernel
theorem dX3_codesF6_107 : decode cX3_codesF6 107 = .ok (.bipush 11, 2) := by decide +kernel
theorem dX3_codesF6_109 : decode cX3_codesF6 109 = .ok (.aload_n 0, 1) := by decide +kernel
theorem dX3_codesF6_110 : decode cX3_codesF6 110 = .ok (.iload_n 1, 1) := by decide +kernel
theorem dX3_codesF6_111 : decode cX3_codesF6 111 = .ok (.invokevirtual 168, 3) := by decide +kernel
theorem dX3_codesF6_114 : decode cX3_codesF6 114 = .ok (.iconst 0, 1) := by decide +kernel
theorem dX3_codesF6_115 : decode cX3_codesF6 115 = .ok (.iload_n 1, 1) := by decide +kernel
theorem dX3_codesF6_116 : decode cX3_codesF6 116 = .ok (.invokevirtual 172, 3) := by decide +kernel
theorem dX3_codesF6_119 : decode cX3_codesF6 119 = .ok (.iload_n 1, 1) := by decide +kernel
theorem dX3_codesF6_120 : decode cX3_codesF6 120 = .ok (.invokevirtual 176, 3) := by decide +kernel
theorem dX3_codesF6_123 : decode cX3_codesF6 123 = .ok (.goto 47, 3) := by decide +kernel
theorem dX3_codesF6_126 : decode cX3_codesF6 126 = .ok (.aload_n 0, 1) := by decide +kernel
theorem dX3_codesF6_127 : decode cX3_codesF6 127 = .ok (.aload_n 0, 1) := by decide +kernel
theorem dX3_codesF6_128 : decode cX3_codesF6 128 = .ok (.getfield 35, 3) := by decide +kernel
theorem dX3_codesF6_131 : decode cX3_codesF6 131 = .ok (.getfield 191, 3) := by decide +kernel
theorem dX3_codesF6_134 : decode cX3_codesF6 134 = .ok (.iconst 5, 1) := by decide +kernel
theorem dX3_codesF6_135 : decode cX3_codesF6 135 = .ok (.if_icmp .ne 7, 3) := by decide +kernel
theorem dX3_codesF6_138 : decode cX3_codesF6 138 = .ok (.iconst 1, 1) := by decide +kernel
theorem dX3_codesF6_139 : decode cX3_codesF6 139 = .ok (.goto 4, 3) := by decide +kernel
theorem dX3_codesF6_142 : decode cX3_codesF6 142 = .ok (.iconst 0, 1) := by decide +kernel
theorem dX3_codesF6_143 : decode cX3_codesF6 143 = .ok (.invokevirtual 304, 3) := by decide +kernel
theorem dX3_codesF6_146 : decode cX3_codesF6 146 = .ok (.goto 24, 3) := by decide +kernel
theorem dX3_codesF6_149 : decode cX3_codesF6 149 = .ok (.aload_n 0, 1) := by decide +kernel
theorem dX3_codesF6_150 : decode cX3_codesF6 150 = .ok (.aload_n 0, 1) := by decide +kernel
theorem dX3_codesF6_151 : decode cX3_codesF6 151 = .ok (.getfield 35, 3) := by decide +kernel
theorem dX3_codesF6_154 : decode cX3_codesF6 154 = .ok (.getfield 191, 3) := by decide +kernel
theorem dX3_codesF6_157 : decode cX3_codesF6 157 = .ok (.bipush 7, 2) := by decide +kernel
theorem dX3_codesF6_159 : decode cX3_codesF6 159 = .ok (.if_icmp .ne 7, 3) := by decide +kernel
theorem dX3_codesF6_162 : decode cX3_codesF6 162 = .ok (.iconst 1, 1) := by decide +kernel
theorem dX3_codesF6_163 : decode cX3_codesF6 163 = .ok (.goto 4, 3) := by decide +kernel
theorem dX3_codesF6_166 : decode cX3_codesF6 166 = .ok (.iconst 0, 1) := by decide +kernel
theorem dX3_codesF6_167 : decode cX3_codesF6 167 = .ok (.invokevirtual 307, 3) := by decide +kernel
theorem dX3_codesF6_170 : decode cX3_codesF6 170 = .ok (.return_, 1) := by decide +kernel
theorem dX3_multiply_0 : decode cX3_multiply 0 = .ok (.aload_n 0, 1) := by decide +kernel
theorem dX3_multiply_1 : decode cX3_multiply 1 = .ok (.getfield 35, 3) := by decide +kernel
theorem dX3_multiply_4 : decode cX3_multiply 4 = .ok (.invokevirtual 188, 3) := by decide +kernel
theorem dX3_multiply_7 : decode cX3_multiply 7 = .ok (.istore_n 2, 1) := by decide +kernel
theorem dX3_multiply_8 : decode cX3_multiply 8 = .ok (.aload_n 0, 1) := by decide +kernel
theorem dX3_multiply_9 : decode cX3_multiply 9 = .ok (.getfield 28, 3) := by decide +kernel
theorem dX3_multiply_12 : decode cX3_multiply 12 = .ok (.aload_n 0, 1) := by decide +kernel
theorem dX3_multiply_13 : decode cX3_multiply 13 = .ok (.iload_n 2, 1) := by decide +kernel
theorem dX3_multiply_14 : decode cX3_multiply 14 = .ok (.invokevirtual 197, 3) := by decide +kernel
theorem dX3_multiply_17 : decode cX3_multiply 17 = .ok (.aload_n 0, 1) := by decide +kernel
theorem dX3_multiply_18 : decode cX3_multiply 18 = .ok (.iload_n 2, 1) := by decide +kernel
theorem dX3_multiply_19 : decode cX3_multiply 19 = .ok (.invokevirtual 168, 3) := by decide +kernel
theorem dX3_multiply_22 : decode cX3_multiply 22 = .ok (.iload_n 2, 1) := by decide +kernel
theorem dX3_multiply_23 : decode cX3_multiply 23 = .ok (.iload_n 1, 1) := by decide +kernel
theorem dX3_multiply_24 : decode cX3_multiply 24 = .ok (.invokevirtual 310, 3) := by decide +kernel
theorem dX3_multiply_27 : decode cX3_multiply 27 = .ok (.istore_n 3, 1) := by decide +kernel
theorem dX3_multiply_28 : decode cX3_multiply 28 = .ok (.aload_n 0, 1) := by decide +kernel
theorem dX3_multiply_29 : decode cX3_multiply 29 = .ok (.iload_n 3, 1) := by decide +kernel
theorem dX3_multiply_30 : decode cX3_multiply 30 = .ok (.iconst 1, 1) := by decide +kernel
theorem dX3_multiply_31 : decode cX3_multiply 31 = .ok (.invokevirtual 200, 3) := by decide +kernel
theorem dX3_multiply_34 : decode cX3_multiply 34 = .ok (.iload_n 2, 1) := by decide +kernel
theorem dX3_multiply_35 : decode cX3_multiply 35 = .ok (.ifCond .eq 15, 3) := by decide +kernel
theorem dX3_multiply_38 : decode cX3_multiply 38 = .ok (.aload_n 0, 1) := by decide +kernel
theorem dX3_multiply_39 : decode cX3_multiply 39 = .ok (.getfield 21, 3) := by decide +kernel
theorem dX3_multiply_42 : decode cX3_multiply 42 = .ok (.iconst 2, 1) := by decide +kernel
theorem dX3_multiply_43 : decode cX3_multiply 43 = .ok (.iload_n 3, 1) := by decide +kernel
theorem dX3_multiply_44 : decode cX3_multiply 44 = .ok (.bipush 16, 2) := by decide +kernel
theorem dX3_multiply_46 : decode cX3_multiply 46 = .ok (.ishr, 1) := by decide +kernel
theorem dX3_multiply_47 : decode cX3_multiply 47 = .ok (.invokevirtual 142, 3) := by decide +kernel
theorem dX3_multiply_50 : decode cX3_multiply 50 = .ok (.return_, 1) := by decide +kernel
theorem dX3_divide_0 : decode cX3_divide 0 = .ok (.aload_n 0, 1) := by decide +kernel
theorem dX3_divide_1 : decode cX3_divide 1 = .ok (.getfield 35, 3) := by decide +kernel
theorem dX3_divide_4 : decode cX3_divide 4 = .ok (.invokevirtual 188, 3) := by decide +kernel
theorem dX3_divide_7 : decode cX3_divide 7 = .ok (.istore_n 2, 1) := by decide +kernel
theorem dX3_divide_8 : decode cX3_divide 8 = .ok (.iload_n 1, 1) := by decide +kernel
theorem dX3_divide_9 : decode cX3_divide 9 = .ok (.ifCond .eq 16, 3) := by decide +kernel
theorem dX3_divide_12 : decode cX3_divide 12 = .ok (.aload_n 0, 1) := by decide +kernel
theorem dX3_divide_13 : decode cX3_divide 13 = .ok (.iload_n 2, 1) := by decide +kernel
theorem dX3_divide_14 : decode cX3_divide 14 = .ok (.invokevirtual 168, 3) := by decide +kernel
theorem dX3_divide_17 : decode cX3_divide 17 = .ok (.iload_n 2, 1) := by decide +kernel
theorem dX3_divide_18 : decode cX3_divide 18 = .ok (.invokestatic 179, 3) := by decide +kernel
theorem dX3_divide_21 : decode cX3_divide 21 = .ok (.i2l, 1) := by decide +kernel
theorem dX3_divide_22 : decode cX3_divide 22 = .ok (.goto 9, 3) := by decide +kernel
theorem dX3_divide_25 : decode cX3_divide 25 = .ok (.aload_n 0, 1) := by decide +kernel
theorem dX3_divide_26 : decode cX3_divide 26 = .ok (.iload_n 2, 1) := by decide +kernel
theorem dX3_divide_27 : decode cX3_divide 27 = .ok (.invokevirtual 168, 3) := by decide +kernel
theorem dX3_divide_30 : decode cX3_divide 30 = .ok (.i2l, 1) := by decide +kernel
theorem dX3_divide_31 : decode cX3_divide 31 = .ok (.lstore_n 3, 1) := by decide +kernel
theorem dX3_divide_32 : decode cX3_divide 32 = .ok (.lload_n 3, 1) := by decide +kernel
theorem dX3_divide_33 : decode cX3_divide 33 = .ok (.lconst 0, 1) := by decide +kernel
theorem dX3_divide_34 : decode cX3_divide 34 = .ok (.lcmp, 1) := by decide +kernel
theorem dX3_divide_35 : decode cX3_divide 35 = .ok (.ifCond .ne 9, 3) := by decide +kernel
theorem dX3_divide_38 : decode cX3_divide 38 = .ok (.aload_n 0, 1) := by decide +kernel
theorem dX3_divide_39 : decode cX3_divide 39 = .ok (.iconst 0, 1) := by decide +kernel
theorem dX3_divide_40 : decode cX3_divide 40 = .ok (.putfield 43, 3) := by decide +kernel
theorem dX3_divide_43 : decode cX3_divide 43 = .ok (.return_, 1) := by decide +kernel
theorem dX3_divide_44 : decode cX3_divide 44 = .ok (.aload_n 0, 1) := by decide +kernel
theorem dX3_divide_45 : decode cX3_divide 45 = .ok (.iload_n 2, 1) := by decide +kernel
theorem dX3_divide_46 : decode cX3_divide 46 = .ok (.iload_n 1, 1) := by decide +kernel
theorem dX3_divide_47 : decode cX3_divide 47 = .ok (.invokevirtual 314, 3) := by decide +kernel
theorem dX3_divide_50 : decode cX3_divide 50 = .ok (.lstore 5, 2) := by decide +kernel
theorem dX3_divide_52 : decode cX3_divide 52 = .ok (.lload 5, 2) := by decide +kernel
theorem dX3_divide_54 : decode cX3_divide 54 = .ok (.lload_n 3, 1) := by decide +kernel
theorem dX3_divide_55 : decode cX3_divide 55 = .ok (.ldiv, 1) := by decide +kernel
theorem dX3_divide_56 : decode cX3_divide 56 = .ok (.lstore 7, 2) := by decide +kernel
theorem dX3_divide_58 : decode cX3_divide 58 = .ok (.lload 7, 2) := by decide +kernel
theorem dX3_divide_60 : decode cX3_divide 60 = .ok (.iload_n 2, 1) := by decide +kernel
theorem dX3_divide_61 : decode cX3_divide 61 = .ok (.iload_n 1, 1) := by decide +kernel
theorem dX3_divide_62 : decode cX3_divide 62 = .ok (.invokestatic 318, 3) := by decide +kernel
theorem dX3_divide_65 : decode cX3_divide 65 = .ok (.ifCond .ne 9, 3) := by decide +kernel
theorem dX3_divide_68 : decode cX3_divide 68 = .ok (.aload_n 0, 1) := by decide +kernel
theorem dX3_divide_69 : decode cX3_divide 69 = .ok (.iconst 0, 1) := by decide +kernel
theorem dX3_divide_70 : decode cX3_divide 70 = .ok (.putfield 43, 3) := by decide +kernel
theorem dX3_divide_73 : decode cX3_divide 73 = .ok (.return_, 1) := by decide +kernel
theorem dX3_divide_74 : decode cX3_divide 74 = .ok (.aload_n 0, 1) := by decide +kernel
theorem dX3_divide_75 : decode cX3_divide 75 = .ok (.lload 7, 2) := by decide +kernel
theorem dX3_divide_77 : decode cX3_divide 77 = .ok (.l2i, 1) := by decide +kernel
theorem dX3_divide_78 : decode cX3_divide 78 = .ok (.iload_n 2, 1) := by decide +kernel
theorem dX3_divide_79 : decode cX3_divide 79 = .ok (.invokevirtual 200, 3) := by decide +kernel
theorem dX3_divide_82 : decode cX3_divide 82 = .ok (.aload_n 0, 1) := by decide +kernel
theorem dX3_divide_83 : decode cX3_divide 83 = .ok (.getfield 21, 3) := by decide +kernel
theorem dX3_divide_86 : decode cX3_divide 86 = .ok (.iload_n 2, 1) := by decide +kernel
theorem dX3_divide_87 : decode cX3_divide 87 = .ok (.ifCond .eq 7, 3) := by decide +kernel
theorem dX3_divide_90 : decode cX3_divide 90 = .ok (.iconst 2, 1) := by decide +kernel
theorem dX3_divide_91 : decode cX3_divide 91 = .ok (.goto 4, 3) := by decide +kernel
theorem dX3_divide_94 : decode cX3_divide 94 = .ok (.iconst 4, 1) := by decide +kernel
theorem dX3_divide_95 : decode cX3_divide 95 = .ok (.lload 5, 2) := by decide +kernel
theorem dX3_divide_97 : decode cX3_divide 97 = .ok (.lload_n 3, 1) := by decide +kernel
theorem dX3_divide_98 : decode cX3_divide 98 = .ok (.lrem, 1) := by decide +kernel
theorem dX3_divide_99 : decode cX3_divide 99 = .ok (.l2i, 1) := by decide +kernel
theorem dX3_divide_100 : decode cX3_divide 100 = .ok (.iload_n 2, 1) := by decide +kernel
theorem dX3_divide_101 : decode cX3_divide 101 = .ok (.invokevirtual 86, 3) := by decide +kernel
theorem dX3_divide_104 : decode cX3_divide 104 = .ok (.return_, 1) := by decide +kernel
theorem dX3_dividend_0 : decode cX3_dividend 0 = .ok (.iload_n 1, 1) := by decide +kernel
theorem dX3_dividend_1 : decode cX3_dividend 1 = .ok (.ifCond .ne 27, 3) := by decide +kernel
theorem dX3_dividend_4 : decode cX3_dividend 4 = .ok (.iload_n 2, 1) := by decide +kernel
theorem dX3_dividend_5 : decode cX3_dividend 5 = .ok (.ifCond .eq 16, 3) := by decide +kernel
theorem dX3_dividend_8 : decode cX3_dividend 8 = .ok (.aload_n 0, 1) := by decide +kernel
theorem dX3_dividend_9 : decode cX3_dividend 9 = .ok (.iconst 1, 1) := by decide +kernel
theorem dX3_dividend_10 : decode cX3_dividend 10 = .ok (.invokevirtual 197, 3) := by decide +kernel
theorem dX3_dividend_13 : decode cX3_dividend 13 = .ok (.iconst 1, 1) := by decide +kernel
theorem dX3_dividend_14 : decode cX3_dividend 14 = .ok (.invokestatic 179, 3) := by decide +kernel
theorem dX3_dividend_17 : decode cX3_dividend 17 = .ok (.i2l, 1) := by decide +kernel
theorem dX3_dividend_18 : decode cX3_dividend 18 = .ok (.goto 9, 3) := by decide +kernel
theorem dX3_dividend_21 : decode cX3_dividend 21 = .ok (.aload_n 0, 1) := by decide +kernel
theorem dX3_dividend_22 : decode cX3_dividend 22 = .ok (.iconst 1, 1) := by decide +kernel
theorem dX3_dividend_23 : decode cX3_dividend 23 = .ok (.invokevirtual 197, 3) := by decide +kernel
theorem dX3_dividend_26 : decode cX3_dividend 26 = .ok (.i2l, 1) := by decide +kernel
theorem dX3_dividend_27 : decode cX3_dividend 27 = .ok (.lreturn, 1) := by decide +kernel
theorem dX3_dividend_28 : decode cX3_dividend 28 = .ok (.aload_n 0, 1) := by decide +kernel
theorem dX3_dividend_29 : decode cX3_dividend 29 = .ok (.getfield 21, 3) := by decide +kernel
theorem dX3_dividend_32 : decode cX3_dividend 32 = .ok (.iconst 2, 1) := by decide +kernel
theorem dX3_dividend_33 : decode cX3_dividend 33 = .ok (.invokevirtual 139, 3) := by decide +kernel
theorem dX3_dividend_36 : decode cX3_dividend 36 = .ok (.bipush 16, 2) := by decide +kernel
theorem dX3_dividend_38 : decode cX3_dividend 38 = .ok (.ishl, 1) := by decide +kernel
theorem dX3_dividend_39 : decode cX3_dividend 39 = .ok (.aload_n 0, 1) := by decide +kernel
theorem dX3_dividend_40 : decode cX3_dividend 40 = .ok (.iconst 1, 1) := by decide +kernel
theorem dX3_dividend_41 : decode cX3_dividend 41 = .ok (.invokevirtual 197, 3) := by decide +kernel
theorem dX3_dividend_44 : decode cX3_dividend 44 = .ok (.ior, 1) := by decide +kernel
theorem dX3_dividend_45 : decode cX3_dividend 45 = .ok (.istore_n 3, 1) := by decide +kernel
theorem dX3_dividend_46 : decode cX3_dividend 46 = .ok (.iload_n 2, 1) := by decide +kernel
theorem dX3_dividend_47 : decode cX3_dividend 47 = .ok (.ifCond .eq 8, 3) := by decide +kernel
theorem dX3_dividend_50 : decode cX3_dividend 50 = .ok (.iload_n 3, 1) := by decide +kernel
theorem dX3_dividend_51 : decode cX3_dividend 51 = .ok (.i2l, 1) := by decide +kernel
theorem dX3_dividend_52 : decode cX3_dividend 52 = .ok (.goto 9, 3) := by decide +kernel
theorem dX3_dividend_55 : decode cX3_dividend 55 = .ok (.iload_n 3, 1) := by decide +kernel
theorem dX3_dividend_56 : decode cX3_dividend 56 = .ok (.i2l, 1) := by decide +kernel
theorem dX3_dividend_57 : decode cX3_dividend 57 = .ok (.ldc2_w 322, 3) := by decide +kernel
theorem dX3_dividend_60 : decode cX3_dividend 60 = .ok (.land, 1) := by decide +kernel
theorem dX3_dividend_61 : decode cX3_dividend 61 = .ok (.lreturn, 1) := by decide +kernel
theorem dX3_codesFE_0 : decode cX3_codesFE 0 = .ok (.aload_n 0, 1) := by decide +kernel
theorem dX3_codesFE_1 : decode cX3_codesFE 1 = .ok (.getfield 35, 3) := by decide +kernel
theorem dX3_codesFE_4 : decode cX3_codesFE 4 = .ok (.invokevirtual 188, 3) := by decide +kernel
theorem dX3_codesFE_7 : decode cX3_codesFE 7 = .ok (.istore_n 1, 1) := by decide +kernel
theorem dX3_codesFE_8 : decode cX3_codesFE 8 = .ok (.aload_n 0, 1) := by decide +kernel
theorem dX3_codesFE_9 : decode cX3_codesFE 9 = .ok (.getfield 35, 3) := by decide +kernel
theorem dX3_codesFE_12 : decode cX3_codesFE 12 = .ok (.getfield 191, 3) := by decide +kernel
theorem dX3_codesFE_15 : decode cX3_codesFE 15 = .ok (.tableswitch 149 0 5 #[37, 37, 74, 102, 118, 133], 37) := by decide +kernel
theorem dX3_codesFE_52 : decode cX3_codesFE 52 = .ok (.aload_n 0, 1) := by decide +kernel
theorem dX3_codesFE_53 : decode cX3_codesFE 53 = .ok (.aload_n 0, 1) := by decide +kernel
theorem dX3_codesFE_54 : decode cX3_codesFE 54 = .ok (.getfield 28, 3) := by decide +kernel
theorem dX3_codesFE_57 : decode cX3_codesFE 57 = .ok (.aload_n 0, 1) := by decide +kernel
theorem dX3_codesFE_58 : decode cX3_codesFE 58 = .ok (.iload_n 1, 1) := by decide +kernel
theorem dX3_codesFE_59 : decode cX3_codesFE 59 = .ok (.invokevirtual 168, 3) := by decide +kernel
theorem dX3_codesFE_62 : decode cX3_codesFE 62 = .ok (.aload_n 0, 1) := by decide +kernel
theorem dX3_codesFE_63 : decode cX3_codesFE 63 = .ok (.getfield 35, 3) := by decide +kernel
theorem dX3_codesFE_66 : decode cX3_codesFE 66 = .ok (.getfield 191, 3) := by decide +kernel
theorem dX3_codesFE_69 : decode cX3_codesFE 69 = .ok (.iconst 1, 1) := by decide +kernel
theorem dX3_codesFE_70 : decode cX3_codesFE 70 = .ok (.if_icmp .ne 7, 3) := by decide +kernel
theorem dX3_codesFE_73 : decode cX3_codesFE 73 = .ok (.iconst 1, 1) := by decide +kernel
theorem dX3_codesFE_74 : decode cX3_codesFE 74 = .ok (.goto 4, 3) := by decide +kernel
theorem dX3_codesFE_77 : decode cX3_codesFE 77 = .ok (.iconst 0, 1) := by decide +kernel
theorem dX3_codesFE_78 : decode cX3_codesFE 78 = .ok (.iload_n 1, 1) := by decide +kernel
theorem dX3_codesFE_79 : decode cX3_codesFE 79 = .ok (.invokevirtual 210, 3) := by decide +kernel
theorem dX3_codesFE_82 : decode cX3_codesFE 82 = .ok (.iload_n 1, 1) := by decide +kernel
theorem dX3_codesFE_83 : decode cX3_codesFE 83 = .ok (.invokevirtual 176, 3) := by decide +kernel
theorem dX3_codesFE_86 : decode cX3_codesFE 86 = .ok (.goto 111, 3) := by decide +kernel
theorem dX3_codesFE_89 : decode cX3_codesFE 89 = .ok (.aload_n 0, 1) := by decide +kernel
theorem dX3_codesFE_90 : decode cX3_codesFE 90 = .ok (.iconst 1, 1) := by decide +kernel
theorem dX3_codesFE_91 : decode cX3_codesFE 91 = .ok (.invokevirtual 168, 3) := by decide +kernel
theorem dX3_codesFE_94 : decode cX3_codesFE 94 = .ok (.istore_n 2, 1) := by decide +kernel
theorem dX3_codesFE_95 : decode cX3_codesFE 95 = .ok (.aload_n 0, 1) := by decide +kernel
theorem dX3_codesFE_96 : decode cX3_codesFE 96 = .ok (.aload_n 0, 1) := by decide +kernel
theorem dX3_codesFE_97 : decode cX3_codesFE 97 = .ok (.getfield 21, 3) := by decide +kernel
theorem dX3_codesFE_100 : decode cX3_codesFE 100 = .ok (.getfield 121, 3) := by decide +kernel
theorem dX3_codesFE_103 : decode cX3_codesFE 103 = .ok (.invokevirtual 110, 3) := by decide +kernel
theorem dX3_codesFE_106 : decode cX3_codesFE 106 = .ok (.aload_n 0, 1) := by decide +kernel
theorem dX3_codesFE_107 : decode cX3_codesFE 107 = .ok (.getfield 21, 3) := by decide +kernel
theorem dX3_codesFE_110 : decode cX3_codesFE 110 = .ok (.iload_n 2, 1) := by decide +kernel
theorem dX3_codesFE_111 : decode cX3_codesFE 111 = .ok (.invokevirtual 128, 3) := by decide +kernel
theorem dX3_codesFE_114 : decode cX3_codesFE 114 = .ok (.goto 83, 3) := by decide +kernel
theorem dX3_codesFE_117 : decode cX3_codesFE 117 = .ok (.aload_n 0, 1) := by decide +kernel
theorem dX3_codesFE_118 : decode cX3_codesFE 118 = .ok (.aload_n 0, 1) := by decide +kernel
theorem dX3_codesFE_119 : decode cX3_codesFE 119 = .ok (.iconst 1, 1) := by decide +kernel
theorem dX3_codesFE_120 : decode cX3_codesFE 120 = .ok (.invokevirtual 168, 3) := by decide +kernel
theorem dX3_codesFE_123 : decode cX3_codesFE 123 = .ok (.aload_n 0, 1) := by decide +kernel
theorem dX3_codesFE_124 : decode cX3_codesFE 124 = .ok (.invokevirtual 276, 3) := by decide +kernel
theorem dX3_codesFE_127 : decode cX3_codesFE 127 = .ok (.invokevirtual 224, 3) := by decide +kernel
theorem dX3_codesFE_130 : decode cX3_codesFE 130 = .ok (.goto 67, 3) := by decide +kernel
theorem dX3_codesFE_133 : decode cX3_codesFE 133 = .ok (.aload_n 0, 1) := by decide +kernel
theorem dX3_codesFE_134 : decode cX3_codesFE 134 = .ok (.getfield 21, 3) := by decide +kernel
theorem dX3_codesFE_137 : decode cX3_codesFE 137 = .ok (.aload_n 0, 1) := by decide +kernel
theorem dX3_codesFE_138 : decode cX3_codesFE 138 = .ok (.iconst 1, 1) := by decide +kernel
theorem dX3_codesFE_139 : decode cX3_codesFE 139 = .ok (.invokevirtual 168, 3) := by decide +kernel
theorem dX3_codesFE_142 : decode cX3_codesFE 142 = .ok (.invokevirtual 128, 3) := by decide +kernel
theorem dX3_codesFE_145 : decode cX3_codesFE 145 = .ok (.goto 52, 3) := by decide +kernel
theorem dX3_codesFE_148 : decode cX3_codesFE 148 = .ok (.aload_n 0, 1) := by decide +kernel
theorem dX3_codesFE_149 : decode cX3_codesFE 149 = .ok (.aload_n 0, 1) := by decide +kernel
theorem dX3_codesFE_150 : decode cX3_codesFE 150 = .ok (.iconst 1, 1) := by decide +kernel
theorem dX3_codesFE_151 : decode cX3_codesFE 151 = .ok (.invokevirtual 168, 3) := by decide +kernel
theorem dX3_codesFE_154 : decode cX3_codesFE 154 = .ok (.aload_n 0, 1) := by decide +kernel
theorem dX3_codesFE_155 : decode cX3_codesFE 155 = .ok (.invokevirtual 276, 3) := by decide +kernel
theorem dX3_codesFE_158 : decode cX3_codesFE 158 = .ok (.invokevirtual 185, 3) := by decide +kernel
theorem dX3_codesFE_161 : decode cX3_codesFE 161 = .ok (.goto 36, 3) := by decide +kernel
theorem dX3_codesFE_164 : decode cX3_codesFE 164 = .ok (.aload_n 0, 1) := by decide +kernel
theorem dX3_codesFE_165 : decode cX3_codesFE 165 = .ok (.aload_n 0, 1) := by decide +kernel
theorem dX3_codesFE_166 : decode cX3_codesFE 166 = .ok (.getfield 35, 3) := by decide +kernel
theorem dX3_codesFE_169 : decode cX3_codesFE 169 = .ok (.invokevirtual 152, 3) := by decide +kernel
theorem dX3_codesFE_172 : decode cX3_codesFE 172 = .ok (.ifCond .eq 17, 3) := by decide +kernel
theorem dX3_codesFE_175 : decode cX3_codesFE 175 = .ok (.aload_n 0, 1) := by decide +kernel
theorem dX3_codesFE_176 : decode cX3_codesFE 176 = .ok (.aload_n 0, 1) := by decide +kernel
theorem dX3_codesFE_177 : decode cX3_codesFE 177 = .ok (.getfield 35, 3) := by decide +kernel
theorem dX3_codesFE_180 : decode cX3_codesFE 180 = .ok (.getfield 155, 3) := by decide +kernel
theorem dX3_codesFE_183 : decode cX3_codesFE 183 = .ok (.invokevirtual 214, 3) := by decide +kernel
theorem dX3_codesFE_186 : decode cX3_codesFE 186 = .ok (.goto 8, 3) := by decide +kernel
theorem dX3_codesFE_189 : decode cX3_codesFE 189 = .ok (.aload_n 0, 1) := by decide +kernel
theorem dX3_codesFE_190 : decode cX3_codesFE 190 = .ok (.iconst 1, 1) := by decide +kernel
theorem dX3_codesFE_191 : decode cX3_codesFE 191 = .ok (.invokevirtual 168, 3) := by decide +kernel
theorem dX3_codesFE_194 : decode cX3_codesFE 194 = .ok (.invokevirtual 110, 3) := by decide +kernel
theorem dX3_codesFE_197 : decode cX3_codesFE 197 = .ok (.return_, 1) := by decide +kernel
