theorem dX4_init_0 : decode cX4_init 0 = .ok (.aload_n 0, 1) := by decide +kernel
theorem dX4_init_1 : decode cX4_init 1 = .ok (.invokespecial 1, 3) := by decide +kernel
theorem dX4_init_4 : decode cX4_init 4 = .ok (.aload_n 0, 1) := by decide +kernel
theorem dX4_init_5 : decode cX4_init 5 = .ok (.bipush 8, 2) := by decide +kernel
theorem dX4_init_7 : decode cX4_init 7 = .ok (.newarray .int, 2) := by decide +kernel
theorem dX4_init_9 : decode cX4_init 9 = .ok (.putfield 7, 3) := by decide +kernel
theorem dX4_init_12 : decode cX4_init 12 = .ok (.aload_n 0, 1) := by decide +kernel
theorem dX4_init_13 : decode cX4_init 13 = .ok (.iconst 4, 1) := by decide +kernel
theorem dX4_init_14 : decode cX4_init 14 = .ok (.newarray .int, 2) := by decide +kernel
theorem dX4_init_16 : decode cX4_init 16 = .ok (.putfield 13, 3) := by decide +kernel
theorem dX4_init_19 : decode cX4_init 19 = .ok (.return_, 1) := by decide +kernel
theorem dX4_word_0 : decode cX4_word 0 = .ok (.aload_n 0, 1) := by decide +kernel
theorem dX4_word_1 : decode cX4_word 1 = .ok (.getfield 7, 3) := by decide +kernel
theorem dX4_word_4 : decode cX4_word 4 = .ok (.iload_n 1, 1) := by decide +kernel
theorem dX4_word_5 : decode cX4_word 5 = .ok (.bipush 7, 2) := by decide +kernel
theorem dX4_word_7 : decode cX4_word 7 = .ok (.iand, 1) := by decide +kernel
theorem dX4_word_8 : decode cX4_word 8 = .ok (.iaload, 1) := by decide +kernel
theorem dX4_word_9 : decode cX4_word 9 = .ok (.ireturn, 1) := by decide +kernel
theorem dX4_setWord_0 : decode cX4_setWord 0 = .ok (.aload_n 0, 1) := by decide +kernel
theorem dX4_setWord_1 : decode cX4_setWord 1 = .ok (.getfield 7, 3) := by decide +kernel
theorem dX4_setWord_4 : decode cX4_setWord 4 = .ok (.iload_n 1, 1) := by decide +kernel
theorem dX4_setWord_5 : decode cX4_setWord 5 = .ok (.bipush 7, 2) := by decide +kernel
theorem dX4_setWord_7 : decode cX4_setWord 7 = .ok (.iand, 1) := by decide +kernel
theorem dX4_setWord_8 : decode cX4_setWord 8 = .ok (.iload_n 2, 1) := by decide +kernel
theorem dX4_setWord_9 : decode cX4_setWord 9 = .ok (.ldc 16, 2) := by decide +kernel
theorem dX4_setWord_11 : decode cX4_setWord 11 = .ok (.iand, 1) := by decide +kernel
theorem dX4_setWord_12 : decode cX4_setWord 12 = .ok (.iastore, 1) := by decide +kernel
theorem dX4_setWord_13 : decode cX4_setWord 13 = .ok (.return_, 1) := by decide +kernel
theorem dX4_segment_0 : decode cX4_segment 0 = .ok (.aload_n 0, 1) := by decide +kernel
theorem dX4_segment_1 : decode cX4_segment 1 = .ok (.getfield 13, 3) := by decide +kernel
theorem dX4_segment_4 : decode cX4_segment 4 = .ok (.iload_n 1, 1) := by decide +kernel
theorem dX4_segment_5 : decode cX4_segment 5 = .ok (.iconst 3, 1) := by decide +kernel
theorem dX4_segment_6 : decode cX4_segment 6 = .ok (.iand, 1) := by decide +kernel
theorem dX4_segment_7 : decode cX4_segment 7 = .ok (.iaload, 1) := by decide +kernel
theorem dX4_segment_8 : decode cX4_segment 8 = .ok (.ireturn, 1) := by decide +kernel
theorem dX4_setSegment_0 : decode cX4_setSegment 0 = .ok (.aload_n 0, 1) := by decide +kernel
theorem dX4_setSegment_1 : decode cX4_setSegment 1 = .ok (.getfield 13, 3) := by decide +kernel
theorem dX4_setSegment_4 : decode cX4_setSegment 4 = .ok (.iload_n 1, 1) := by decide +kernel
theorem dX4_setSegment_5 : decode cX4_setSegment 5 = .ok (.iconst 3, 1) := by decide +kernel
theorem dX4_setSegment_6 : decode cX4_setSegment 6 = .ok (.iand, 1) := by decide +kernel
theorem dX4_setSegment_7 : decode cX4_setSegment 7 = .ok (.iload_n 2, 1) := by decide +kernel
theorem dX4_setSegment_8 : decode cX4_setSegment 8 = .ok (.ldc 16, 2) := by decide +kernel
theorem dX4_setSegment_10 : decode cX4_setSegment 10 = .ok (.iand, 1) := by decide +kernel
theorem dX4_setSegment_11 : decode cX4_setSegment 11 = .ok (.iastore, 1) := by decide +kernel
theorem dX4_setSegment_12 : decode cX4_setSegment 12 = .ok (.return_, 1) := by decide +kernel
theorem dX4_moveTo_0 : decode cX4_moveTo 0 = .ok (.aload_n 0, 1) := by decide +kernel
theorem dX4_moveTo_1 : decode cX4_moveTo 1 = .ok (.iload_n 1, 1) := by decide +kernel
theorem dX4_moveTo_2 : decode cX4_moveTo 2 = .ok (.ldc 16, 2) := by decide +kernel
theorem dX4_moveTo_4 : decode cX4_moveTo 4 = .ok (.iand, 1) := by decide +kernel
theorem dX4_moveTo_5 : decode cX4_moveTo 5 = .ok (.putfield 17, 3) := by decide +kernel
theorem dX4_moveTo_8 : decode cX4_moveTo 8 = .ok (.return_, 1) := by decide +kernel
theorem dX4_value_0 : decode cX4_value 0 = .ok (.iload_n 2, 1) := by decide +kernel
theorem dX4_value_1 : decode cX4_value 1 = .ok (.ifCond .eq 13, 3) := by decide +kernel
theorem dX4_value_4 : decode cX4_value 4 = .ok (.aload_n 0, 1) := by decide +kernel
theorem dX4_value_5 : decode cX4_value 5 = .ok (.getfield 7, 3) := by decide +kernel
theorem dX4_value_8 : decode cX4_value 8 = .ok (.iload_n 1, 1) := by decide +kernel
theorem dX4_value_9 : decode cX4_value 9 = .ok (.bipush 7, 2) := by decide +kernel
theorem dX4_value_11 : decode cX4_value 11 = .ok (.iand, 1) := by decide +kernel
theorem dX4_value_12 : decode cX4_value 12 = .ok (.iaload, 1) := by decide +kernel
theorem dX4_value_13 : decode cX4_value 13 = .ok (.ireturn, 1) := by decide +kernel
theorem dX4_value_14 : decode cX4_value 14 = .ok (.aload_n 0, 1) := by decide +kernel
theorem dX4_value_15 : decode cX4_value 15 = .ok (.getfield 7, 3) := by decide +kernel
theorem dX4_value_18 : decode cX4_value 18 = .ok (.iload_n 1, 1) := by decide +kernel
theorem dX4_value_19 : decode cX4_value 19 = .ok (.iconst 3, 1) := by decide +kernel
theorem dX4_value_20 : decode cX4_value 20 = .ok (.iand, 1) := by decide +kernel
theorem dX4_value_21 : decode cX4_value 21 = .ok (.iaload, 1) := by decide +kernel
theorem dX4_value_22 : decode cX4_value 22 = .ok (.iload_n 1, 1) := by decide +kernel
theorem dX4_value_23 : decode cX4_value 23 = .ok (.iconst 4, 1) := by decide +kernel
theorem dX4_value_24 : decode cX4_value 24 = .ok (.iand, 1) := by decide +kernel
theorem dX4_value_25 : decode cX4_value 25 = .ok (.ifCond .ne 7, 3) := by decide +kernel
theorem dX4_value_28 : decode cX4_value 28 = .ok (.iconst 0, 1) := by decide +kernel
theorem dX4_value_29 : decode cX4_value 29 = .ok (.goto 5, 3) := by decide +kernel
theorem dX4_value_32 : decode cX4_value 32 = .ok (.bipush 8, 2) := by decide +kernel
theorem dX4_value_34 : decode cX4_value 34 = .ok (.ishr, 1) := by decide +kernel
theorem dX4_value_35 : decode cX4_value 35 = .ok (.sipush 255, 3) := by decide +kernel
theorem dX4_value_38 : decode cX4_value 38 = .ok (.iand, 1) := by decide +kernel
theorem dX4_value_39 : decode cX4_value 39 = .ok (.ireturn, 1) := by decide +kernel
theorem dX4_give_0 : decode cX4_give 0 = .ok (.iload_n 3, 1) := by decide +kernel
theorem dX4_give_1 : decode cX4_give 1 = .ok (.ifCond .eq 19, 3) := by decide +kernel
theorem dX4_give_4 : decode cX4_give 4 = .ok (.aload_n 0, 1) := by decide +kernel
theorem dX4_give_5 : decode cX4_give 5 = .ok (.getfield 7, 3) := by decide +kernel
theorem dX4_give_8 : decode cX4_give 8 = .ok (.iload_n 1, 1) := by decide +kernel
theorem dX4_give_9 : decode cX4_give 9 = .ok (.bipush 7, 2) := by decide +kernel
theorem dX4_give_11 : decode cX4_give 11 = .ok (.iand, 1) := by decide +kernel
theorem dX4_give_12 : decode cX4_give 12 = .ok (.iload_n 2, 1) := by decide +kernel
theorem dX4_give_13 : decode cX4_give 13 = .ok (.ldc 16, 2) := by decide +kernel
theorem dX4_give_15 : decode cX4_give 15 = .ok (.iand, 1) := by decide +kernel
theorem dX4_give_16 : decode cX4_give 16 = .ok (.iastore, 1) := by decide +kernel
theorem dX4_give_17 : decode cX4_give 17 = .ok (.goto 66, 3) := by decide +kernel
theorem dX4_give_20 : decode cX4_give 20 = .ok (.iload_n 1, 1) := by decide +kernel
theorem dX4_give_21 : decode cX4_give 21 = .ok (.iconst 4, 1) := by decide +kernel
theorem dX4_give_22 : decode cX4_give 22 = .ok (.iand, 1) := by decide +kernel
theorem dX4_give_23 : decode cX4_give 23 = .ok (.ifCond .ne 31, 3) := by decide +kernel
theorem dX4_give_26 : decode cX4_give 26 = .ok (.aload_n 0, 1) := by decide +kernel
theorem dX4_give_27 : decode cX4_give 27 = .ok (.getfield 7, 3) := by decide +kernel
theorem dX4_give_30 : decode cX4_give 30 = .ok (.iload_n 1, 1) := by decide +kernel
theorem dX4_give_31 : decode cX4_give 31 = .ok (.iconst 3, 1) := by decide +kernel
theorem dX4_give_32 : decode cX4_give 32 = .ok (.iand, 1) := by decide +kernel
theorem dX4_give_33 : decode cX4_give 33 = .ok (.aload_n 0, 1) := by decide +kernel
theorem dX4_give_34 : decode cX4_give 34 = .ok (.getfield 7, 3) := by decide +kernel
theorem dX4_give_37 : decode cX4_give 37 = .ok (.iload_n 1, 1) := by decide +kernel
theorem dX4_give_38 : decode cX4_give 38 = .ok (.iconst 3, 1) := by decide +kernel
theorem dX4_give_39 : decode cX4_give 39 = .ok (.iand, 1) := by decide +kernel
theorem dX4_give_40 : decode cX4_give 40 = .ok (.iaload, 1) := by decide +kernel
theorem dX4_give_41 : decode cX4_give 41 = .ok (.ldc 21, 2) := by decide +kernel
theorem dX4_give_43 : decode cX4_give 43 = .ok (.iand, 1) := by decide +kernel
theorem dX4_give_44 : decode cX4_give 44 = .ok (.iload_n 2, 1) := by decide +kernel
theorem dX4_give_45 : decode cX4_give 45 = .ok (.sipush 255, 3) := by decide +kernel
theorem dX4_give_48 : decode cX4_give 48 = .ok (.iand, 1) := by decide +kernel
theorem dX4_give_49 : decode cX4_give 49 = .ok (.ior, 1) := by decide +kernel
theorem dX4_give_50 : decode cX4_give 50 = .ok (.iastore, 1) := by decide +kernel
theorem dX4_give_51 : decode cX4_give 51 = .ok (.goto 32, 3) := by decide +kernel
theorem dX4_give_54 : decode cX4_give 54 = .ok (.aload_n 0, 1) := by decide +kernel
theorem dX4_give_55 : decode cX4_give 55 = .ok (.getfield 7, 3) := by decide +kernel
theorem dX4_give_58 : decode cX4_give 58 = .ok (.iload_n 1, 1) := by decide +kernel
theorem dX4_give_59 : decode cX4_give 59 = .ok (.iconst 3, 1) := by decide +kernel
theorem dX4_give_60 : decode cX4_give 60 = .ok (.iand, 1) := by decide +kernel
theorem dX4_give_61 : decode cX4_give 61 = .ok (.aload_n 0, 1) := by decide +kernel
theorem dX4_give_62 : decode cX4_give 62 = .ok (.getfield 7, 3) := by decide +kernel
theorem dX4_give_65 : decode cX4_give 65 = .ok (.iload_n 1, 1) := by decide +kernel
theorem dX4_give_66 : decode cX4_give 66 = .ok (.iconst 3, 1) := by decide +kernel
theorem dX4_give_67 : decode cX4_give 67 = .ok (.iand, 1) := by decide +kernel
theorem dX4_give_68 : decode cX4_give 68 = .ok (.iaload, 1) := by decide +kernel
theorem dX4_give_69 : decode cX4_give 69 = .ok (.sipush 255, 3) := by decide +kernel
theorem dX4_give_72 : decode cX4_give 72 = .ok (.iand, 1) := by decide +kernel
theorem dX4_give_73 : decode cX4_give 73 = .ok (.iload_n 2, 1) := by decide +kernel
theorem dX4_give_74 : decode cX4_give 74 = .ok (.sipush 255, 3) := by decide +kernel
theorem dX4_give_77 : decode cX4_give 77 = .ok (.iand, 1) := by decide +kernel
theorem dX4_give_78 : decode cX4_give 78 = .ok (.bipush 8, 2) := by decide +kernel
theorem dX4_give_80 : decode cX4_give 80 = .ok (.ishl, 1) := by decide +kernel
theorem dX4_give_81 : decode cX4_give 81 = .ok (.ior, 1) := by decide +kernel
theorem dX4_give_82 : decode cX4_give 82 = .ok (.iastore, 1) := by decide +kernel
theorem dX4_give_83 : decode cX4_give 83 = .ok (.return_, 1) := by decide +kernel
