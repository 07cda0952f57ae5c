theorem dX2_init_0 : decode cX2_init 0 = .ok (.aload_n 0, 1) := by decide +kernel
theorem dX2_init_1 : decode cX2_init 1 = .ok (.invokespecial 1, 3) := by decide +kernel
theorem dX2_init_4 : decode cX2_init 4 = .ok (.aload_n 0, 1) := by decide +kernel
theorem dX2_init_5 : decode cX2_init 5 = .ok (.ldc 9, 2) := by decide +kernel
theorem dX2_init_7 : decode cX2_init 7 = .ok (.newarray .byte, 2) := by decide +kernel
theorem dX2_init_9 : decode cX2_init 9 = .ok (.putfield 10, 3) := by decide +kernel
theorem dX2_init_12 : decode cX2_init 12 = .ok (.aload_n 0, 1) := by decide +kernel
theorem dX2_init_13 : decode cX2_init 13 = .ok (.sipush 4096, 3) := by decide +kernel
theorem dX2_init_16 : decode cX2_init 16 = .ok (.newarray .int, 2) := by decide +kernel
theorem dX2_init_18 : decode cX2_init 18 = .ok (.putfield 14, 3) := by decide +kernel
theorem dX2_init_21 : decode cX2_init 21 = .ok (.return_, 1) := by decide +kernel
theorem dX2_place_0 : decode cX2_place 0 = .ok (.iload_n 0, 1) := by decide +kernel
theorem dX2_place_1 : decode cX2_place 1 = .ok (.iconst 4, 1) := by decide +kernel
theorem dX2_place_2 : decode cX2_place 2 = .ok (.ishl, 1) := by decide +kernel
theorem dX2_place_3 : decode cX2_place 3 = .ok (.iload_n 1, 1) := by decide +kernel
theorem dX2_place_4 : decode cX2_place 4 = .ok (.ldc 18, 2) := by decide +kernel
theorem dX2_place_6 : decode cX2_place 6 = .ok (.iand, 1) := by decide +kernel
theorem dX2_place_7 : decode cX2_place 7 = .ok (.iadd, 1) := by decide +kernel
theorem dX2_place_8 : decode cX2_place 8 = .ok (.ldc 19, 2) := by decide +kernel
theorem dX2_place_10 : decode cX2_place 10 = .ok (.iand, 1) := by decide +kernel
theorem dX2_place_11 : decode cX2_place 11 = .ok (.ireturn, 1) := by decide +kernel
theorem dX2_at_0 : decode cX2_at 0 = .ok (.aload_n 0, 1) := by decide +kernel
theorem dX2_at_1 : decode cX2_at 1 = .ok (.getfield 14, 3) := by decide +kernel
theorem dX2_at_4 : decode cX2_at 4 = .ok (.iload_n 1, 1) := by decide +kernel
theorem dX2_at_5 : decode cX2_at 5 = .ok (.bipush 8, 2) := by decide +kernel
theorem dX2_at_7 : decode cX2_at 7 = .ok (.ishr, 1) := by decide +kernel
theorem dX2_at_8 : decode cX2_at 8 = .ok (.sipush 4095, 3) := by decide +kernel
theorem dX2_at_11 : decode cX2_at 11 = .ok (.iand, 1) := by decide +kernel
theorem dX2_at_12 : decode cX2_at 12 = .ok (.iaload, 1) := by decide +kernel
theorem dX2_at_13 : decode cX2_at 13 = .ok (.istore_n 2, 1) := by decide +kernel
theorem dX2_at_14 : decode cX2_at 14 = .ok (.iload_n 2, 1) := by decide +kernel
theorem dX2_at_15 : decode cX2_at 15 = .ok (.ifCond .ne 7, 3) := by decide +kernel
theorem dX2_at_18 : decode cX2_at 18 = .ok (.iconst 0, 1) := by decide +kernel
theorem dX2_at_19 : decode cX2_at 19 = .ok (.goto 27, 3) := by decide +kernel
theorem dX2_at_22 : decode cX2_at 22 = .ok (.aload_n 0, 1) := by decide +kernel
theorem dX2_at_23 : decode cX2_at 23 = .ok (.getfield 10, 3) := by decide +kernel
theorem dX2_at_26 : decode cX2_at 26 = .ok (.iload_n 2, 1) := by decide +kernel
theorem dX2_at_27 : decode cX2_at 27 = .ok (.iconst 1, 1) := by decide +kernel
theorem dX2_at_28 : decode cX2_at 28 = .ok (.isub, 1) := by decide +kernel
theorem dX2_at_29 : decode cX2_at 29 = .ok (.bipush 8, 2) := by decide +kernel
theorem dX2_at_31 : decode cX2_at 31 = .ok (.ishl, 1) := by decide +kernel
theorem dX2_at_32 : decode cX2_at 32 = .ok (.iload_n 1, 1) := by decide +kernel
theorem dX2_at_33 : decode cX2_at 33 = .ok (.sipush 255, 3) := by decide +kernel
theorem dX2_at_36 : decode cX2_at 36 = .ok (.iand, 1) := by decide +kernel
theorem dX2_at_37 : decode cX2_at 37 = .ok (.ior, 1) := by decide +kernel
theorem dX2_at_38 : decode cX2_at 38 = .ok (.ldc 18, 2) := by decide +kernel
theorem dX2_at_40 : decode cX2_at 40 = .ok (.iand, 1) := by decide +kernel
theorem dX2_at_41 : decode cX2_at 41 = .ok (.baload, 1) := by decide +kernel
theorem dX2_at_42 : decode cX2_at 42 = .ok (.sipush 255, 3) := by decide +kernel
theorem dX2_at_45 : decode cX2_at 45 = .ok (.iand, 1) := by decide +kernel
theorem dX2_at_46 : decode cX2_at 46 = .ok (.ireturn, 1) := by decide +kernel
theorem dX2_put_0 : decode cX2_put 0 = .ok (.iload_n 1, 1) := by decide +kernel
theorem dX2_put_1 : decode cX2_put 1 = .ok (.bipush 8, 2) := by decide +kernel
theorem dX2_put_3 : decode cX2_put 3 = .ok (.ishr, 1) := by decide +kernel
theorem dX2_put_4 : decode cX2_put 4 = .ok (.sipush 4095, 3) := by decide +kernel
theorem dX2_put_7 : decode cX2_put 7 = .ok (.iand, 1) := by decide +kernel
theorem dX2_put_8 : decode cX2_put 8 = .ok (.istore_n 3, 1) := by decide +kernel
theorem dX2_put_9 : decode cX2_put 9 = .ok (.aload_n 0, 1) := by decide +kernel
theorem dX2_put_10 : decode cX2_put 10 = .ok (.getfield 14, 3) := by decide +kernel
theorem dX2_put_13 : decode cX2_put 13 = .ok (.iload_n 3, 1) := by decide +kernel
theorem dX2_put_14 : decode cX2_put 14 = .ok (.iaload, 1) := by decide +kernel
theorem dX2_put_15 : decode cX2_put 15 = .ok (.ifCond .ne 44, 3) := by decide +kernel
theorem dX2_put_18 : decode cX2_put 18 = .ok (.aload_n 0, 1) := by decide +kernel
theorem dX2_put_19 : decode cX2_put 19 = .ok (.getfield 20, 3) := by decide +kernel
theorem dX2_put_22 : decode cX2_put 22 = .ok (.sipush 256, 3) := by decide +kernel
theorem dX2_put_25 : decode cX2_put 25 = .ok (.if_icmp .ne 14, 3) := by decide +kernel
theorem dX2_put_28 : decode cX2_put 28 = .ok (.aload_n 0, 1) := by decide +kernel
theorem dX2_put_29 : decode cX2_put 29 = .ok (.dup, 1) := by decide +kernel
theorem dX2_put_30 : decode cX2_put 30 = .ok (.getfield 24, 3) := by decide +kernel
theorem dX2_put_33 : decode cX2_put 33 = .ok (.iconst 1, 1) := by decide +kernel
theorem dX2_put_34 : decode cX2_put 34 = .ok (.iadd, 1) := by decide +kernel
theorem dX2_put_35 : decode cX2_put 35 = .ok (.putfield 24, 3) := by decide +kernel
theorem dX2_put_38 : decode cX2_put 38 = .ok (.return_, 1) := by decide +kernel
theorem dX2_put_39 : decode cX2_put 39 = .ok (.aload_n 0, 1) := by decide +kernel
theorem dX2_put_40 : decode cX2_put 40 = .ok (.dup, 1) := by decide +kernel
theorem dX2_put_41 : decode cX2_put 41 = .ok (.getfield 20, 3) := by decide +kernel
theorem dX2_put_44 : decode cX2_put 44 = .ok (.iconst 1, 1) := by decide +kernel
theorem dX2_put_45 : decode cX2_put 45 = .ok (.iadd, 1) := by decide +kernel
theorem dX2_put_46 : decode cX2_put 46 = .ok (.putfield 20, 3) := by decide +kernel
theorem dX2_put_49 : decode cX2_put 49 = .ok (.aload_n 0, 1) := by decide +kernel
theorem dX2_put_50 : decode cX2_put 50 = .ok (.getfield 14, 3) := by decide +kernel
theorem dX2_put_53 : decode cX2_put 53 = .ok (.iload_n 3, 1) := by decide +kernel
theorem dX2_put_54 : decode cX2_put 54 = .ok (.aload_n 0, 1) := by decide +kernel
theorem dX2_put_55 : decode cX2_put 55 = .ok (.getfield 20, 3) := by decide +kernel
theorem dX2_put_58 : decode cX2_put 58 = .ok (.iastore, 1) := by decide +kernel
theorem dX2_put_59 : decode cX2_put 59 = .ok (.aload_n 0, 1) := by decide +kernel
theorem dX2_put_60 : decode cX2_put 60 = .ok (.getfield 10, 3) := by decide +kernel
theorem dX2_put_63 : decode cX2_put 63 = .ok (.aload_n 0, 1) := by decide +kernel
theorem dX2_put_64 : decode cX2_put 64 = .ok (.getfield 14, 3) := by decide +kernel
theorem dX2_put_67 : decode cX2_put 67 = .ok (.iload_n 3, 1) := by decide +kernel
theorem dX2_put_68 : decode cX2_put 68 = .ok (.iaload, 1) := by decide +kernel
theorem dX2_put_69 : decode cX2_put 69 = .ok (.iconst 1, 1) := by decide +kernel
theorem dX2_put_70 : decode cX2_put 70 = .ok (.isub, 1) := by decide +kernel
theorem dX2_put_71 : decode cX2_put 71 = .ok (.bipush 8, 2) := by decide +kernel
theorem dX2_put_73 : decode cX2_put 73 = .ok (.ishl, 1) := by decide +kernel
theorem dX2_put_74 : decode cX2_put 74 = .ok (.iload_n 1, 1) := by decide +kernel
theorem dX2_put_75 : decode cX2_put 75 = .ok (.sipush 255, 3) := by decide +kernel
theorem dX2_put_78 : decode cX2_put 78 = .ok (.iand, 1) := by decide +kernel
theorem dX2_put_79 : decode cX2_put 79 = .ok (.ior, 1) := by decide +kernel
theorem dX2_put_80 : decode cX2_put 80 = .ok (.ldc 18, 2) := by decide +kernel
theorem dX2_put_82 : decode cX2_put 82 = .ok (.iand, 1) := by decide +kernel
theorem dX2_put_83 : decode cX2_put 83 = .ok (.iload_n 2, 1) := by decide +kernel
theorem dX2_put_84 : decode cX2_put 84 = .ok (.i2b, 1) := by decide +kernel
theorem dX2_put_85 : decode cX2_put 85 = .ok (.bastore, 1) := by decide +kernel
theorem dX2_put_86 : decode cX2_put 86 = .ok (.return_, 1) := by decide +kernel
theorem dX2_load_0 : decode cX2_load 0 = .ok (.aload_n 0, 1) := by decide +kernel
theorem dX2_load_1 : decode cX2_load 1 = .ok (.iload_n 1, 1) := by decide +kernel
theorem dX2_load_2 : decode cX2_load 2 = .ok (.iload_n 2, 1) := by decide +kernel
theorem dX2_load_3 : decode cX2_load 3 = .ok (.invokestatic 27, 3) := by decide +kernel
theorem dX2_load_6 : decode cX2_load 6 = .ok (.invokevirtual 31, 3) := by decide +kernel
theorem dX2_load_9 : decode cX2_load 9 = .ok (.istore 4, 2) := by decide +kernel
theorem dX2_load_11 : decode cX2_load 11 = .ok (.iload_n 3, 1) := by decide +kernel
theorem dX2_load_12 : decode cX2_load 12 = .ok (.ifCond .eq 23, 3) := by decide +kernel
theorem dX2_load_15 : decode cX2_load 15 = .ok (.iload 4, 2) := by decide +kernel
theorem dX2_load_17 : decode cX2_load 17 = .ok (.aload_n 0, 1) := by decide +kernel
theorem dX2_load_18 : decode cX2_load 18 = .ok (.iload_n 1, 1) := by decide +kernel
theorem dX2_load_19 : decode cX2_load 19 = .ok (.iload_n 2, 1) := by decide +kernel
theorem dX2_load_20 : decode cX2_load 20 = .ok (.iconst 1, 1) := by decide +kernel
theorem dX2_load_21 : decode cX2_load 21 = .ok (.iadd, 1) := by decide +kernel
theorem dX2_load_22 : decode cX2_load 22 = .ok (.invokestatic 27, 3) := by decide +kernel
theorem dX2_load_25 : decode cX2_load 25 = .ok (.invokevirtual 31, 3) := by decide +kernel
theorem dX2_load_28 : decode cX2_load 28 = .ok (.bipush 8, 2) := by decide +kernel
theorem dX2_load_30 : decode cX2_load 30 = .ok (.ishl, 1) := by decide +kernel
theorem dX2_load_31 : decode cX2_load 31 = .ok (.ior, 1) := by decide +kernel
theorem dX2_load_32 : decode cX2_load 32 = .ok (.goto 5, 3) := by decide +kernel
theorem dX2_load_35 : decode cX2_load 35 = .ok (.iload 4, 2) := by decide +kernel
theorem dX2_load_37 : decode cX2_load 37 = .ok (.ireturn, 1) := by decide +kernel
theorem dX2_store_0 : decode cX2_store 0 = .ok (.aload_n 0, 1) := by decide +kernel
theorem dX2_store_1 : decode cX2_store 1 = .ok (.iload_n 1, 1) := by decide +kernel
theorem dX2_store_2 : decode cX2_store 2 = .ok (.iload_n 2, 1) := by decide +kernel
theorem dX2_store_3 : decode cX2_store 3 = .ok (.invokestatic 27, 3) := by decide +kernel
theorem dX2_store_6 : decode cX2_store 6 = .ok (.iload_n 3, 1) := by decide +kernel
theorem dX2_store_7 : decode cX2_store 7 = .ok (.invokevirtual 35, 3) := by decide +kernel
theorem dX2_store_10 : decode cX2_store 10 = .ok (.iload 4, 2) := by decide +kernel
theorem dX2_store_12 : decode cX2_store 12 = .ok (.ifCond .eq 18, 3) := by decide +kernel
theorem dX2_store_15 : decode cX2_store 15 = .ok (.aload_n 0, 1) := by decide +kernel
theorem dX2_store_16 : decode cX2_store 16 = .ok (.iload_n 1, 1) := by decide +kernel
theorem dX2_store_17 : decode cX2_store 17 = .ok (.iload_n 2, 1) := by decide +kernel
theorem dX2_store_18 : decode cX2_store 18 = .ok (.iconst 1, 1) := by decide +kernel
theorem dX2_store_19 : decode cX2_store 19 = .ok (.iadd, 1) := by decide +kernel
theorem dX2_store_20 : decode cX2_store 20 = .ok (.invokestatic 27, 3) := by decide +kernel
theorem dX2_store_23 : decode cX2_store 23 = .ok (.iload_n 3, 1) := by decide +kernel
theorem dX2_store_24 : decode cX2_store 24 = .ok (.bipush 8, 2) := by decide +kernel
theorem dX2_store_26 : decode cX2_store 26 = .ok (.ishr, 1) := by decide +kernel
theorem dX2_store_27 : decode cX2_store 27 = .ok (.invokevirtual 35, 3) := by decide +kernel
theorem dX2_store_30 : decode cX2_store 30 = .ok (.return_, 1) := by decide +kernel
