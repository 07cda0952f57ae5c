theorem dX6_init_0 : decode cX6_init 0 = .ok (.aload_n 0, 1) := by decide +kernel
theorem dX6_init_1 : decode cX6_init 1 = .ok (.invokespecial 1, 3) := by decide +kernel
theorem dX6_init_4 : decode cX6_init 4 = .ok (.aload_n 0, 1) := by decide +kernel
theorem dX6_init_5 : decode cX6_init 5 = .ok (.bipush 8, 2) := by decide +kernel
theorem dX6_init_7 : decode cX6_init 7 = .ok (.newarray .int, 2) := by decide +kernel
theorem dX6_init_9 : decode cX6_init 9 = .ok (.putfield 7, 3) := by decide +kernel
theorem dX6_init_12 : decode cX6_init 12 = .ok (.aload_n 0, 1) := by decide +kernel
theorem dX6_init_13 : decode cX6_init 13 = .ok (.iconst 4, 1) := by decide +kernel
theorem dX6_init_14 : decode cX6_init 14 = .ok (.newarray .int, 2) := by decide +kernel
theorem dX6_init_16 : decode cX6_init 16 = .ok (.putfield 13, 3) := by decide +kernel
theorem dX6_init_19 : decode cX6_init 19 = .ok (.aload_n 0, 1) := by decide +kernel
theorem dX6_init_20 : decode cX6_init 20 = .ok (.sipush 4096, 3) := by decide +kernel
theorem dX6_init_23 : decode cX6_init 23 = .ok (.newarray .int, 2) := by decide +kernel
theorem dX6_init_25 : decode cX6_init 25 = .ok (.putfield 16, 3) := by decide +kernel
theorem dX6_init_28 : decode cX6_init 28 = .ok (.aload_n 0, 1) := by decide +kernel
theorem dX6_init_29 : decode cX6_init 29 = .ok (.ldc 19, 2) := by decide +kernel
theorem dX6_init_31 : decode cX6_init 31 = .ok (.newarray .int, 2) := by decide +kernel
theorem dX6_init_33 : decode cX6_init 33 = .ok (.putfield 20, 3) := by decide +kernel
theorem dX6_init_36 : decode cX6_init 36 = .ok (.aload_n 0, 1) := by decide +kernel
theorem dX6_init_37 : decode cX6_init 37 = .ok (.sipush 256, 3) := by decide +kernel
theorem dX6_init_40 : decode cX6_init 40 = .ok (.newarray .int, 2) := by decide +kernel
theorem dX6_init_42 : decode cX6_init 42 = .ok (.putfield 23, 3) := by decide +kernel
theorem dX6_init_45 : decode cX6_init 45 = .ok (.aload_n 0, 1) := by decide +kernel
theorem dX6_init_46 : decode cX6_init 46 = .ok (.iconst (-1), 1) := by decide +kernel
theorem dX6_init_47 : decode cX6_init 47 = .ok (.putfield 26, 3) := by decide +kernel
theorem dX6_init_50 : decode cX6_init 50 = .ok (.return_, 1) := by decide +kernel
theorem dX6_thrown_0 : decode cX6_thrown 0 = .ok (.aload_n 0, 1) := by decide +kernel
theorem dX6_thrown_1 : decode cX6_thrown 1 = .ok (.getfield 30, 3) := by decide +kernel
theorem dX6_thrown_4 : decode cX6_thrown 4 = .ok (.ireturn, 1) := by decide +kernel
theorem dX6_load_0 : decode cX6_load 0 = .ok (.aload_n 0, 1) := by decide +kernel
theorem dX6_load_1 : decode cX6_load 1 = .ok (.getfield 16, 3) := by decide +kernel
theorem dX6_load_4 : decode cX6_load 4 = .ok (.iload_n 1, 1) := by decide +kernel
theorem dX6_load_5 : decode cX6_load 5 = .ok (.bipush 8, 2) := by decide +kernel
theorem dX6_load_7 : decode cX6_load 7 = .ok (.ishr, 1) := by decide +kernel
theorem dX6_load_8 : decode cX6_load 8 = .ok (.iaload, 1) := by decide +kernel
theorem dX6_load_9 : decode cX6_load 9 = .ok (.istore_n 2, 1) := by decide +kernel
theorem dX6_load_10 : decode cX6_load 10 = .ok (.iload_n 2, 1) := by decide +kernel
theorem dX6_load_11 : decode cX6_load 11 = .ok (.ifCond .ne 7, 3) := by decide +kernel
theorem dX6_load_14 : decode cX6_load 14 = .ok (.iconst 0, 1) := by decide +kernel
theorem dX6_load_15 : decode cX6_load 15 = .ok (.goto 21, 3) := by decide +kernel
theorem dX6_load_18 : decode cX6_load 18 = .ok (.aload_n 0, 1) := by decide +kernel
theorem dX6_load_19 : decode cX6_load 19 = .ok (.getfield 20, 3) := by decide +kernel
theorem dX6_load_22 : decode cX6_load 22 = .ok (.sipush 256, 3) := by decide +kernel
theorem dX6_load_25 : decode cX6_load 25 = .ok (.iload_n 2, 1) := by decide +kernel
theorem dX6_load_26 : decode cX6_load 26 = .ok (.iconst 1, 1) := by decide +kernel
theorem dX6_load_27 : decode cX6_load 27 = .ok (.isub, 1) := by decide +kernel
theorem dX6_load_28 : decode cX6_load 28 = .ok (.imul, 1) := by decide +kernel
theorem dX6_load_29 : decode cX6_load 29 = .ok (.iload_n 1, 1) := by decide +kernel
theorem dX6_load_30 : decode cX6_load 30 = .ok (.sipush 255, 3) := by decide +kernel
theorem dX6_load_33 : decode cX6_load 33 = .ok (.iand, 1) := by decide +kernel
theorem dX6_load_34 : decode cX6_load 34 = .ok (.iadd, 1) := by decide +kernel
theorem dX6_load_35 : decode cX6_load 35 = .ok (.iaload, 1) := by decide +kernel
theorem dX6_load_36 : decode cX6_load 36 = .ok (.ireturn, 1) := by decide +kernel
theorem dX6_store_0 : decode cX6_store 0 = .ok (.aload_n 0, 1) := by decide +kernel
theorem dX6_store_1 : decode cX6_store 1 = .ok (.getfield 16, 3) := by decide +kernel
theorem dX6_store_4 : decode cX6_store 4 = .ok (.iload_n 1, 1) := by decide +kernel
theorem dX6_store_5 : decode cX6_store 5 = .ok (.bipush 8, 2) := by decide +kernel
theorem dX6_store_7 : decode cX6_store 7 = .ok (.ishr, 1) := by decide +kernel
theorem dX6_store_8 : decode cX6_store 8 = .ok (.iaload, 1) := by decide +kernel
theorem dX6_store_9 : decode cX6_store 9 = .ok (.ifCond .ne 24, 3) := by decide +kernel
theorem dX6_store_12 : decode cX6_store 12 = .ok (.aload_n 0, 1) := by decide +kernel
theorem dX6_store_13 : decode cX6_store 13 = .ok (.getfield 33, 3) := by decide +kernel
theorem dX6_store_16 : decode cX6_store 16 = .ok (.sipush 256, 3) := by decide +kernel
theorem dX6_store_19 : decode cX6_store 19 = .ok (.if_icmp .ne 14, 3) := by decide +kernel
theorem dX6_store_22 : decode cX6_store 22 = .ok (.aload_n 0, 1) := by decide +kernel
theorem dX6_store_23 : decode cX6_store 23 = .ok (.dup, 1) := by decide +kernel
theorem dX6_store_24 : decode cX6_store 24 = .ok (.getfield 36, 3) := by decide +kernel
theorem dX6_store_27 : decode cX6_store 27 = .ok (.iconst 1, 1) := by decide +kernel
theorem dX6_store_28 : decode cX6_store 28 = .ok (.iadd, 1) := by decide +kernel
theorem dX6_store_29 : decode cX6_store 29 = .ok (.putfield 36, 3) := by decide +kernel
theorem dX6_store_32 : decode cX6_store 32 = .ok (.return_, 1) := by decide +kernel
theorem dX6_store_33 : decode cX6_store 33 = .ok (.aload_n 0, 1) := by decide +kernel
theorem dX6_store_34 : decode cX6_store 34 = .ok (.getfield 16, 3) := by decide +kernel
theorem dX6_store_37 : decode cX6_store 37 = .ok (.iload_n 1, 1) := by decide +kernel
theorem dX6_store_38 : decode cX6_store 38 = .ok (.bipush 8, 2) := by decide +kernel
theorem dX6_store_40 : decode cX6_store 40 = .ok (.ishr, 1) := by decide +kernel
theorem dX6_store_41 : decode cX6_store 41 = .ok (.iaload, 1) := by decide +kernel
theorem dX6_store_42 : decode cX6_store 42 = .ok (.ifCond .ne 26, 3) := by decide +kernel
theorem dX6_store_45 : decode cX6_store 45 = .ok (.aload_n 0, 1) := by decide +kernel
theorem dX6_store_46 : decode cX6_store 46 = .ok (.dup, 1) := by decide +kernel
theorem dX6_store_47 : decode cX6_store 47 = .ok (.getfield 33, 3) := by decide +kernel
theorem dX6_store_50 : decode cX6_store 50 = .ok (.iconst 1, 1) := by decide +kernel
theorem dX6_store_51 : decode cX6_store 51 = .ok (.iadd, 1) := by decide +kernel
theorem dX6_store_52 : decode cX6_store 52 = .ok (.putfield 33, 3) := by decide +kernel
theorem dX6_store_55 : decode cX6_store 55 = .ok (.aload_n 0, 1) := by decide +kernel
theorem dX6_store_56 : decode cX6_store 56 = .ok (.getfield 16, 3) := by decide +kernel
theorem dX6_store_59 : decode cX6_store 59 = .ok (.iload_n 1, 1) := by decide +kernel
theorem dX6_store_60 : decode cX6_store 60 = .ok (.bipush 8, 2) := by decide +kernel
theorem dX6_store_62 : decode cX6_store 62 = .ok (.ishr, 1) := by decide +kernel
theorem dX6_store_63 : decode cX6_store 63 = .ok (.aload_n 0, 1) := by decide +kernel
theorem dX6_store_64 : decode cX6_store 64 = .ok (.getfield 33, 3) := by decide +kernel
theorem dX6_store_67 : decode cX6_store 67 = .ok (.iastore, 1) := by decide +kernel
theorem dX6_store_68 : decode cX6_store 68 = .ok (.aload_n 0, 1) := by decide +kernel
theorem dX6_store_69 : decode cX6_store 69 = .ok (.getfield 20, 3) := by decide +kernel
theorem dX6_store_72 : decode cX6_store 72 = .ok (.sipush 256, 3) := by decide +kernel
theorem dX6_store_75 : decode cX6_store 75 = .ok (.aload_n 0, 1) := by decide +kernel
theorem dX6_store_76 : decode cX6_store 76 = .ok (.getfield 16, 3) := by decide +kernel
theorem dX6_store_79 : decode cX6_store 79 = .ok (.iload_n 1, 1) := by decide +kernel
theorem dX6_store_80 : decode cX6_store 80 = .ok (.bipush 8, 2) := by decide +kernel
theorem dX6_store_82 : decode cX6_store 82 = .ok (.ishr, 1) := by decide +kernel
theorem dX6_store_83 : decode cX6_store 83 = .ok (.iaload, 1) := by decide +kernel
theorem dX6_store_84 : decode cX6_store 84 = .ok (.iconst 1, 1) := by decide +kernel
theorem dX6_store_85 : decode cX6_store 85 = .ok (.isub, 1) := by decide +kernel
theorem dX6_store_86 : decode cX6_store 86 = .ok (.imul, 1) := by decide +kernel
theorem dX6_store_87 : decode cX6_store 87 = .ok (.iload_n 1, 1) := by decide +kernel
theorem dX6_store_88 : decode cX6_store 88 = .ok (.sipush 255, 3) := by decide +kernel
theorem dX6_store_91 : decode cX6_store 91 = .ok (.iand, 1) := by decide +kernel
theorem dX6_store_92 : decode cX6_store 92 = .ok (.iadd, 1) := by decide +kernel
theorem dX6_store_93 : decode cX6_store 93 = .ok (.iload_n 2, 1) := by decide +kernel
theorem dX6_store_94 : decode cX6_store 94 = .ok (.sipush 255, 3) := by decide +kernel
theorem dX6_store_97 : decode cX6_store 97 = .ok (.iand, 1) := by decide +kernel
theorem dX6_store_98 : decode cX6_store 98 = .ok (.iastore, 1) := by decide +kernel
theorem dX6_store_99 : decode cX6_store 99 = .ok (.return_, 1) := by decide +kernel
theorem dX6_placeOf_0 : decode cX6_placeOf 0 = .ok (.bipush 16, 2) := by decide +kernel
theorem dX6_placeOf_2 : decode cX6_placeOf 2 = .ok (.iload_n 0, 1) := by decide +kernel
theorem dX6_placeOf_3 : decode cX6_placeOf 3 = .ok (.imul, 1) := by decide +kernel
theorem dX6_placeOf_4 : decode cX6_placeOf 4 = .ok (.iload_n 1, 1) := by decide +kernel
theorem dX6_placeOf_5 : decode cX6_placeOf 5 = .ok (.ldc 39, 2) := by decide +kernel
theorem dX6_placeOf_7 : decode cX6_placeOf 7 = .ok (.iand, 1) := by decide +kernel
theorem dX6_placeOf_8 : decode cX6_placeOf 8 = .ok (.iadd, 1) := by decide +kernel
theorem dX6_placeOf_9 : decode cX6_placeOf 9 = .ok (.ldc 40, 2) := by decide +kernel
theorem dX6_placeOf_11 : decode cX6_placeOf 11 = .ok (.iand, 1) := by decide +kernel
theorem dX6_placeOf_12 : decode cX6_placeOf 12 = .ok (.ireturn, 1) := by decide +kernel
theorem dX6_get_0 : decode cX6_get 0 = .ok (.aload_n 0, 1) := by decide +kernel
theorem dX6_get_1 : decode cX6_get 1 = .ok (.iload_n 1, 1) := by decide +kernel
theorem dX6_get_2 : decode cX6_get 2 = .ok (.iload_n 2, 1) := by decide +kernel
theorem dX6_get_3 : decode cX6_get 3 = .ok (.invokestatic 41, 3) := by decide +kernel
theorem dX6_get_6 : decode cX6_get 6 = .ok (.invokevirtual 45, 3) := by decide +kernel
theorem dX6_get_9 : decode cX6_get 9 = .ok (.istore 4, 2) := by decide +kernel
theorem dX6_get_11 : decode cX6_get 11 = .ok (.iload_n 3, 1) := by decide +kernel
theorem dX6_get_12 : decode cX6_get 12 = .ok (.ifCond .eq 23, 3) := by decide +kernel
theorem dX6_get_15 : decode cX6_get 15 = .ok (.iload 4, 2) := by decide +kernel
theorem dX6_get_17 : decode cX6_get 17 = .ok (.aload_n 0, 1) := by decide +kernel
theorem dX6_get_18 : decode cX6_get 18 = .ok (.iload_n 1, 1) := by decide +kernel
theorem dX6_get_19 : decode cX6_get 19 = .ok (.iload_n 2, 1) := by decide +kernel
theorem dX6_get_20 : decode cX6_get 20 = .ok (.iconst 1, 1) := by decide +kernel
theorem dX6_get_21 : decode cX6_get 21 = .ok (.iadd, 1) := by decide +kernel
theorem dX6_get_22 : decode cX6_get 22 = .ok (.invokestatic 41, 3) := by decide +kernel
theorem dX6_get_25 : decode cX6_get 25 = .ok (.invokevirtual 45, 3) := by decide +kernel
theorem dX6_get_28 : decode cX6_get 28 = .ok (.bipush 8, 2) := by decide +kernel
theorem dX6_get_30 : decode cX6_get 30 = .ok (.ishl, 1) := by decide +kernel
theorem dX6_get_31 : decode cX6_get 31 = .ok (.ior, 1) := by decide +kernel
theorem dX6_get_32 : decode cX6_get 32 = .ok (.goto 5, 3) := by decide +kernel
theorem dX6_get_35 : decode cX6_get 35 = .ok (.iload 4, 2) := by decide +kernel
theorem dX6_get_37 : decode cX6_get 37 = .ok (.ireturn, 1) := by decide +kernel
theorem dX6_put_0 : decode cX6_put 0 = .ok (.aload_n 0, 1) := by decide +kernel
theorem dX6_put_1 : decode cX6_put 1 = .ok (.iload_n 1, 1) := by decide +kernel
theorem dX6_put_2 : decode cX6_put 2 = .ok (.iload_n 2, 1) := by decide +kernel
theorem dX6_put_3 : decode cX6_put 3 = .ok (.invokestatic 41, 3) := by decide +kernel
theorem dX6_put_6 : decode cX6_put 6 = .ok (.iload 4, 2) := by decide +kernel
theorem dX6_put_8 : decode cX6_put 8 = .ok (.invokevirtual 49, 3) := by decide +kernel
theorem dX6_put_11 : decode cX6_put 11 = .ok (.iload_n 3, 1) := by decide +kernel
theorem dX6_put_12 : decode cX6_put 12 = .ok (.ifCond .eq 19, 3) := by decide +kernel
theorem dX6_put_15 : decode cX6_put 15 = .ok (.aload_n 0, 1) := by decide +kernel
theorem dX6_put_16 : decode cX6_put 16 = .ok (.iload_n 1, 1) := by decide +kernel
theorem dX6_put_17 : decode cX6_put 17 = .ok (.iload_n 2, 1) := by decide +kernel
theorem dX6_put_18 : decode cX6_put 18 = .ok (.iconst 1, 1) := by decide +kernel
theorem dX6_put_19 : decode cX6_put 19 = .ok (.iadd, 1) := by decide +kernel
theorem dX6_put_20 : decode cX6_put 20 = .ok (.invokestatic 41, 3) := by decide +kernel
theorem dX6_put_23 : decode cX6_put 23 = .ok (.iload 4, 2) := by decide +kernel
theorem dX6_put_25 : decode cX6_put 25 = .ok (.bipush 8, 2) := by decide +kernel
theorem dX6_put_27 : decode cX6_put 27 = .ok (.ishr, 1) := by decide +kernel
theorem dX6_put_28 : decode cX6_put 28 = .ok (.invokevirtual 49, 3) := by decide +kernel
theorem dX6_put_31 : decode cX6_put 31 = .ok (.return_, 1) := by decide +kernel
theorem dX6_register_0 : decode cX6_register 0 = .ok (.iload_n 2, 1) := by decide +kernel
theorem dX6_register_1 : decode cX6_register 1 = .ok (.ifCond .eq 10, 3) := by decide +kernel
theorem dX6_register_4 : decode cX6_register 4 = .ok (.aload_n 0, 1) := by decide +kernel
theorem dX6_register_5 : decode cX6_register 5 = .ok (.getfield 7, 3) := by decide +kernel
theorem dX6_register_8 : decode cX6_register 8 = .ok (.iload_n 1, 1) := by decide +kernel
theorem dX6_register_9 : decode cX6_register 9 = .ok (.iaload, 1) := by decide +kernel
theorem dX6_register_10 : decode cX6_register 10 = .ok (.ireturn, 1) := by decide +kernel
theorem dX6_register_11 : decode cX6_register 11 = .ok (.iload_n 1, 1) := by decide +kernel
theorem dX6_register_12 : decode cX6_register 12 = .ok (.iconst 4, 1) := by decide +kernel
theorem dX6_register_13 : decode cX6_register 13 = .ok (.if_icmp .ge 16, 3) := by decide +kernel
theorem dX6_register_16 : decode cX6_register 16 = .ok (.aload_n 0, 1) := by decide +kernel
theorem dX6_register_17 : decode cX6_register 17 = .ok (.getfield 7, 3) := by decide +kernel
theorem dX6_register_20 : decode cX6_register 20 = .ok (.iload_n 1, 1) := by decide +kernel
theorem dX6_register_21 : decode cX6_register 21 = .ok (.iaload, 1) := by decide +kernel
theorem dX6_register_22 : decode cX6_register 22 = .ok (.sipush 255, 3) := by decide +kernel
theorem dX6_register_25 : decode cX6_register 25 = .ok (.iand, 1) := by decide +kernel
theorem dX6_register_26 : decode cX6_register 26 = .ok (.goto 14, 3) := by decide +kernel
theorem dX6_register_29 : decode cX6_register 29 = .ok (.aload_n 0, 1) := by decide +kernel
theorem dX6_register_30 : decode cX6_register 30 = .ok (.getfield 7, 3) := by decide +kernel
theorem dX6_register_33 : decode cX6_register 33 = .ok (.iload_n 1, 1) := by decide +kernel
theorem dX6_register_34 : decode cX6_register 34 = .ok (.iconst 4, 1) := by decide +kernel
theorem dX6_register_35 : decode cX6_register 35 = .ok (.isub, 1) := by decide +kernel
theorem dX6_register_36 : decode cX6_register 36 = .ok (.iaload, 1) := by decide +kernel
theorem dX6_register_37 : decode cX6_register 37 = .ok (.bipush 8, 2) := by decide +kernel
theorem dX6_register_39 : decode cX6_register 39 = .ok (.ishr, 1) := by decide +kernel
theorem dX6_register_40 : decode cX6_register 40 = .ok (.ireturn, 1) := by decide +kernel
theorem dX6_setRegister_0 : decode cX6_setRegister 0 = .ok (.iload_n 2, 1) := by decide +kernel
theorem dX6_setRegister_1 : decode cX6_setRegister 1 = .ok (.ifCond .eq 16, 3) := by decide +kernel
theorem dX6_setRegister_4 : decode cX6_setRegister 4 = .ok (.aload_n 0, 1) := by decide +kernel
theorem dX6_setRegister_5 : decode cX6_setRegister 5 = .ok (.getfield 7, 3) := by decide +kernel
theorem dX6_setRegister_8 : decode cX6_setRegister 8 = .ok (.iload_n 1, 1) := by decide +kernel
theorem dX6_setRegister_9 : decode cX6_setRegister 9 = .ok (.iload_n 3, 1) := by decide +kernel
theorem dX6_setRegister_10 : decode cX6_setRegister 10 = .ok (.ldc 39, 2) := by decide +kernel
theorem dX6_setRegister_12 : decode cX6_setRegister 12 = .ok (.iand, 1) := by decide +kernel
theorem dX6_setRegister_13 : decode cX6_setRegister 13 = .ok (.iastore, 1) := by decide +kernel
theorem dX6_setRegister_14 : decode cX6_setRegister 14 = .ok (.goto 61, 3) := by decide +kernel
theorem dX6_setRegister_17 : decode cX6_setRegister 17 = .ok (.iload_n 1, 1) := by decide +kernel
theorem dX6_setRegister_18 : decode cX6_setRegister 18 = .ok (.iconst 4, 1) := by decide +kernel
theorem dX6_setRegister_19 : decode cX6_setRegister 19 = .ok (.if_icmp .ge 27, 3) := by decide +kernel
theorem dX6_setRegister_22 : decode cX6_setRegister 22 = .ok (.aload_n 0, 1) := by decide +kernel
theorem dX6_setRegister_23 : decode cX6_setRegister 23 = .ok (.getfield 7, 3) := by decide +kernel
theorem dX6_setRegister_26 : decode cX6_setRegister 26 = .ok (.iload_n 1, 1) := by decide +kernel
theorem dX6_setRegister_27 : decode cX6_setRegister 27 = .ok (.aload_n 0, 1) := by decide +kernel
theorem dX6_setRegister_28 : decode cX6_setRegister 28 = .ok (.getfield 7, 3) := by decide +kernel
theorem dX6_setRegister_31 : decode cX6_setRegister 31 = .ok (.iload_n 1, 1) := by decide +kernel
theorem dX6_setRegister_32 : decode cX6_setRegister 32 = .ok (.iaload, 1) := by decide +kernel
theorem dX6_setRegister_33 : decode cX6_setRegister 33 = .ok (.ldc 53, 2) := by decide +kernel
theorem dX6_setRegister_35 : decode cX6_setRegister 35 = .ok (.iand, 1) := by decide +kernel
theorem dX6_setRegister_36 : decode cX6_setRegister 36 = .ok (.iload_n 3, 1) := by decide +kernel
theorem dX6_setRegister_37 : decode cX6_setRegister 37 = .ok (.sipush 255, 3) := by decide +kernel
theorem dX6_setRegister_40 : decode cX6_setRegister 40 = .ok (.iand, 1) := by decide +kernel
theorem dX6_setRegister_41 : decode cX6_setRegister 41 = .ok (.ior, 1) := by decide +kernel
theorem dX6_setRegister_42 : decode cX6_setRegister 42 = .ok (.iastore, 1) := by decide +kernel
theorem dX6_setRegister_43 : decode cX6_setRegister 43 = .ok (.goto 32, 3) := by decide +kernel
theorem dX6_setRegister_46 : decode cX6_setRegister 46 = .ok (.aload_n 0, 1) := by decide +kernel
theorem dX6_setRegister_47 : decode cX6_setRegister 47 = .ok (.getfield 7, 3) := by decide +kernel
theorem dX6_setRegister_50 : decode cX6_setRegister 50 = .ok (.iload_n 1, 1) := by decide +kernel
theorem dX6_setRegister_51 : decode cX6_setRegister 51 = .ok (.iconst 4, 1) := by decide +kernel
theorem dX6_setRegister_52 : decode cX6_setRegister 52 = .ok (.isub, 1) := by decide +kernel
theorem dX6_setRegister_53 : decode cX6_setRegister 53 = .ok (.aload_n 0, 1) := by decide +kernel
theorem dX6_setRegister_54 : decode cX6_setRegister 54 = .ok (.getfield 7, 3) := by decide +kernel
theorem dX6_setRegister_57 : decode cX6_setRegister 57 = .ok (.iload_n 1, 1) := by decide +kernel
theorem dX6_setRegister_58 : decode cX6_setRegister 58 = .ok (.iconst 4, 1) := by decide +kernel
theorem dX6_setRegister_59 : decode cX6_setRegister 59 = .ok (.isub, 1) := by decide +kernel
theorem dX6_setRegister_60 : decode cX6_setRegister 60 = .ok (.iaload, 1) := by decide +kernel
theorem dX6_setRegister_61 : decode cX6_setRegister 61 = .ok (.sipush 255, 3) := by decide +kernel
theorem dX6_setRegister_64 : decode cX6_setRegister 64 = .ok (.iand, 1) := by decide +kernel
theorem dX6_setRegister_65 : decode cX6_setRegister 65 = .ok (.iload_n 3, 1) := by decide +kernel
theorem dX6_setRegister_66 : decode cX6_setRegister 66 = .ok (.sipush 255, 3) := by decide +kernel
theorem dX6_setRegister_69 : decode cX6_setRegister 69 = .ok (.iand, 1) := by decide +kernel
theorem dX6_setRegister_70 : decode cX6_setRegister 70 = .ok (.bipush 8, 2) := by decide +kernel
theorem dX6_setRegister_72 : decode cX6_setRegister 72 = .ok (.ishl, 1) := by decide +kernel
theorem dX6_setRegister_73 : decode cX6_setRegister 73 = .ok (.ior, 1) := by decide +kernel
theorem dX6_setRegister_74 : decode cX6_setRegister 74 = .ok (.iastore, 1) := by decide +kernel
theorem dX6_setRegister_75 : decode cX6_setRegister 75 = .ok (.return_, 1) := by decide +kernel
theorem dX6_has_0 : decode cX6_has 0 = .ok (.aload_n 0, 1) := by decide +kernel
theorem dX6_has_1 : decode cX6_has 1 = .ok (.getfield 54, 3) := by decide +kernel
theorem dX6_has_4 : decode cX6_has 4 = .ok (.iload_n 1, 1) := by decide +kernel
theorem dX6_has_5 : decode cX6_has 5 = .ok (.iand, 1) := by decide +kernel
theorem dX6_has_6 : decode cX6_has 6 = .ok (.ifCond .eq 7, 3) := by decide +kernel
theorem dX6_has_9 : decode cX6_has 9 = .ok (.iconst 1, 1) := by decide +kernel
theorem dX6_has_10 : decode cX6_has 10 = .ok (.goto 4, 3) := by decide +kernel
theorem dX6_has_13 : decode cX6_has 13 = .ok (.iconst 0, 1) := by decide +kernel
theorem dX6_has_14 : decode cX6_has 14 = .ok (.ireturn, 1) := by decide +kernel
theorem dX6_mark_0 : decode cX6_mark 0 = .ok (.aload_n 0, 1) := by decide +kernel
theorem dX6_mark_1 : decode cX6_mark 1 = .ok (.iload_n 2, 1) := by decide +kernel
theorem dX6_mark_2 : decode cX6_mark 2 = .ok (.ifCond .eq 12, 3) := by decide +kernel
theorem dX6_mark_5 : decode cX6_mark 5 = .ok (.aload_n 0, 1) := by decide +kernel
theorem dX6_mark_6 : decode cX6_mark 6 = .ok (.getfield 54, 3) := by decide +kernel
theorem dX6_mark_9 : decode cX6_mark 9 = .ok (.iload_n 1, 1) := by decide +kernel
theorem dX6_mark_10 : decode cX6_mark 10 = .ok (.ior, 1) := by decide +kernel
theorem dX6_mark_11 : decode cX6_mark 11 = .ok (.goto 11, 3) := by decide +kernel
theorem dX6_mark_14 : decode cX6_mark 14 = .ok (.aload_n 0, 1) := by decide +kernel
theorem dX6_mark_15 : decode cX6_mark 15 = .ok (.getfield 54, 3) := by decide +kernel
theorem dX6_mark_18 : decode cX6_mark 18 = .ok (.iload_n 1, 1) := by decide +kernel
theorem dX6_mark_19 : decode cX6_mark 19 = .ok (.iconst (-1), 1) := by decide +kernel
theorem dX6_mark_20 : decode cX6_mark 20 = .ok (.ixor, 1) := by decide +kernel
theorem dX6_mark_21 : decode cX6_mark 21 = .ok (.iand, 1) := by decide +kernel
theorem dX6_mark_22 : decode cX6_mark 22 = .ok (.putfield 54, 3) := by decide +kernel
theorem dX6_mark_25 : decode cX6_mark 25 = .ok (.return_, 1) := by decide +kernel
theorem dX6_push_0 : decode cX6_push 0 = .ok (.aload_n 0, 1) := by decide +kernel
theorem dX6_push_1 : decode cX6_push 1 = .ok (.getfield 7, 3) := by decide +kernel
theorem dX6_push_4 : decode cX6_push 4 = .ok (.iconst 4, 1) := by decide +kernel
theorem dX6_push_5 : decode cX6_push 5 = .ok (.aload_n 0, 1) := by decide +kernel
theorem dX6_push_6 : decode cX6_push 6 = .ok (.getfield 7, 3) := by decide +kernel
theorem dX6_push_9 : decode cX6_push 9 = .ok (.iconst 4, 1) := by decide +kernel
theorem dX6_push_10 : decode cX6_push 10 = .ok (.iaload, 1) := by decide +kernel
theorem dX6_push_11 : decode cX6_push 11 = .ok (.iconst 2, 1) := by decide +kernel
theorem dX6_push_12 : decode cX6_push 12 = .ok (.isub, 1) := by decide +kernel
theorem dX6_push_13 : decode cX6_push 13 = .ok (.ldc 39, 2) := by decide +kernel
theorem dX6_push_15 : decode cX6_push 15 = .ok (.iand, 1) := by decide +kernel
theorem dX6_push_16 : decode cX6_push 16 = .ok (.iastore, 1) := by decide +kernel
theorem dX6_push_17 : decode cX6_push 17 = .ok (.aload_n 0, 1) := by decide +kernel
theorem dX6_push_18 : decode cX6_push 18 = .ok (.aload_n 0, 1) := by decide +kernel
theorem dX6_push_19 : decode cX6_push 19 = .ok (.getfield 13, 3) := by decide +kernel
theorem dX6_push_22 : decode cX6_push 22 = .ok (.iconst 2, 1) := by decide +kernel
theorem dX6_push_23 : decode cX6_push 23 = .ok (.iaload, 1) := by decide +kernel
theorem dX6_push_24 : decode cX6_push 24 = .ok (.aload_n 0, 1) := by decide +kernel
theorem dX6_push_25 : decode cX6_push 25 = .ok (.getfield 7, 3) := by decide +kernel
theorem dX6_push_28 : decode cX6_push 28 = .ok (.iconst 4, 1) := by decide +kernel
theorem dX6_push_29 : decode cX6_push 29 = .ok (.iaload, 1) := by decide +kernel
theorem dX6_push_30 : decode cX6_push 30 = .ok (.iconst 1, 1) := by decide +kernel
theorem dX6_push_31 : decode cX6_push 31 = .ok (.iload_n 1, 1) := by decide +kernel
theorem dX6_push_32 : decode cX6_push 32 = .ok (.invokevirtual 57, 3) := by decide +kernel
theorem dX6_push_35 : decode cX6_push 35 = .ok (.return_, 1) := by decide +kernel
theorem dX6_pop_0 : decode cX6_pop 0 = .ok (.aload_n 0, 1) := by decide +kernel
theorem dX6_pop_1 : decode cX6_pop 1 = .ok (.aload_n 0, 1) := by decide +kernel
theorem dX6_pop_2 : decode cX6_pop 2 = .ok (.getfield 13, 3) := by decide +kernel
theorem dX6_pop_5 : decode cX6_pop 5 = .ok (.iconst 2, 1) := by decide +kernel
theorem dX6_pop_6 : decode cX6_pop 6 = .ok (.iaload, 1) := by decide +kernel
theorem dX6_pop_7 : decode cX6_pop 7 = .ok (.aload_n 0, 1) := by decide +kernel
theorem dX6_pop_8 : decode cX6_pop 8 = .ok (.getfield 7, 3) := by decide +kernel
theorem dX6_pop_11 : decode cX6_pop 11 = .ok (.iconst 4, 1) := by decide +kernel
theorem dX6_pop_12 : decode cX6_pop 12 = .ok (.iaload, 1) := by decide +kernel
theorem dX6_pop_13 : decode cX6_pop 13 = .ok (.iconst 1, 1) := by decide +kernel
theorem dX6_pop_14 : decode cX6_pop 14 = .ok (.invokevirtual 61, 3) := by decide +kernel
theorem dX6_pop_17 : decode cX6_pop 17 = .ok (.istore_n 1, 1) := by decide +kernel
theorem dX6_pop_18 : decode cX6_pop 18 = .ok (.aload_n 0, 1) := by decide +kernel
theorem dX6_pop_19 : decode cX6_pop 19 = .ok (.getfield 7, 3) := by decide +kernel
theorem dX6_pop_22 : decode cX6_pop 22 = .ok (.iconst 4, 1) := by decide +kernel
theorem dX6_pop_23 : decode cX6_pop 23 = .ok (.aload_n 0, 1) := by decide +kernel
theorem dX6_pop_24 : decode cX6_pop 24 = .ok (.getfield 7, 3) := by decide +kernel
theorem dX6_pop_27 : decode cX6_pop 27 = .ok (.iconst 4, 1) := by decide +kernel
theorem dX6_pop_28 : decode cX6_pop 28 = .ok (.iaload, 1) := by decide +kernel
theorem dX6_pop_29 : decode cX6_pop 29 = .ok (.iconst 2, 1) := by decide +kernel
theorem dX6_pop_30 : decode cX6_pop 30 = .ok (.iadd, 1) := by decide +kernel
theorem dX6_pop_31 : decode cX6_pop 31 = .ok (.ldc 39, 2) := by decide +kernel
theorem dX6_pop_33 : decode cX6_pop 33 = .ok (.iand, 1) := by decide +kernel
theorem dX6_pop_34 : decode cX6_pop 34 = .ok (.iastore, 1) := by decide +kernel
theorem dX6_pop_35 : decode cX6_pop 35 = .ok (.iload_n 1, 1) := by decide +kernel
theorem dX6_pop_36 : decode cX6_pop 36 = .ok (.ireturn, 1) := by decide +kernel
theorem dX6_top_0 : decode cX6_top 0 = .ok (.iload_n 0, 1) := by decide +kernel
theorem dX6_top_1 : decode cX6_top 1 = .ok (.ifCond .eq 8, 3) := by decide +kernel
theorem dX6_top_4 : decode cX6_top 4 = .ok (.ldc 65, 2) := by decide +kernel
theorem dX6_top_6 : decode cX6_top 6 = .ok (.goto 6, 3) := by decide +kernel
theorem dX6_top_9 : decode cX6_top 9 = .ok (.sipush 128, 3) := by decide +kernel
theorem dX6_top_12 : decode cX6_top 12 = .ok (.ireturn, 1) := by decide +kernel
theorem dX6_all_0 : decode cX6_all 0 = .ok (.iload_n 0, 1) := by decide +kernel
theorem dX6_all_1 : decode cX6_all 1 = .ok (.ifCond .eq 8, 3) := by decide +kernel
theorem dX6_all_4 : decode cX6_all 4 = .ok (.ldc 39, 2) := by decide +kernel
theorem dX6_all_6 : decode cX6_all 6 = .ok (.goto 6, 3) := by decide +kernel
theorem dX6_all_9 : decode cX6_all 9 = .ok (.sipush 255, 3) := by decide +kernel
theorem dX6_all_12 : decode cX6_all 12 = .ok (.ireturn, 1) := by decide +kernel
theorem dX6_signed_0 : decode cX6_signed 0 = .ok (.iload_n 0, 1) := by decide +kernel
theorem dX6_signed_1 : decode cX6_signed 1 = .ok (.iload_n 1, 1) := by decide +kernel
theorem dX6_signed_2 : decode cX6_signed 2 = .ok (.invokestatic 66, 3) := by decide +kernel
theorem dX6_signed_5 : decode cX6_signed 5 = .ok (.iand, 1) := by decide +kernel
theorem dX6_signed_6 : decode cX6_signed 6 = .ok (.ifCond .eq 14, 3) := by decide +kernel
theorem dX6_signed_9 : decode cX6_signed 9 = .ok (.iload_n 0, 1) := by decide +kernel
theorem dX6_signed_10 : decode cX6_signed 10 = .ok (.iload_n 1, 1) := by decide +kernel
theorem dX6_signed_11 : decode cX6_signed 11 = .ok (.invokestatic 70, 3) := by decide +kernel
theorem dX6_signed_14 : decode cX6_signed 14 = .ok (.isub, 1) := by decide +kernel
theorem dX6_signed_15 : decode cX6_signed 15 = .ok (.iconst 1, 1) := by decide +kernel
theorem dX6_signed_16 : decode cX6_signed 16 = .ok (.isub, 1) := by decide +kernel
theorem dX6_signed_17 : decode cX6_signed 17 = .ok (.goto 4, 3) := by decide +kernel
theorem dX6_signed_20 : decode cX6_signed 20 = .ok (.iload_n 0, 1) := by decide +kernel
theorem dX6_signed_21 : decode cX6_signed 21 = .ok (.ireturn, 1) := by decide +kernel
theorem dX6_byAnswer_0 : decode cX6_byAnswer 0 = .ok (.aload_n 0, 1) := by decide +kernel
theorem dX6_byAnswer_1 : decode cX6_byAnswer 1 = .ok (.bipush 64, 2) := by decide +kernel
theorem dX6_byAnswer_3 : decode cX6_byAnswer 3 = .ok (.iload_n 1, 1) := by decide +kernel
theorem dX6_byAnswer_4 : decode cX6_byAnswer 4 = .ok (.ifCond .ne 7, 3) := by decide +kernel
theorem dX6_byAnswer_7 : decode cX6_byAnswer 7 = .ok (.iconst 1, 1) := by decide +kernel
theorem dX6_byAnswer_8 : decode cX6_byAnswer 8 = .ok (.goto 4, 3) := by decide +kernel
theorem dX6_byAnswer_11 : decode cX6_byAnswer 11 = .ok (.iconst 0, 1) := by decide +kernel
theorem dX6_byAnswer_12 : decode cX6_byAnswer 12 = .ok (.invokevirtual 73, 3) := by decide +kernel
theorem dX6_byAnswer_15 : decode cX6_byAnswer 15 = .ok (.aload_n 0, 1) := by decide +kernel
theorem dX6_byAnswer_16 : decode cX6_byAnswer 16 = .ok (.sipush 128, 3) := by decide +kernel
theorem dX6_byAnswer_19 : decode cX6_byAnswer 19 = .ok (.iload_n 1, 1) := by decide +kernel
theorem dX6_byAnswer_20 : decode cX6_byAnswer 20 = .ok (.iload_n 2, 1) := by decide +kernel
theorem dX6_byAnswer_21 : decode cX6_byAnswer 21 = .ok (.invokestatic 66, 3) := by decide +kernel
theorem dX6_byAnswer_24 : decode cX6_byAnswer 24 = .ok (.iand, 1) := by decide +kernel
theorem dX6_byAnswer_25 : decode cX6_byAnswer 25 = .ok (.ifCond .eq 7, 3) := by decide +kernel
theorem dX6_byAnswer_28 : decode cX6_byAnswer 28 = .ok (.iconst 1, 1) := by decide +kernel
theorem dX6_byAnswer_29 : decode cX6_byAnswer 29 = .ok (.goto 4, 3) := by decide +kernel
theorem dX6_byAnswer_32 : decode cX6_byAnswer 32 = .ok (.iconst 0, 1) := by decide +kernel
theorem dX6_byAnswer_33 : decode cX6_byAnswer 33 = .ok (.invokevirtual 73, 3) := by decide +kernel
theorem dX6_byAnswer_36 : decode cX6_byAnswer 36 = .ok (.iconst 0, 1) := by decide +kernel
theorem dX6_byAnswer_37 : decode cX6_byAnswer 37 = .ok (.istore_n 3, 1) := by decide +kernel
theorem dX6_byAnswer_38 : decode cX6_byAnswer 38 = .ok (.iconst 0, 1) := by decide +kernel
theorem dX6_byAnswer_39 : decode cX6_byAnswer 39 = .ok (.istore 4, 2) := by decide +kernel
theorem dX6_byAnswer_41 : decode cX6_byAnswer 41 = .ok (.iload 4, 2) := by decide +kernel
theorem dX6_byAnswer_43 : decode cX6_byAnswer 43 = .ok (.bipush 8, 2) := by decide +kernel
theorem dX6_byAnswer_45 : decode cX6_byAnswer 45 = .ok (.if_icmp .ge 18, 3) := by decide +kernel
theorem dX6_byAnswer_48 : decode cX6_byAnswer 48 = .ok (.iload_n 3, 1) := by decide +kernel
theorem dX6_byAnswer_49 : decode cX6_byAnswer 49 = .ok (.iload_n 1, 1) := by decide +kernel
theorem dX6_byAnswer_50 : decode cX6_byAnswer 50 = .ok (.iload 4, 2) := by decide +kernel
theorem dX6_byAnswer_52 : decode cX6_byAnswer 52 = .ok (.ishr, 1) := by decide +kernel
theorem dX6_byAnswer_53 : decode cX6_byAnswer 53 = .ok (.iconst 1, 1) := by decide +kernel
theorem dX6_byAnswer_54 : decode cX6_byAnswer 54 = .ok (.iand, 1) := by decide +kernel
theorem dX6_byAnswer_55 : decode cX6_byAnswer 55 = .ok (.iadd, 1) := by decide +kernel
theorem dX6_byAnswer_56 : decode cX6_byAnswer 56 = .ok (.istore_n 3, 1) := by decide +kernel
theorem dX6_byAnswer_57 : decode cX6_byAnswer 57 = .ok (.iinc 4 1, 3) := by decide +kernel
theorem dX6_byAnswer_60 : decode cX6_byAnswer 60 = .ok (.goto (-19), 3) := by decide +kernel
theorem dX6_byAnswer_63 : decode cX6_byAnswer 63 = .ok (.aload_n 0, 1) := by decide +kernel
theorem dX6_byAnswer_64 : decode cX6_byAnswer 64 = .ok (.iconst 4, 1) := by decide +kernel
theorem dX6_byAnswer_65 : decode cX6_byAnswer 65 = .ok (.iload_n 3, 1) := by decide +kernel
theorem dX6_byAnswer_66 : decode cX6_byAnswer 66 = .ok (.iconst 2, 1) := by decide +kernel
theorem dX6_byAnswer_67 : decode cX6_byAnswer 67 = .ok (.irem, 1) := by decide +kernel
theorem dX6_byAnswer_68 : decode cX6_byAnswer 68 = .ok (.ifCond .ne 7, 3) := by decide +kernel
theorem dX6_byAnswer_71 : decode cX6_byAnswer 71 = .ok (.iconst 1, 1) := by decide +kernel
theorem dX6_byAnswer_72 : decode cX6_byAnswer 72 = .ok (.goto 4, 3) := by decide +kernel
theorem dX6_byAnswer_75 : decode cX6_byAnswer 75 = .ok (.iconst 0, 1) := by decide +kernel
theorem dX6_byAnswer_76 : decode cX6_byAnswer 76 = .ok (.invokevirtual 73, 3) := by decide +kernel
theorem dX6_byAnswer_79 : decode cX6_byAnswer 79 = .ok (.return_, 1) := by decide +kernel
theorem dX6_sum_0 : decode cX6_sum 0 = .ok (.iload_n 1, 1) := by decide +kernel
theorem dX6_sum_1 : decode cX6_sum 1 = .ok (.iload_n 2, 1) := by decide +kernel
theorem dX6_sum_2 : decode cX6_sum 2 = .ok (.iadd, 1) := by decide +kernel
theorem dX6_sum_3 : decode cX6_sum 3 = .ok (.iload_n 3, 1) := by decide +kernel
theorem dX6_sum_4 : decode cX6_sum 4 = .ok (.iadd, 1) := by decide +kernel
theorem dX6_sum_5 : decode cX6_sum 5 = .ok (.istore 5, 2) := by decide +kernel
theorem dX6_sum_7 : decode cX6_sum 7 = .ok (.iload_n 1, 1) := by decide +kernel
theorem dX6_sum_8 : decode cX6_sum 8 = .ok (.iload 4, 2) := by decide +kernel
theorem dX6_sum_10 : decode cX6_sum 10 = .ok (.invokestatic 77, 3) := by decide +kernel
theorem dX6_sum_13 : decode cX6_sum 13 = .ok (.iload_n 2, 1) := by decide +kernel
theorem dX6_sum_14 : decode cX6_sum 14 = .ok (.iload 4, 2) := by decide +kernel
theorem dX6_sum_16 : decode cX6_sum 16 = .ok (.invokestatic 77, 3) := by decide +kernel
theorem dX6_sum_19 : decode cX6_sum 19 = .ok (.iadd, 1) := by decide +kernel
theorem dX6_sum_20 : decode cX6_sum 20 = .ok (.iload_n 3, 1) := by decide +kernel
theorem dX6_sum_21 : decode cX6_sum 21 = .ok (.iadd, 1) := by decide +kernel
theorem dX6_sum_22 : decode cX6_sum 22 = .ok (.istore 6, 2) := by decide +kernel
theorem dX6_sum_24 : decode cX6_sum 24 = .ok (.aload_n 0, 1) := by decide +kernel
theorem dX6_sum_25 : decode cX6_sum 25 = .ok (.iconst 1, 1) := by decide +kernel
theorem dX6_sum_26 : decode cX6_sum 26 = .ok (.iload 5, 2) := by decide +kernel
theorem dX6_sum_28 : decode cX6_sum 28 = .ok (.iload 4, 2) := by decide +kernel
theorem dX6_sum_30 : decode cX6_sum 30 = .ok (.invokestatic 70, 3) := by decide +kernel
theorem dX6_sum_33 : decode cX6_sum 33 = .ok (.if_icmp .le 7, 3) := by decide +kernel
theorem dX6_sum_36 : decode cX6_sum 36 = .ok (.iconst 1, 1) := by decide +kernel
theorem dX6_sum_37 : decode cX6_sum 37 = .ok (.goto 4, 3) := by decide +kernel
theorem dX6_sum_40 : decode cX6_sum 40 = .ok (.iconst 0, 1) := by decide +kernel
theorem dX6_sum_41 : decode cX6_sum 41 = .ok (.invokevirtual 73, 3) := by decide +kernel
theorem dX6_sum_44 : decode cX6_sum 44 = .ok (.aload_n 0, 1) := by decide +kernel
theorem dX6_sum_45 : decode cX6_sum 45 = .ok (.bipush 16, 2) := by decide +kernel
theorem dX6_sum_47 : decode cX6_sum 47 = .ok (.iload_n 1, 1) := by decide +kernel
theorem dX6_sum_48 : decode cX6_sum 48 = .ok (.bipush 15, 2) := by decide +kernel
theorem dX6_sum_50 : decode cX6_sum 50 = .ok (.iand, 1) := by decide +kernel
theorem dX6_sum_51 : decode cX6_sum 51 = .ok (.iload_n 2, 1) := by decide +kernel
theorem dX6_sum_52 : decode cX6_sum 52 = .ok (.bipush 15, 2) := by decide +kernel
theorem dX6_sum_54 : decode cX6_sum 54 = .ok (.iand, 1) := by decide +kernel
theorem dX6_sum_55 : decode cX6_sum 55 = .ok (.iadd, 1) := by decide +kernel
theorem dX6_sum_56 : decode cX6_sum 56 = .ok (.iload_n 3, 1) := by decide +kernel
theorem dX6_sum_57 : decode cX6_sum 57 = .ok (.iadd, 1) := by decide +kernel
theorem dX6_sum_58 : decode cX6_sum 58 = .ok (.bipush 15, 2) := by decide +kernel
theorem dX6_sum_60 : decode cX6_sum 60 = .ok (.if_icmp .le 7, 3) := by decide +kernel
theorem dX6_sum_63 : decode cX6_sum 63 = .ok (.iconst 1, 1) := by decide +kernel
theorem dX6_sum_64 : decode cX6_sum 64 = .ok (.goto 4, 3) := by decide +kernel
theorem dX6_sum_67 : decode cX6_sum 67 = .ok (.iconst 0, 1) := by decide +kernel
theorem dX6_sum_68 : decode cX6_sum 68 = .ok (.invokevirtual 73, 3) := by decide +kernel
theorem dX6_sum_71 : decode cX6_sum 71 = .ok (.aload_n 0, 1) := by decide +kernel
theorem dX6_sum_72 : decode cX6_sum 72 = .ok (.sipush 2048, 3) := by decide +kernel
theorem dX6_sum_75 : decode cX6_sum 75 = .ok (.iload 6, 2) := by decide +kernel
theorem dX6_sum_77 : decode cX6_sum 77 = .ok (.iload 4, 2) := by decide +kernel
theorem dX6_sum_79 : decode cX6_sum 79 = .ok (.invokestatic 66, 3) := by decide +kernel
theorem dX6_sum_82 : decode cX6_sum 82 = .ok (.ineg, 1) := by decide +kernel
theorem dX6_sum_83 : decode cX6_sum 83 = .ok (.if_icmp .lt 13, 3) := by decide +kernel
theorem dX6_sum_86 : decode cX6_sum 86 = .ok (.iload 6, 2) := by decide +kernel
theorem dX6_sum_88 : decode cX6_sum 88 = .ok (.iload 4, 2) := by decide +kernel
theorem dX6_sum_90 : decode cX6_sum 90 = .ok (.invokestatic 66, 3) := by decide +kernel
theorem dX6_sum_93 : decode cX6_sum 93 = .ok (.if_icmp .lt 7, 3) := by decide +kernel
theorem dX6_sum_96 : decode cX6_sum 96 = .ok (.iconst 1, 1) := by decide +kernel
theorem dX6_sum_97 : decode cX6_sum 97 = .ok (.goto 4, 3) := by decide +kernel
theorem dX6_sum_100 : decode cX6_sum 100 = .ok (.iconst 0, 1) := by decide +kernel
theorem dX6_sum_101 : decode cX6_sum 101 = .ok (.invokevirtual 73, 3) := by decide +kernel
theorem dX6_sum_104 : decode cX6_sum 104 = .ok (.aload_n 0, 1) := by decide +kernel
theorem dX6_sum_105 : decode cX6_sum 105 = .ok (.iload 5, 2) := by decide +kernel
theorem dX6_sum_107 : decode cX6_sum 107 = .ok (.iload 4, 2) := by decide +kernel
theorem dX6_sum_109 : decode cX6_sum 109 = .ok (.invokestatic 70, 3) := by decide +kernel
theorem dX6_sum_112 : decode cX6_sum 112 = .ok (.iand, 1) := by decide +kernel
theorem dX6_sum_113 : decode cX6_sum 113 = .ok (.iload 4, 2) := by decide +kernel
theorem dX6_sum_115 : decode cX6_sum 115 = .ok (.invokevirtual 81, 3) := by decide +kernel
theorem dX6_sum_118 : decode cX6_sum 118 = .ok (.iload 5, 2) := by decide +kernel
theorem dX6_sum_120 : decode cX6_sum 120 = .ok (.iload 4, 2) := by decide +kernel
theorem dX6_sum_122 : decode cX6_sum 122 = .ok (.invokestatic 70, 3) := by decide +kernel
theorem dX6_sum_125 : decode cX6_sum 125 = .ok (.iand, 1) := by decide +kernel
theorem dX6_sum_126 : decode cX6_sum 126 = .ok (.ireturn, 1) := by decide +kernel
theorem dX6_difference_0 : decode cX6_difference 0 = .ok (.iload_n 1, 1) := by decide +kernel
theorem dX6_difference_1 : decode cX6_difference 1 = .ok (.iload_n 2, 1) := by decide +kernel
theorem dX6_difference_2 : decode cX6_difference 2 = .ok (.isub, 1) := by decide +kernel
theorem dX6_difference_3 : decode cX6_difference 3 = .ok (.iload_n 3, 1) := by decide +kernel
theorem dX6_difference_4 : decode cX6_difference 4 = .ok (.isub, 1) := by decide +kernel
theorem dX6_difference_5 : decode cX6_difference 5 = .ok (.istore 5, 2) := by decide +kernel
theorem dX6_difference_7 : decode cX6_difference 7 = .ok (.iload_n 1, 1) := by decide +kernel
theorem dX6_difference_8 : decode cX6_difference 8 = .ok (.iload 4, 2) := by decide +kernel
theorem dX6_difference_10 : decode cX6_difference 10 = .ok (.invokestatic 77, 3) := by decide +kernel
theorem dX6_difference_13 : decode cX6_difference 13 = .ok (.iload_n 2, 1) := by decide +kernel
theorem dX6_difference_14 : decode cX6_difference 14 = .ok (.iload 4, 2) := by decide +kernel
theorem dX6_difference_16 : decode cX6_difference 16 = .ok (.invokestatic 77, 3) := by decide +kernel
theorem dX6_difference_19 : decode cX6_difference 19 = .ok (.isub, 1) := by decide +kernel
theorem dX6_difference_20 : decode cX6_difference 20 = .ok (.iload_n 3, 1) := by decide +kernel
theorem dX6_difference_21 : decode cX6_difference 21 = .ok (.isub, 1) := by decide +kernel
theorem dX6_difference_22 : decode cX6_difference 22 = .ok (.istore 6, 2) := by decide +kernel
theorem dX6_difference_24 : decode cX6_difference 24 = .ok (.aload_n 0, 1) := by decide +kernel
theorem dX6_difference_25 : decode cX6_difference 25 = .ok (.iconst 1, 1) := by decide +kernel
theorem dX6_difference_26 : decode cX6_difference 26 = .ok (.iload 5, 2) := by decide +kernel
theorem dX6_difference_28 : decode cX6_difference 28 = .ok (.ifCond .ge 7, 3) := by decide +kernel
theorem dX6_difference_31 : decode cX6_difference 31 = .ok (.iconst 1, 1) := by decide +kernel
theorem dX6_difference_32 : decode cX6_difference 32 = .ok (.goto 4, 3) := by decide +kernel
theorem dX6_difference_35 : decode cX6_difference 35 = .ok (.iconst 0, 1) := by decide +kernel
theorem dX6_difference_36 : decode cX6_difference 36 = .ok (.invokevirtual 73, 3) := by decide +kernel
theorem dX6_difference_39 : decode cX6_difference 39 = .ok (.aload_n 0, 1) := by decide +kernel
theorem dX6_difference_40 : decode cX6_difference 40 = .ok (.bipush 16, 2) := by decide +kernel
theorem dX6_difference_42 : decode cX6_difference 42 = .ok (.iload_n 1, 1) := by decide +kernel
theorem dX6_difference_43 : decode cX6_difference 43 = .ok (.bipush 15, 2) := by decide +kernel
theorem dX6_difference_45 : decode cX6_difference 45 = .ok (.iand, 1) := by decide +kernel
theorem dX6_difference_46 : decode cX6_difference 46 = .ok (.iload_n 2, 1) := by decide +kernel
theorem dX6_difference_47 : decode cX6_difference 47 = .ok (.bipush 15, 2) := by decide +kernel
theorem dX6_difference_49 : decode cX6_difference 49 = .ok (.iand, 1) := by decide +kernel
theorem dX6_difference_50 : decode cX6_difference 50 = .ok (.isub, 1) := by decide +kernel
theorem dX6_difference_51 : decode cX6_difference 51 = .ok (.iload_n 3, 1) := by decide +kernel
theorem dX6_difference_52 : decode cX6_difference 52 = .ok (.isub, 1) := by decide +kernel
theorem dX6_difference_53 : decode cX6_difference 53 = .ok (.ifCond .ge 7, 3) := by decide +kernel
theorem dX6_difference_56 : decode cX6_difference 56 = .ok (.iconst 1, 1) := by decide +kernel
theorem dX6_difference_57 : decode cX6_difference 57 = .ok (.goto 4, 3) := by decide +kernel
theorem dX6_difference_60 : decode cX6_difference 60 = .ok (.iconst 0, 1) := by decide +kernel
theorem dX6_difference_61 : decode cX6_difference 61 = .ok (.invokevirtual 73, 3) := by decide +kernel
theorem dX6_difference_64 : decode cX6_difference 64 = .ok (.aload_n 0, 1) := by decide +kernel
theorem dX6_difference_65 : decode cX6_difference 65 = .ok (.sipush 2048, 3) := by decide +kernel
theorem dX6_difference_68 : decode cX6_difference 68 = .ok (.iload 6, 2) := by decide +kernel
theorem dX6_difference_70 : decode cX6_difference 70 = .ok (.iload 4, 2) := by decide +kernel
theorem dX6_difference_72 : decode cX6_difference 72 = .ok (.invokestatic 66, 3) := by decide +kernel
theorem dX6_difference_75 : decode cX6_difference 75 = .ok (.ineg, 1) := by decide +kernel
theorem dX6_difference_76 : decode cX6_difference 76 = .ok (.if_icmp .lt 13, 3) := by decide +kernel
theorem dX6_difference_79 : decode cX6_difference 79 = .ok (.iload 6, 2) := by decide +kernel
theorem dX6_difference_81 : decode cX6_difference 81 = .ok (.iload 4, 2) := by decide +kernel
theorem dX6_difference_83 : decode cX6_difference 83 = .ok (.invokestatic 66, 3) := by decide +kernel
theorem dX6_difference_86 : decode cX6_difference 86 = .ok (.if_icmp .lt 7, 3) := by decide +kernel
theorem dX6_difference_89 : decode cX6_difference 89 = .ok (.iconst 1, 1) := by decide +kernel
theorem dX6_difference_90 : decode cX6_difference 90 = .ok (.goto 4, 3) := by decide +kernel
theorem dX6_difference_93 : decode cX6_difference 93 = .ok (.iconst 0, 1) := by decide +kernel
theorem dX6_difference_94 : decode cX6_difference 94 = .ok (.invokevirtual 73, 3) := by decide +kernel
theorem dX6_difference_97 : decode cX6_difference 97 = .ok (.aload_n 0, 1) := by decide +kernel
theorem dX6_difference_98 : decode cX6_difference 98 = .ok (.iload 5, 2) := by decide +kernel
theorem dX6_difference_100 : decode cX6_difference 100 = .ok (.iload 4, 2) := by decide +kernel
theorem dX6_difference_102 : decode cX6_difference 102 = .ok (.invokestatic 70, 3) := by decide +kernel
theorem dX6_difference_105 : decode cX6_difference 105 = .ok (.iand, 1) := by decide +kernel
theorem dX6_difference_106 : decode cX6_difference 106 = .ok (.iload 4, 2) := by decide +kernel
theorem dX6_difference_108 : decode cX6_difference 108 = .ok (.invokevirtual 81, 3) := by decide +kernel
theorem dX6_difference_111 : decode cX6_difference 111 = .ok (.iload 5, 2) := by decide +kernel
theorem dX6_difference_113 : decode cX6_difference 113 = .ok (.iload 4, 2) := by decide +kernel
theorem dX6_difference_115 : decode cX6_difference 115 = .ok (.invokestatic 70, 3) := by decide +kernel
theorem dX6_difference_118 : decode cX6_difference 118 = .ok (.iand, 1) := by decide +kernel
theorem dX6_difference_119 : decode cX6_difference 119 = .ok (.ireturn, 1) := by decide +kernel
theorem dX6_bits_0 : decode cX6_bits 0 = .ok (.aload_n 0, 1) := by decide +kernel
theorem dX6_bits_1 : decode cX6_bits 1 = .ok (.aload_n 0, 1) := by decide +kernel
theorem dX6_bits_2 : decode cX6_bits 2 = .ok (.getfield 54, 3) := by decide +kernel
theorem dX6_bits_5 : decode cX6_bits 5 = .ok (.sipush (-2066), 3) := by decide +kernel
theorem dX6_bits_8 : decode cX6_bits 8 = .ok (.iand, 1) := by decide +kernel
theorem dX6_bits_9 : decode cX6_bits 9 = .ok (.putfield 54, 3) := by decide +kernel
theorem dX6_bits_12 : decode cX6_bits 12 = .ok (.aload_n 0, 1) := by decide +kernel
theorem dX6_bits_13 : decode cX6_bits 13 = .ok (.iload_n 1, 1) := by decide +kernel
theorem dX6_bits_14 : decode cX6_bits 14 = .ok (.iload_n 2, 1) := by decide +kernel
theorem dX6_bits_15 : decode cX6_bits 15 = .ok (.invokevirtual 81, 3) := by decide +kernel
theorem dX6_bits_18 : decode cX6_bits 18 = .ok (.iload_n 1, 1) := by decide +kernel
theorem dX6_bits_19 : decode cX6_bits 19 = .ok (.ireturn, 1) := by decide +kernel
theorem dX6_operation_0 : decode cX6_operation 0 = .ok (.aload_n 0, 1) := by decide +kernel
theorem dX6_operation_1 : decode cX6_operation 1 = .ok (.getfield 54, 3) := by decide +kernel
theorem dX6_operation_4 : decode cX6_operation 4 = .ok (.iconst 1, 1) := by decide +kernel
theorem dX6_operation_5 : decode cX6_operation 5 = .ok (.iand, 1) := by decide +kernel
theorem dX6_operation_6 : decode cX6_operation 6 = .ok (.istore 5, 2) := by decide +kernel
theorem dX6_operation_8 : decode cX6_operation 8 = .ok (.iload_n 1, 1) := by decide +kernel
theorem dX6_operation_9 : decode cX6_operation 9 = .ok (.tableswitch 229 0 11 #[63, 73, 83, 94, 105, 115, 125, 135, 148, 161, 190, 219], 63) := by decide +kernel
theorem dX6_operation_72 : decode cX6_operation 72 = .ok (.aload_n 0, 1) := by decide +kernel
theorem dX6_operation_73 : decode cX6_operation 73 = .ok (.iload_n 2, 1) := by decide +kernel
theorem dX6_operation_74 : decode cX6_operation 74 = .ok (.iload_n 3, 1) := by decide +kernel
theorem dX6_operation_75 : decode cX6_operation 75 = .ok (.iconst 0, 1) := by decide +kernel
theorem dX6_operation_76 : decode cX6_operation 76 = .ok (.iload 4, 2) := by decide +kernel
theorem dX6_operation_78 : decode cX6_operation 78 = .ok (.invokevirtual 84, 3) := by decide +kernel
theorem dX6_operation_81 : decode cX6_operation 81 = .ok (.ireturn, 1) := by decide +kernel
theorem dX6_operation_82 : decode cX6_operation 82 = .ok (.aload_n 0, 1) := by decide +kernel
theorem dX6_operation_83 : decode cX6_operation 83 = .ok (.iload_n 2, 1) := by decide +kernel
theorem dX6_operation_84 : decode cX6_operation 84 = .ok (.iload_n 3, 1) := by decide +kernel
theorem dX6_operation_85 : decode cX6_operation 85 = .ok (.ior, 1) := by decide +kernel
theorem dX6_operation_86 : decode cX6_operation 86 = .ok (.iload 4, 2) := by decide +kernel
theorem dX6_operation_88 : decode cX6_operation 88 = .ok (.invokevirtual 88, 3) := by decide +kernel
theorem dX6_operation_91 : decode cX6_operation 91 = .ok (.ireturn, 1) := by decide +kernel
theorem dX6_operation_92 : decode cX6_operation 92 = .ok (.aload_n 0, 1) := by decide +kernel
theorem dX6_operation_93 : decode cX6_operation 93 = .ok (.iload_n 2, 1) := by decide +kernel
theorem dX6_operation_94 : decode cX6_operation 94 = .ok (.iload_n 3, 1) := by decide +kernel
theorem dX6_operation_95 : decode cX6_operation 95 = .ok (.iload 5, 2) := by decide +kernel
theorem dX6_operation_97 : decode cX6_operation 97 = .ok (.iload 4, 2) := by decide +kernel
theorem dX6_operation_99 : decode cX6_operation 99 = .ok (.invokevirtual 84, 3) := by decide +kernel
theorem dX6_operation_102 : decode cX6_operation 102 = .ok (.ireturn, 1) := by decide +kernel
theorem dX6_operation_103 : decode cX6_operation 103 = .ok (.aload_n 0, 1) := by decide +kernel
theorem dX6_operation_104 : decode cX6_operation 104 = .ok (.iload_n 2, 1) := by decide +kernel
theorem dX6_operation_105 : decode cX6_operation 105 = .ok (.iload_n 3, 1) := by decide +kernel
theorem dX6_operation_106 : decode cX6_operation 106 = .ok (.iload 5, 2) := by decide +kernel
theorem dX6_operation_108 : decode cX6_operation 108 = .ok (.iload 4, 2) := by decide +kernel
theorem dX6_operation_110 : decode cX6_operation 110 = .ok (.invokevirtual 91, 3) := by decide +kernel
theorem dX6_operation_113 : decode cX6_operation 113 = .ok (.ireturn, 1) := by decide +kernel
theorem dX6_operation_114 : decode cX6_operation 114 = .ok (.aload_n 0, 1) := by decide +kernel
theorem dX6_operation_115 : decode cX6_operation 115 = .ok (.iload_n 2, 1) := by decide +kernel
theorem dX6_operation_116 : decode cX6_operation 116 = .ok (.iload_n 3, 1) := by decide +kernel
theorem dX6_operation_117 : decode cX6_operation 117 = .ok (.iand, 1) := by decide +kernel
theorem dX6_operation_118 : decode cX6_operation 118 = .ok (.iload 4, 2) := by decide +kernel
theorem dX6_operation_120 : decode cX6_operation 120 = .ok (.invokevirtual 88, 3) := by decide +kernel
theorem dX6_operation_123 : decode cX6_operation 123 = .ok (.ireturn, 1) := by decide +kernel
theorem dX6_operation_124 : decode cX6_operation 124 = .ok (.aload_n 0, 1) := by decide +kernel
theorem dX6_operation_125 : decode cX6_operation 125 = .ok (.iload_n 2, 1) := by decide +kernel
theorem dX6_operation_126 : decode cX6_operation 126 = .ok (.iload_n 3, 1) := by decide +kernel
theorem dX6_operation_127 : decode cX6_operation 127 = .ok (.iconst 0, 1) := by decide +kernel
theorem dX6_operation_128 : decode cX6_operation 128 = .ok (.iload 4, 2) := by decide +kernel
theorem dX6_operation_130 : decode cX6_operation 130 = .ok (.invokevirtual 91, 3) := by decide +kernel
theorem dX6_operation_133 : decode cX6_operation 133 = .ok (.ireturn, 1) := by decide +kernel
theorem dX6_operation_134 : decode cX6_operation 134 = .ok (.aload_n 0, 1) := by decide +kernel
theorem dX6_operation_135 : decode cX6_operation 135 = .ok (.iload_n 2, 1) := by decide +kernel
theorem dX6_operation_136 : decode cX6_operation 136 = .ok (.iload_n 3, 1) := by decide +kernel
theorem dX6_operation_137 : decode cX6_operation 137 = .ok (.ixor, 1) := by decide +kernel
theorem dX6_operation_138 : decode cX6_operation 138 = .ok (.iload 4, 2) := by decide +kernel
theorem dX6_operation_140 : decode cX6_operation 140 = .ok (.invokevirtual 88, 3) := by decide +kernel
theorem dX6_operation_143 : decode cX6_operation 143 = .ok (.ireturn, 1) := by decide +kernel
theorem dX6_operation_144 : decode cX6_operation 144 = .ok (.aload_n 0, 1) := by decide +kernel
theorem dX6_operation_145 : decode cX6_operation 145 = .ok (.iload_n 2, 1) := by decide +kernel
theorem dX6_operation_146 : decode cX6_operation 146 = .ok (.iload_n 3, 1) := by decide +kernel
theorem dX6_operation_147 : decode cX6_operation 147 = .ok (.iconst 0, 1) := by decide +kernel
theorem dX6_operation_148 : decode cX6_operation 148 = .ok (.iload 4, 2) := by decide +kernel
theorem dX6_operation_150 : decode cX6_operation 150 = .ok (.invokevirtual 91, 3) := by decide +kernel
theorem dX6_operation_153 : decode cX6_operation 153 = .ok (.istore 6, 2) := by decide +kernel
theorem dX6_operation_155 : decode cX6_operation 155 = .ok (.iload_n 2, 1) := by decide +kernel
theorem dX6_operation_156 : decode cX6_operation 156 = .ok (.ireturn, 1) := by decide +kernel
theorem dX6_operation_157 : decode cX6_operation 157 = .ok (.aload_n 0, 1) := by decide +kernel
theorem dX6_operation_158 : decode cX6_operation 158 = .ok (.iload_n 2, 1) := by decide +kernel
theorem dX6_operation_159 : decode cX6_operation 159 = .ok (.iload_n 3, 1) := by decide +kernel
theorem dX6_operation_160 : decode cX6_operation 160 = .ok (.iand, 1) := by decide +kernel
theorem dX6_operation_161 : decode cX6_operation 161 = .ok (.iload 4, 2) := by decide +kernel
theorem dX6_operation_163 : decode cX6_operation 163 = .ok (.invokevirtual 88, 3) := by decide +kernel
theorem dX6_operation_166 : decode cX6_operation 166 = .ok (.istore 6, 2) := by decide +kernel
theorem dX6_operation_168 : decode cX6_operation 168 = .ok (.iload_n 2, 1) := by decide +kernel
theorem dX6_operation_169 : decode cX6_operation 169 = .ok (.ireturn, 1) := by decide +kernel
theorem dX6_operation_170 : decode cX6_operation 170 = .ok (.aload_n 0, 1) := by decide +kernel
theorem dX6_operation_171 : decode cX6_operation 171 = .ok (.iload_n 2, 1) := by decide +kernel
theorem dX6_operation_172 : decode cX6_operation 172 = .ok (.iconst 1, 1) := by decide +kernel
theorem dX6_operation_173 : decode cX6_operation 173 = .ok (.iconst 0, 1) := by decide +kernel
theorem dX6_operation_174 : decode cX6_operation 174 = .ok (.iload 4, 2) := by decide +kernel
theorem dX6_operation_176 : decode cX6_operation 176 = .ok (.invokevirtual 84, 3) := by decide +kernel
theorem dX6_operation_179 : decode cX6_operation 179 = .ok (.istore 6, 2) := by decide +kernel
theorem dX6_operation_181 : decode cX6_operation 181 = .ok (.aload_n 0, 1) := by decide +kernel
theorem dX6_operation_182 : decode cX6_operation 182 = .ok (.iconst 1, 1) := by decide +kernel
theorem dX6_operation_183 : decode cX6_operation 183 = .ok (.iload 5, 2) := by decide +kernel
theorem dX6_operation_185 : decode cX6_operation 185 = .ok (.ifCond .le 7, 3) := by decide +kernel
theorem dX6_operation_188 : decode cX6_operation 188 = .ok (.iconst 1, 1) := by decide +kernel
theorem dX6_operation_189 : decode cX6_operation 189 = .ok (.goto 4, 3) := by decide +kernel
theorem dX6_operation_192 : decode cX6_operation 192 = .ok (.iconst 0, 1) := by decide +kernel
theorem dX6_operation_193 : decode cX6_operation 193 = .ok (.invokevirtual 73, 3) := by decide +kernel
theorem dX6_operation_196 : decode cX6_operation 196 = .ok (.iload 6, 2) := by decide +kernel
theorem dX6_operation_198 : decode cX6_operation 198 = .ok (.ireturn, 1) := by decide +kernel
theorem dX6_operation_199 : decode cX6_operation 199 = .ok (.aload_n 0, 1) := by decide +kernel
theorem dX6_operation_200 : decode cX6_operation 200 = .ok (.iload_n 2, 1) := by decide +kernel
theorem dX6_operation_201 : decode cX6_operation 201 = .ok (.iconst 1, 1) := by decide +kernel
theorem dX6_operation_202 : decode cX6_operation 202 = .ok (.iconst 0, 1) := by decide +kernel
theorem dX6_operation_203 : decode cX6_operation 203 = .ok (.iload 4, 2) := by decide +kernel
theorem dX6_operation_205 : decode cX6_operation 205 = .ok (.invokevirtual 91, 3) := by decide +kernel
theorem dX6_operation_208 : decode cX6_operation 208 = .ok (.istore 6, 2) := by decide +kernel
theorem dX6_operation_210 : decode cX6_operation 210 = .ok (.aload_n 0, 1) := by decide +kernel
theorem dX6_operation_211 : decode cX6_operation 211 = .ok (.iconst 1, 1) := by decide +kernel
theorem dX6_operation_212 : decode cX6_operation 212 = .ok (.iload 5, 2) := by decide +kernel
theorem dX6_operation_214 : decode cX6_operation 214 = .ok (.ifCond .le 7, 3) := by decide +kernel
theorem dX6_operation_217 : decode cX6_operation 217 = .ok (.iconst 1, 1) := by decide +kernel
theorem dX6_operation_218 : decode cX6_operation 218 = .ok (.goto 4, 3) := by decide +kernel
theorem dX6_operation_221 : decode cX6_operation 221 = .ok (.iconst 0, 1) := by decide +kernel
theorem dX6_operation_222 : decode cX6_operation 222 = .ok (.invokevirtual 73, 3) := by decide +kernel
theorem dX6_operation_225 : decode cX6_operation 225 = .ok (.iload 6, 2) := by decide +kernel
theorem dX6_operation_227 : decode cX6_operation 227 = .ok (.ireturn, 1) := by decide +kernel
theorem dX6_operation_228 : decode cX6_operation 228 = .ok (.aload_n 0, 1) := by decide +kernel
theorem dX6_operation_229 : decode cX6_operation 229 = .ok (.iconst 0, 1) := by decide +kernel
theorem dX6_operation_230 : decode cX6_operation 230 = .ok (.iload_n 2, 1) := by decide +kernel
theorem dX6_operation_231 : decode cX6_operation 231 = .ok (.iconst 0, 1) := by decide +kernel
theorem dX6_operation_232 : decode cX6_operation 232 = .ok (.iload 4, 2) := by decide +kernel
theorem dX6_operation_234 : decode cX6_operation 234 = .ok (.invokevirtual 91, 3) := by decide +kernel
theorem dX6_operation_237 : decode cX6_operation 237 = .ok (.ireturn, 1) := by decide +kernel
theorem dX6_operation_238 : decode cX6_operation 238 = .ok (.iload_n 2, 1) := by decide +kernel
theorem dX6_operation_239 : decode cX6_operation 239 = .ok (.iload 4, 2) := by decide +kernel
theorem dX6_operation_241 : decode cX6_operation 241 = .ok (.invokestatic 70, 3) := by decide +kernel
theorem dX6_operation_244 : decode cX6_operation 244 = .ok (.ixor, 1) := by decide +kernel
theorem dX6_operation_245 : decode cX6_operation 245 = .ok (.ireturn, 1) := by decide +kernel
theorem dX6_shift_0 : decode cX6_shift 0 = .ok (.iload_n 3, 1) := by decide +kernel
theorem dX6_shift_1 : decode cX6_shift 1 = .ok (.invokestatic 66, 3) := by decide +kernel
theorem dX6_shift_4 : decode cX6_shift 4 = .ok (.istore 4, 2) := by decide +kernel
theorem dX6_shift_6 : decode cX6_shift 6 = .ok (.iload_n 3, 1) := by decide +kernel
theorem dX6_shift_7 : decode cX6_shift 7 = .ok (.invokestatic 70, 3) := by decide +kernel
theorem dX6_shift_10 : decode cX6_shift 10 = .ok (.istore 5, 2) := by decide +kernel
theorem dX6_shift_12 : decode cX6_shift 12 = .ok (.iload_n 1, 1) := by decide +kernel
theorem dX6_shift_13 : decode cX6_shift 13 = .ok (.ifCond .eq 19, 3) := by decide +kernel
theorem dX6_shift_16 : decode cX6_shift 16 = .ok (.iload_n 1, 1) := by decide +kernel
theorem dX6_shift_17 : decode cX6_shift 17 = .ok (.iconst 2, 1) := by decide +kernel
theorem dX6_shift_18 : decode cX6_shift 18 = .ok (.if_icmp .eq 14, 3) := by decide +kernel
theorem dX6_shift_21 : decode cX6_shift 21 = .ok (.iload_n 1, 1) := by decide +kernel
theorem dX6_shift_22 : decode cX6_shift 22 = .ok (.iconst 4, 1) := by decide +kernel
theorem dX6_shift_23 : decode cX6_shift 23 = .ok (.if_icmp .eq 9, 3) := by decide +kernel
theorem dX6_shift_26 : decode cX6_shift 26 = .ok (.iload_n 1, 1) := by decide +kernel
theorem dX6_shift_27 : decode cX6_shift 27 = .ok (.bipush 6, 2) := by decide +kernel
theorem dX6_shift_29 : decode cX6_shift 29 = .ok (.if_icmp .ne 7, 3) := by decide +kernel
theorem dX6_shift_32 : decode cX6_shift 32 = .ok (.iconst 1, 1) := by decide +kernel
theorem dX6_shift_33 : decode cX6_shift 33 = .ok (.goto 4, 3) := by decide +kernel
theorem dX6_shift_36 : decode cX6_shift 36 = .ok (.iconst 0, 1) := by decide +kernel
theorem dX6_shift_37 : decode cX6_shift 37 = .ok (.istore 6, 2) := by decide +kernel
theorem dX6_shift_39 : decode cX6_shift 39 = .ok (.iload 6, 2) := by decide +kernel
theorem dX6_shift_41 : decode cX6_shift 41 = .ok (.ifCond .eq 10, 3) := by decide +kernel
theorem dX6_shift_44 : decode cX6_shift 44 = .ok (.iload_n 2, 1) := by decide +kernel
theorem dX6_shift_45 : decode cX6_shift 45 = .ok (.iload 4, 2) := by decide +kernel
theorem dX6_shift_47 : decode cX6_shift 47 = .ok (.idiv, 1) := by decide +kernel
theorem dX6_shift_48 : decode cX6_shift 48 = .ok (.goto 6, 3) := by decide +kernel
theorem dX6_shift_51 : decode cX6_shift 51 = .ok (.iload_n 2, 1) := by decide +kernel
theorem dX6_shift_52 : decode cX6_shift 52 = .ok (.iconst 1, 1) := by decide +kernel
theorem dX6_shift_53 : decode cX6_shift 53 = .ok (.iand, 1) := by decide +kernel
theorem dX6_shift_54 : decode cX6_shift 54 = .ok (.istore 7, 2) := by decide +kernel
theorem dX6_shift_56 : decode cX6_shift 56 = .ok (.aload_n 0, 1) := by decide +kernel
theorem dX6_shift_57 : decode cX6_shift 57 = .ok (.getfield 54, 3) := by decide +kernel
theorem dX6_shift_60 : decode cX6_shift 60 = .ok (.iconst 1, 1) := by decide +kernel
theorem dX6_shift_61 : decode cX6_shift 61 = .ok (.iand, 1) := by decide +kernel
theorem dX6_shift_62 : decode cX6_shift 62 = .ok (.istore 8, 2) := by decide +kernel
theorem dX6_shift_64 : decode cX6_shift 64 = .ok (.iload_n 1, 1) := by decide +kernel
theorem dX6_shift_65 : decode cX6_shift 65 = .ok (.iconst 2, 1) := by decide +kernel
theorem dX6_shift_66 : decode cX6_shift 66 = .ok (.if_icmp .ge 8, 3) := by decide +kernel
theorem dX6_shift_69 : decode cX6_shift 69 = .ok (.iload 7, 2) := by decide +kernel
theorem dX6_shift_71 : decode cX6_shift 71 = .ok (.goto 27, 3) := by decide +kernel
theorem dX6_shift_74 : decode cX6_shift 74 = .ok (.iload_n 1, 1) := by decide +kernel
theorem dX6_shift_75 : decode cX6_shift 75 = .ok (.iconst 4, 1) := by decide +kernel
theorem dX6_shift_76 : decode cX6_shift 76 = .ok (.if_icmp .ge 8, 3) := by decide +kernel
theorem dX6_shift_79 : decode cX6_shift 79 = .ok (.iload 8, 2) := by decide +kernel
theorem dX6_shift_81 : decode cX6_shift 81 = .ok (.goto 17, 3) := by decide +kernel
theorem dX6_shift_84 : decode cX6_shift 84 = .ok (.iload_n 1, 1) := by decide +kernel
theorem dX6_shift_85 : decode cX6_shift 85 = .ok (.bipush 7, 2) := by decide +kernel
theorem dX6_shift_87 : decode cX6_shift 87 = .ok (.if_icmp .ne 10, 3) := by decide +kernel
theorem dX6_shift_90 : decode cX6_shift 90 = .ok (.iload_n 2, 1) := by decide +kernel
theorem dX6_shift_91 : decode cX6_shift 91 = .ok (.iload 4, 2) := by decide +kernel
theorem dX6_shift_93 : decode cX6_shift 93 = .ok (.idiv, 1) := by decide +kernel
theorem dX6_shift_94 : decode cX6_shift 94 = .ok (.goto 4, 3) := by decide +kernel
theorem dX6_shift_97 : decode cX6_shift 97 = .ok (.iconst 0, 1) := by decide +kernel
theorem dX6_shift_98 : decode cX6_shift 98 = .ok (.istore 9, 2) := by decide +kernel
theorem dX6_shift_100 : decode cX6_shift 100 = .ok (.iload 6, 2) := by decide +kernel
theorem dX6_shift_102 : decode cX6_shift 102 = .ok (.ifCond .eq 15, 3) := by decide +kernel
theorem dX6_shift_105 : decode cX6_shift 105 = .ok (.iconst 2, 1) := by decide +kernel
theorem dX6_shift_106 : decode cX6_shift 106 = .ok (.iload_n 2, 1) := by decide +kernel
theorem dX6_shift_107 : decode cX6_shift 107 = .ok (.imul, 1) := by decide +kernel
theorem dX6_shift_108 : decode cX6_shift 108 = .ok (.iload 9, 2) := by decide +kernel
theorem dX6_shift_110 : decode cX6_shift 110 = .ok (.iadd, 1) := by decide +kernel
theorem dX6_shift_111 : decode cX6_shift 111 = .ok (.iload 5, 2) := by decide +kernel
theorem dX6_shift_113 : decode cX6_shift 113 = .ok (.iand, 1) := by decide +kernel
theorem dX6_shift_114 : decode cX6_shift 114 = .ok (.goto 12, 3) := by decide +kernel
theorem dX6_shift_117 : decode cX6_shift 117 = .ok (.iload_n 2, 1) := by decide +kernel
theorem dX6_shift_118 : decode cX6_shift 118 = .ok (.iconst 2, 1) := by decide +kernel
theorem dX6_shift_119 : decode cX6_shift 119 = .ok (.idiv, 1) := by decide +kernel
theorem dX6_shift_120 : decode cX6_shift 120 = .ok (.iload 9, 2) := by decide +kernel
theorem dX6_shift_122 : decode cX6_shift 122 = .ok (.iload 4, 2) := by decide +kernel
theorem dX6_shift_124 : decode cX6_shift 124 = .ok (.imul, 1) := by decide +kernel
theorem dX6_shift_125 : decode cX6_shift 125 = .ok (.iadd, 1) := by decide +kernel
theorem dX6_shift_126 : decode cX6_shift 126 = .ok (.istore 10, 2) := by decide +kernel
theorem dX6_shift_128 : decode cX6_shift 128 = .ok (.aload_n 0, 1) := by decide +kernel
theorem dX6_shift_129 : decode cX6_shift 129 = .ok (.iconst 1, 1) := by decide +kernel
theorem dX6_shift_130 : decode cX6_shift 130 = .ok (.iload 7, 2) := by decide +kernel
theorem dX6_shift_132 : decode cX6_shift 132 = .ok (.iconst 1, 1) := by decide +kernel
theorem dX6_shift_133 : decode cX6_shift 133 = .ok (.if_icmp .ne 7, 3) := by decide +kernel
theorem dX6_shift_136 : decode cX6_shift 136 = .ok (.iconst 1, 1) := by decide +kernel
theorem dX6_shift_137 : decode cX6_shift 137 = .ok (.goto 4, 3) := by decide +kernel
theorem dX6_shift_140 : decode cX6_shift 140 = .ok (.iconst 0, 1) := by decide +kernel
theorem dX6_shift_141 : decode cX6_shift 141 = .ok (.invokevirtual 73, 3) := by decide +kernel
theorem dX6_shift_144 : decode cX6_shift 144 = .ok (.iload 10, 2) := by decide +kernel
theorem dX6_shift_146 : decode cX6_shift 146 = .ok (.iload 4, 2) := by decide +kernel
theorem dX6_shift_148 : decode cX6_shift 148 = .ok (.idiv, 1) := by decide +kernel
theorem dX6_shift_149 : decode cX6_shift 149 = .ok (.iconst 1, 1) := by decide +kernel
theorem dX6_shift_150 : decode cX6_shift 150 = .ok (.if_icmp .ne 7, 3) := by decide +kernel
theorem dX6_shift_153 : decode cX6_shift 153 = .ok (.iconst 1, 1) := by decide +kernel
theorem dX6_shift_154 : decode cX6_shift 154 = .ok (.goto 4, 3) := by decide +kernel
theorem dX6_shift_157 : decode cX6_shift 157 = .ok (.iconst 0, 1) := by decide +kernel
theorem dX6_shift_158 : decode cX6_shift 158 = .ok (.istore 11, 2) := by decide +kernel
theorem dX6_shift_160 : decode cX6_shift 160 = .ok (.iload 10, 2) := by decide +kernel
theorem dX6_shift_162 : decode cX6_shift 162 = .ok (.iload 4, 2) := by decide +kernel
theorem dX6_shift_164 : decode cX6_shift 164 = .ok (.iconst 2, 1) := by decide +kernel
theorem dX6_shift_165 : decode cX6_shift 165 = .ok (.idiv, 1) := by decide +kernel
theorem dX6_shift_166 : decode cX6_shift 166 = .ok (.iand, 1) := by decide +kernel
theorem dX6_shift_167 : decode cX6_shift 167 = .ok (.ifCond .eq 7, 3) := by decide +kernel
theorem dX6_shift_170 : decode cX6_shift 170 = .ok (.iconst 1, 1) := by decide +kernel
theorem dX6_shift_171 : decode cX6_shift 171 = .ok (.goto 4, 3) := by decide +kernel
theorem dX6_shift_174 : decode cX6_shift 174 = .ok (.iconst 0, 1) := by decide +kernel
theorem dX6_shift_175 : decode cX6_shift 175 = .ok (.istore 12, 2) := by decide +kernel
theorem dX6_shift_177 : decode cX6_shift 177 = .ok (.aload_n 0, 1) := by decide +kernel
theorem dX6_shift_178 : decode cX6_shift 178 = .ok (.sipush 2048, 3) := by decide +kernel
theorem dX6_shift_181 : decode cX6_shift 181 = .ok (.iload 6, 2) := by decide +kernel
theorem dX6_shift_183 : decode cX6_shift 183 = .ok (.ifCond .eq 27, 3) := by decide +kernel
theorem dX6_shift_186 : decode cX6_shift 186 = .ok (.iload 11, 2) := by decide +kernel
theorem dX6_shift_188 : decode cX6_shift 188 = .ok (.iload 7, 2) := by decide +kernel
theorem dX6_shift_190 : decode cX6_shift 190 = .ok (.iconst 1, 1) := by decide +kernel
theorem dX6_shift_191 : decode cX6_shift 191 = .ok (.if_icmp .ne 7, 3) := by decide +kernel
theorem dX6_shift_194 : decode cX6_shift 194 = .ok (.iconst 1, 1) := by decide +kernel
theorem dX6_shift_195 : decode cX6_shift 195 = .ok (.goto 4, 3) := by decide +kernel
theorem dX6_shift_198 : decode cX6_shift 198 = .ok (.iconst 0, 1) := by decide +kernel
theorem dX6_shift_199 : decode cX6_shift 199 = .ok (.if_icmp .eq 7, 3) := by decide +kernel
theorem dX6_shift_202 : decode cX6_shift 202 = .ok (.iconst 1, 1) := by decide +kernel
theorem dX6_shift_203 : decode cX6_shift 203 = .ok (.goto 50, 3) := by decide +kernel
theorem dX6_shift_206 : decode cX6_shift 206 = .ok (.iconst 0, 1) := by decide +kernel
theorem dX6_shift_207 : decode cX6_shift 207 = .ok (.goto 46, 3) := by decide +kernel
theorem dX6_shift_210 : decode cX6_shift 210 = .ok (.iload_n 1, 1) := by decide +kernel
theorem dX6_shift_211 : decode cX6_shift 211 = .ok (.iconst 1, 1) := by decide +kernel
theorem dX6_shift_212 : decode cX6_shift 212 = .ok (.if_icmp .eq 8, 3) := by decide +kernel
theorem dX6_shift_215 : decode cX6_shift 215 = .ok (.iload_n 1, 1) := by decide +kernel
theorem dX6_shift_216 : decode cX6_shift 216 = .ok (.iconst 3, 1) := by decide +kernel
theorem dX6_shift_217 : decode cX6_shift 217 = .ok (.if_icmp .ne 18, 3) := by decide +kernel
theorem dX6_shift_220 : decode cX6_shift 220 = .ok (.iload 11, 2) := by decide +kernel
theorem dX6_shift_222 : decode cX6_shift 222 = .ok (.iload 12, 2) := by decide +kernel
theorem dX6_shift_224 : decode cX6_shift 224 = .ok (.if_icmp .eq 7, 3) := by decide +kernel
theorem dX6_shift_227 : decode cX6_shift 227 = .ok (.iconst 1, 1) := by decide +kernel
theorem dX6_shift_228 : decode cX6_shift 228 = .ok (.goto 25, 3) := by decide +kernel
theorem dX6_shift_231 : decode cX6_shift 231 = .ok (.iconst 0, 1) := by decide +kernel
theorem dX6_shift_232 : decode cX6_shift 232 = .ok (.goto 21, 3) := by decide +kernel
theorem dX6_shift_235 : decode cX6_shift 235 = .ok (.iload_n 1, 1) := by decide +kernel
theorem dX6_shift_236 : decode cX6_shift 236 = .ok (.iconst 5, 1) := by decide +kernel
theorem dX6_shift_237 : decode cX6_shift 237 = .ok (.if_icmp .ne 15, 3) := by decide +kernel
theorem dX6_shift_240 : decode cX6_shift 240 = .ok (.iload_n 2, 1) := by decide +kernel
theorem dX6_shift_241 : decode cX6_shift 241 = .ok (.iload 4, 2) := by decide +kernel
theorem dX6_shift_243 : decode cX6_shift 243 = .ok (.idiv, 1) := by decide +kernel
theorem dX6_shift_244 : decode cX6_shift 244 = .ok (.iconst 1, 1) := by decide +kernel
theorem dX6_shift_245 : decode cX6_shift 245 = .ok (.if_icmp .ne 7, 3) := by decide +kernel
theorem dX6_shift_248 : decode cX6_shift 248 = .ok (.iconst 1, 1) := by decide +kernel
theorem dX6_shift_249 : decode cX6_shift 249 = .ok (.goto 4, 3) := by decide +kernel
theorem dX6_shift_252 : decode cX6_shift 252 = .ok (.iconst 0, 1) := by decide +kernel
theorem dX6_shift_253 : decode cX6_shift 253 = .ok (.invokevirtual 73, 3) := by decide +kernel
theorem dX6_shift_256 : decode cX6_shift 256 = .ok (.iload_n 1, 1) := by decide +kernel
theorem dX6_shift_257 : decode cX6_shift 257 = .ok (.iconst 3, 1) := by decide +kernel
theorem dX6_shift_258 : decode cX6_shift 258 = .ok (.if_icmp .le 10, 3) := by decide +kernel
theorem dX6_shift_261 : decode cX6_shift 261 = .ok (.aload_n 0, 1) := by decide +kernel
theorem dX6_shift_262 : decode cX6_shift 262 = .ok (.iload 10, 2) := by decide +kernel
theorem dX6_shift_264 : decode cX6_shift 264 = .ok (.iload_n 3, 1) := by decide +kernel
theorem dX6_shift_265 : decode cX6_shift 265 = .ok (.invokevirtual 81, 3) := by decide +kernel
theorem dX6_shift_268 : decode cX6_shift 268 = .ok (.iload 10, 2) := by decide +kernel
theorem dX6_shift_270 : decode cX6_shift 270 = .ok (.ireturn, 1) := by decide +kernel
theorem dX6_shifts_0 : decode cX6_shifts 0 = .ok (.iload_n 2, 1) := by decide +kernel
theorem dX6_shifts_1 : decode cX6_shifts 1 = .ok (.istore 5, 2) := by decide +kernel
theorem dX6_shifts_3 : decode cX6_shifts 3 = .ok (.iconst 0, 1) := by decide +kernel
theorem dX6_shifts_4 : decode cX6_shifts 4 = .ok (.istore 6, 2) := by decide +kernel
theorem dX6_shifts_6 : decode cX6_shifts 6 = .ok (.iload 6, 2) := by decide +kernel
theorem dX6_shifts_8 : decode cX6_shifts 8 = .ok (.iload_n 3, 1) := by decide +kernel
theorem dX6_shifts_9 : decode cX6_shifts 9 = .ok (.if_icmp .ge 20, 3) := by decide +kernel
theorem dX6_shifts_12 : decode cX6_shifts 12 = .ok (.aload_n 0, 1) := by decide +kernel
theorem dX6_shifts_13 : decode cX6_shifts 13 = .ok (.iload_n 1, 1) := by decide +kernel
theorem dX6_shifts_14 : decode cX6_shifts 14 = .ok (.iload 5, 2) := by decide +kernel
theorem dX6_shifts_16 : decode cX6_shifts 16 = .ok (.iload 4, 2) := by decide +kernel
theorem dX6_shifts_18 : decode cX6_shifts 18 = .ok (.invokevirtual 94, 3) := by decide +kernel
theorem dX6_shifts_21 : decode cX6_shifts 21 = .ok (.istore 5, 2) := by decide +kernel
theorem dX6_shifts_23 : decode cX6_shifts 23 = .ok (.iinc 6 1, 3) := by decide +kernel
theorem dX6_shifts_26 : decode cX6_shifts 26 = .ok (.goto (-20), 3) := by decide +kernel
theorem dX6_shifts_29 : decode cX6_shifts 29 = .ok (.iload 5, 2) := by decide +kernel
theorem dX6_shifts_31 : decode cX6_shifts 31 = .ok (.ireturn, 1) := by decide +kernel
theorem dX6_adjustDecimal_0 : decode cX6_adjustDecimal 0 = .ok (.aload_n 0, 1) := by decide +kernel
theorem dX6_adjustDecimal_1 : decode cX6_adjustDecimal 1 = .ok (.getfield 7, 3) := by decide +kernel
theorem dX6_adjustDecimal_4 : decode cX6_adjustDecimal 4 = .ok (.iconst 0, 1) := by decide +kernel
theorem dX6_adjustDecimal_5 : decode cX6_adjustDecimal 5 = .ok (.iaload, 1) := by decide +kernel
theorem dX6_adjustDecimal_6 : decode cX6_adjustDecimal 6 = .ok (.sipush 255, 3) := by decide +kernel
theorem dX6_adjustDecimal_9 : decode cX6_adjustDecimal 9 = .ok (.iand, 1) := by decide +kernel
theorem dX6_adjustDecimal_10 : decode cX6_adjustDecimal 10 = .ok (.istore_n 2, 1) := by decide +kernel
theorem dX6_adjustDecimal_11 : decode cX6_adjustDecimal 11 = .ok (.iload_n 2, 1) := by decide +kernel
theorem dX6_adjustDecimal_12 : decode cX6_adjustDecimal 12 = .ok (.bipush 15, 2) := by decide +kernel
theorem dX6_adjustDecimal_14 : decode cX6_adjustDecimal 14 = .ok (.iand, 1) := by decide +kernel
theorem dX6_adjustDecimal_15 : decode cX6_adjustDecimal 15 = .ok (.bipush 9, 2) := by decide +kernel
theorem dX6_adjustDecimal_17 : decode cX6_adjustDecimal 17 = .ok (.if_icmp .gt 12, 3) := by decide +kernel
theorem dX6_adjustDecimal_20 : decode cX6_adjustDecimal 20 = .ok (.aload_n 0, 1) := by decide +kernel
theorem dX6_adjustDecimal_21 : decode cX6_adjustDecimal 21 = .ok (.bipush 16, 2) := by decide +kernel
theorem dX6_adjustDecimal_23 : decode cX6_adjustDecimal 23 = .ok (.invokevirtual 97, 3) := by decide +kernel
theorem dX6_adjustDecimal_26 : decode cX6_adjustDecimal 26 = .ok (.ifCond .eq 7, 3) := by decide +kernel
theorem dX6_adjustDecimal_29 : decode cX6_adjustDecimal 29 = .ok (.iconst 1, 1) := by decide +kernel
theorem dX6_adjustDecimal_30 : decode cX6_adjustDecimal 30 = .ok (.goto 4, 3) := by decide +kernel
theorem dX6_adjustDecimal_33 : decode cX6_adjustDecimal 33 = .ok (.iconst 0, 1) := by decide +kernel
theorem dX6_adjustDecimal_34 : decode cX6_adjustDecimal 34 = .ok (.istore_n 3, 1) := by decide +kernel
theorem dX6_adjustDecimal_35 : decode cX6_adjustDecimal 35 = .ok (.iload_n 2, 1) := by decide +kernel
theorem dX6_adjustDecimal_36 : decode cX6_adjustDecimal 36 = .ok (.sipush 153, 3) := by decide +kernel
theorem dX6_adjustDecimal_39 : decode cX6_adjustDecimal 39 = .ok (.if_icmp .gt 11, 3) := by decide +kernel
theorem dX6_adjustDecimal_42 : decode cX6_adjustDecimal 42 = .ok (.aload_n 0, 1) := by decide +kernel
theorem dX6_adjustDecimal_43 : decode cX6_adjustDecimal 43 = .ok (.iconst 1, 1) := by decide +kernel
theorem dX6_adjustDecimal_44 : decode cX6_adjustDecimal 44 = .ok (.invokevirtual 97, 3) := by decide +kernel
theorem dX6_adjustDecimal_47 : decode cX6_adjustDecimal 47 = .ok (.ifCond .eq 7, 3) := by decide +kernel
theorem dX6_adjustDecimal_50 : decode cX6_adjustDecimal 50 = .ok (.iconst 1, 1) := by decide +kernel
theorem dX6_adjustDecimal_51 : decode cX6_adjustDecimal 51 = .ok (.goto 4, 3) := by decide +kernel
theorem dX6_adjustDecimal_54 : decode cX6_adjustDecimal 54 = .ok (.iconst 0, 1) := by decide +kernel
theorem dX6_adjustDecimal_55 : decode cX6_adjustDecimal 55 = .ok (.istore 4, 2) := by decide +kernel
theorem dX6_adjustDecimal_57 : decode cX6_adjustDecimal 57 = .ok (.iload_n 3, 1) := by decide +kernel
theorem dX6_adjustDecimal_58 : decode cX6_adjustDecimal 58 = .ok (.ifCond .eq 8, 3) := by decide +kernel
theorem dX6_adjustDecimal_61 : decode cX6_adjustDecimal 61 = .ok (.bipush 6, 2) := by decide +kernel
theorem dX6_adjustDecimal_63 : decode cX6_adjustDecimal 63 = .ok (.goto 4, 3) := by decide +kernel
theorem dX6_adjustDecimal_66 : decode cX6_adjustDecimal 66 = .ok (.iconst 0, 1) := by decide +kernel
theorem dX6_adjustDecimal_67 : decode cX6_adjustDecimal 67 = .ok (.iload 4, 2) := by decide +kernel
theorem dX6_adjustDecimal_69 : decode cX6_adjustDecimal 69 = .ok (.ifCond .eq 8, 3) := by decide +kernel
theorem dX6_adjustDecimal_72 : decode cX6_adjustDecimal 72 = .ok (.bipush 96, 2) := by decide +kernel
theorem dX6_adjustDecimal_74 : decode cX6_adjustDecimal 74 = .ok (.goto 4, 3) := by decide +kernel
theorem dX6_adjustDecimal_77 : decode cX6_adjustDecimal 77 = .ok (.iconst 0, 1) := by decide +kernel
theorem dX6_adjustDecimal_78 : decode cX6_adjustDecimal 78 = .ok (.iadd, 1) := by decide +kernel
theorem dX6_adjustDecimal_79 : decode cX6_adjustDecimal 79 = .ok (.istore 5, 2) := by decide +kernel
theorem dX6_adjustDecimal_81 : decode cX6_adjustDecimal 81 = .ok (.iload_n 1, 1) := by decide +kernel
theorem dX6_adjustDecimal_82 : decode cX6_adjustDecimal 82 = .ok (.ifCond .eq 14, 3) := by decide +kernel
theorem dX6_adjustDecimal_85 : decode cX6_adjustDecimal 85 = .ok (.iload_n 2, 1) := by decide +kernel
theorem dX6_adjustDecimal_86 : decode cX6_adjustDecimal 86 = .ok (.iload 5, 2) := by decide +kernel
theorem dX6_adjustDecimal_88 : decode cX6_adjustDecimal 88 = .ok (.isub, 1) := by decide +kernel
theorem dX6_adjustDecimal_89 : decode cX6_adjustDecimal 89 = .ok (.sipush 255, 3) := by decide +kernel
theorem dX6_adjustDecimal_92 : decode cX6_adjustDecimal 92 = .ok (.iand, 1) := by decide +kernel
theorem dX6_adjustDecimal_93 : decode cX6_adjustDecimal 93 = .ok (.goto 11, 3) := by decide +kernel
theorem dX6_adjustDecimal_96 : decode cX6_adjustDecimal 96 = .ok (.iload_n 2, 1) := by decide +kernel
theorem dX6_adjustDecimal_97 : decode cX6_adjustDecimal 97 = .ok (.iload 5, 2) := by decide +kernel
theorem dX6_adjustDecimal_99 : decode cX6_adjustDecimal 99 = .ok (.iadd, 1) := by decide +kernel
theorem dX6_adjustDecimal_100 : decode cX6_adjustDecimal 100 = .ok (.sipush 255, 3) := by decide +kernel
theorem dX6_adjustDecimal_103 : decode cX6_adjustDecimal 103 = .ok (.iand, 1) := by decide +kernel
theorem dX6_adjustDecimal_104 : decode cX6_adjustDecimal 104 = .ok (.istore 6, 2) := by decide +kernel
theorem dX6_adjustDecimal_106 : decode cX6_adjustDecimal 106 = .ok (.aload_n 0, 1) := by decide +kernel
theorem dX6_adjustDecimal_107 : decode cX6_adjustDecimal 107 = .ok (.bipush 16, 2) := by decide +kernel
theorem dX6_adjustDecimal_109 : decode cX6_adjustDecimal 109 = .ok (.iload_n 3, 1) := by decide +kernel
theorem dX6_adjustDecimal_110 : decode cX6_adjustDecimal 110 = .ok (.invokevirtual 73, 3) := by decide +kernel
theorem dX6_adjustDecimal_113 : decode cX6_adjustDecimal 113 = .ok (.aload_n 0, 1) := by decide +kernel
theorem dX6_adjustDecimal_114 : decode cX6_adjustDecimal 114 = .ok (.iconst 1, 1) := by decide +kernel
theorem dX6_adjustDecimal_115 : decode cX6_adjustDecimal 115 = .ok (.iload 4, 2) := by decide +kernel
theorem dX6_adjustDecimal_117 : decode cX6_adjustDecimal 117 = .ok (.ifCond .ne 17, 3) := by decide +kernel
theorem dX6_adjustDecimal_120 : decode cX6_adjustDecimal 120 = .ok (.iload_n 1, 1) := by decide +kernel
theorem dX6_adjustDecimal_121 : decode cX6_adjustDecimal 121 = .ok (.ifCond .eq 17, 3) := by decide +kernel
theorem dX6_adjustDecimal_124 : decode cX6_adjustDecimal 124 = .ok (.iload_n 3, 1) := by decide +kernel
theorem dX6_adjustDecimal_125 : decode cX6_adjustDecimal 125 = .ok (.ifCond .eq 13, 3) := by decide +kernel
theorem dX6_adjustDecimal_128 : decode cX6_adjustDecimal 128 = .ok (.iload_n 2, 1) := by decide +kernel
theorem dX6_adjustDecimal_129 : decode cX6_adjustDecimal 129 = .ok (.bipush 6, 2) := by decide +kernel
theorem dX6_adjustDecimal_131 : decode cX6_adjustDecimal 131 = .ok (.if_icmp .ge 7, 3) := by decide +kernel
theorem dX6_adjustDecimal_134 : decode cX6_adjustDecimal 134 = .ok (.iconst 1, 1) := by decide +kernel
theorem dX6_adjustDecimal_135 : decode cX6_adjustDecimal 135 = .ok (.goto 4, 3) := by decide +kernel
theorem dX6_adjustDecimal_138 : decode cX6_adjustDecimal 138 = .ok (.iconst 0, 1) := by decide +kernel
theorem dX6_adjustDecimal_139 : decode cX6_adjustDecimal 139 = .ok (.invokevirtual 73, 3) := by decide +kernel
theorem dX6_adjustDecimal_142 : decode cX6_adjustDecimal 142 = .ok (.aload_n 0, 1) := by decide +kernel
theorem dX6_adjustDecimal_143 : decode cX6_adjustDecimal 143 = .ok (.iconst 0, 1) := by decide +kernel
theorem dX6_adjustDecimal_144 : decode cX6_adjustDecimal 144 = .ok (.iconst 0, 1) := by decide +kernel
theorem dX6_adjustDecimal_145 : decode cX6_adjustDecimal 145 = .ok (.iload 6, 2) := by decide +kernel
theorem dX6_adjustDecimal_147 : decode cX6_adjustDecimal 147 = .ok (.invokevirtual 101, 3) := by decide +kernel
theorem dX6_adjustDecimal_150 : decode cX6_adjustDecimal 150 = .ok (.aload_n 0, 1) := by decide +kernel
theorem dX6_adjustDecimal_151 : decode cX6_adjustDecimal 151 = .ok (.iload 6, 2) := by decide +kernel
theorem dX6_adjustDecimal_153 : decode cX6_adjustDecimal 153 = .ok (.iconst 0, 1) := by decide +kernel
theorem dX6_adjustDecimal_154 : decode cX6_adjustDecimal 154 = .ok (.invokevirtual 81, 3) := by decide +kernel
theorem dX6_adjustDecimal_157 : decode cX6_adjustDecimal 157 = .ok (.return_, 1) := by decide +kernel
theorem dX6_adjustDigit_0 : decode cX6_adjustDigit 0 = .ok (.aload_n 0, 1) := by decide +kernel
theorem dX6_adjustDigit_1 : decode cX6_adjustDigit 1 = .ok (.getfield 7, 3) := by decide +kernel
theorem dX6_adjustDigit_4 : decode cX6_adjustDigit 4 = .ok (.iconst 0, 1) := by decide +kernel
theorem dX6_adjustDigit_5 : decode cX6_adjustDigit 5 = .ok (.iaload, 1) := by decide +kernel
theorem dX6_adjustDigit_6 : decode cX6_adjustDigit 6 = .ok (.sipush 255, 3) := by decide +kernel
theorem dX6_adjustDigit_9 : decode cX6_adjustDigit 9 = .ok (.iand, 1) := by decide +kernel
theorem dX6_adjustDigit_10 : decode cX6_adjustDigit 10 = .ok (.istore_n 2, 1) := by decide +kernel
theorem dX6_adjustDigit_11 : decode cX6_adjustDigit 11 = .ok (.aload_n 0, 1) := by decide +kernel
theorem dX6_adjustDigit_12 : decode cX6_adjustDigit 12 = .ok (.getfield 7, 3) := by decide +kernel
theorem dX6_adjustDigit_15 : decode cX6_adjustDigit 15 = .ok (.iconst 0, 1) := by decide +kernel
theorem dX6_adjustDigit_16 : decode cX6_adjustDigit 16 = .ok (.iaload, 1) := by decide +kernel
theorem dX6_adjustDigit_17 : decode cX6_adjustDigit 17 = .ok (.bipush 8, 2) := by decide +kernel
theorem dX6_adjustDigit_19 : decode cX6_adjustDigit 19 = .ok (.ishr, 1) := by decide +kernel
theorem dX6_adjustDigit_20 : decode cX6_adjustDigit 20 = .ok (.istore_n 3, 1) := by decide +kernel
theorem dX6_adjustDigit_21 : decode cX6_adjustDigit 21 = .ok (.iload_n 2, 1) := by decide +kernel
theorem dX6_adjustDigit_22 : decode cX6_adjustDigit 22 = .ok (.bipush 15, 2) := by decide +kernel
theorem dX6_adjustDigit_24 : decode cX6_adjustDigit 24 = .ok (.iand, 1) := by decide +kernel
theorem dX6_adjustDigit_25 : decode cX6_adjustDigit 25 = .ok (.bipush 9, 2) := by decide +kernel
theorem dX6_adjustDigit_27 : decode cX6_adjustDigit 27 = .ok (.if_icmp .gt 12, 3) := by decide +kernel
theorem dX6_adjustDigit_30 : decode cX6_adjustDigit 30 = .ok (.aload_n 0, 1) := by decide +kernel
theorem dX6_adjustDigit_31 : decode cX6_adjustDigit 31 = .ok (.bipush 16, 2) := by decide +kernel
theorem dX6_adjustDigit_33 : decode cX6_adjustDigit 33 = .ok (.invokevirtual 97, 3) := by decide +kernel
theorem dX6_adjustDigit_36 : decode cX6_adjustDigit 36 = .ok (.ifCond .eq 7, 3) := by decide +kernel
theorem dX6_adjustDigit_39 : decode cX6_adjustDigit 39 = .ok (.iconst 1, 1) := by decide +kernel
theorem dX6_adjustDigit_40 : decode cX6_adjustDigit 40 = .ok (.goto 4, 3) := by decide +kernel
theorem dX6_adjustDigit_43 : decode cX6_adjustDigit 43 = .ok (.iconst 0, 1) := by decide +kernel
theorem dX6_adjustDigit_44 : decode cX6_adjustDigit 44 = .ok (.istore 4, 2) := by decide +kernel
theorem dX6_adjustDigit_46 : decode cX6_adjustDigit 46 = .ok (.iload 4, 2) := by decide +kernel
theorem dX6_adjustDigit_48 : decode cX6_adjustDigit 48 = .ok (.ifCond .eq 33, 3) := by decide +kernel
theorem dX6_adjustDigit_51 : decode cX6_adjustDigit 51 = .ok (.iload_n 1, 1) := by decide +kernel
theorem dX6_adjustDigit_52 : decode cX6_adjustDigit 52 = .ok (.ifCond .eq 10, 3) := by decide +kernel
theorem dX6_adjustDigit_55 : decode cX6_adjustDigit 55 = .ok (.iload_n 2, 1) := by decide +kernel
theorem dX6_adjustDigit_56 : decode cX6_adjustDigit 56 = .ok (.bipush 6, 2) := by decide +kernel
theorem dX6_adjustDigit_58 : decode cX6_adjustDigit 58 = .ok (.isub, 1) := by decide +kernel
theorem dX6_adjustDigit_59 : decode cX6_adjustDigit 59 = .ok (.goto 7, 3) := by decide +kernel
theorem dX6_adjustDigit_62 : decode cX6_adjustDigit 62 = .ok (.iload_n 2, 1) := by decide +kernel
theorem dX6_adjustDigit_63 : decode cX6_adjustDigit 63 = .ok (.bipush 6, 2) := by decide +kernel
theorem dX6_adjustDigit_65 : decode cX6_adjustDigit 65 = .ok (.iadd, 1) := by decide +kernel
theorem dX6_adjustDigit_66 : decode cX6_adjustDigit 66 = .ok (.istore_n 2, 1) := by decide +kernel
theorem dX6_adjustDigit_67 : decode cX6_adjustDigit 67 = .ok (.iload_n 1, 1) := by decide +kernel
theorem dX6_adjustDigit_68 : decode cX6_adjustDigit 68 = .ok (.ifCond .eq 9, 3) := by decide +kernel
theorem dX6_adjustDigit_71 : decode cX6_adjustDigit 71 = .ok (.iload_n 3, 1) := by decide +kernel
theorem dX6_adjustDigit_72 : decode cX6_adjustDigit 72 = .ok (.iconst 1, 1) := by decide +kernel
theorem dX6_adjustDigit_73 : decode cX6_adjustDigit 73 = .ok (.isub, 1) := by decide +kernel
theorem dX6_adjustDigit_74 : decode cX6_adjustDigit 74 = .ok (.goto 6, 3) := by decide +kernel
theorem dX6_adjustDigit_77 : decode cX6_adjustDigit 77 = .ok (.iload_n 3, 1) := by decide +kernel
theorem dX6_adjustDigit_78 : decode cX6_adjustDigit 78 = .ok (.iconst 1, 1) := by decide +kernel
theorem dX6_adjustDigit_79 : decode cX6_adjustDigit 79 = .ok (.iadd, 1) := by decide +kernel
theorem dX6_adjustDigit_80 : decode cX6_adjustDigit 80 = .ok (.istore_n 3, 1) := by decide +kernel
theorem dX6_adjustDigit_81 : decode cX6_adjustDigit 81 = .ok (.aload_n 0, 1) := by decide +kernel
theorem dX6_adjustDigit_82 : decode cX6_adjustDigit 82 = .ok (.bipush 16, 2) := by decide +kernel
theorem dX6_adjustDigit_84 : decode cX6_adjustDigit 84 = .ok (.iload 4, 2) := by decide +kernel
theorem dX6_adjustDigit_86 : decode cX6_adjustDigit 86 = .ok (.invokevirtual 73, 3) := by decide +kernel
theorem dX6_adjustDigit_89 : decode cX6_adjustDigit 89 = .ok (.aload_n 0, 1) := by decide +kernel
theorem dX6_adjustDigit_90 : decode cX6_adjustDigit 90 = .ok (.iconst 1, 1) := by decide +kernel
theorem dX6_adjustDigit_91 : decode cX6_adjustDigit 91 = .ok (.iload 4, 2) := by decide +kernel
theorem dX6_adjustDigit_93 : decode cX6_adjustDigit 93 = .ok (.invokevirtual 73, 3) := by decide +kernel
theorem dX6_adjustDigit_96 : decode cX6_adjustDigit 96 = .ok (.aload_n 0, 1) := by decide +kernel
theorem dX6_adjustDigit_97 : decode cX6_adjustDigit 97 = .ok (.getfield 7, 3) := by decide +kernel
theorem dX6_adjustDigit_100 : decode cX6_adjustDigit 100 = .ok (.iconst 0, 1) := by decide +kernel
theorem dX6_adjustDigit_101 : decode cX6_adjustDigit 101 = .ok (.iload_n 2, 1) := by decide +kernel
theorem dX6_adjustDigit_102 : decode cX6_adjustDigit 102 = .ok (.bipush 15, 2) := by decide +kernel
theorem dX6_adjustDigit_104 : decode cX6_adjustDigit 104 = .ok (.iand, 1) := by decide +kernel
theorem dX6_adjustDigit_105 : decode cX6_adjustDigit 105 = .ok (.iload_n 3, 1) := by decide +kernel
theorem dX6_adjustDigit_106 : decode cX6_adjustDigit 106 = .ok (.sipush 255, 3) := by decide +kernel
theorem dX6_adjustDigit_109 : decode cX6_adjustDigit 109 = .ok (.iand, 1) := by decide +kernel
theorem dX6_adjustDigit_110 : decode cX6_adjustDigit 110 = .ok (.bipush 8, 2) := by decide +kernel
theorem dX6_adjustDigit_112 : decode cX6_adjustDigit 112 = .ok (.ishl, 1) := by decide +kernel
theorem dX6_adjustDigit_113 : decode cX6_adjustDigit 113 = .ok (.ior, 1) := by decide +kernel
theorem dX6_adjustDigit_114 : decode cX6_adjustDigit 114 = .ok (.iastore, 1) := by decide +kernel
theorem dX6_adjustDigit_115 : decode cX6_adjustDigit 115 = .ok (.return_, 1) := by decide +kernel
theorem dX6_product_0 : decode cX6_product 0 = .ok (.aload_n 0, 1) := by decide +kernel
theorem dX6_product_1 : decode cX6_product 1 = .ok (.iconst 0, 1) := by decide +kernel
theorem dX6_product_2 : decode cX6_product 2 = .ok (.iload_n 3, 1) := by decide +kernel
theorem dX6_product_3 : decode cX6_product 3 = .ok (.invokevirtual 105, 3) := by decide +kernel
theorem dX6_product_6 : decode cX6_product 6 = .ok (.istore 4, 2) := by decide +kernel
theorem dX6_product_8 : decode cX6_product 8 = .ok (.iload_n 2, 1) := by decide +kernel
theorem dX6_product_9 : decode cX6_product 9 = .ok (.ifCond .eq 13, 3) := by decide +kernel
theorem dX6_product_12 : decode cX6_product 12 = .ok (.iload 4, 2) := by decide +kernel
theorem dX6_product_14 : decode cX6_product 14 = .ok (.iload_n 3, 1) := by decide +kernel
theorem dX6_product_15 : decode cX6_product 15 = .ok (.invokestatic 77, 3) := by decide +kernel
theorem dX6_product_18 : decode cX6_product 18 = .ok (.i2l, 1) := by decide +kernel
theorem dX6_product_19 : decode cX6_product 19 = .ok (.goto 6, 3) := by decide +kernel
theorem dX6_product_22 : decode cX6_product 22 = .ok (.iload 4, 2) := by decide +kernel
theorem dX6_product_24 : decode cX6_product 24 = .ok (.i2l, 1) := by decide +kernel
theorem dX6_product_25 : decode cX6_product 25 = .ok (.lstore 5, 2) := by decide +kernel
theorem dX6_product_27 : decode cX6_product 27 = .ok (.iload_n 2, 1) := by decide +kernel
theorem dX6_product_28 : decode cX6_product 28 = .ok (.ifCond .eq 12, 3) := by decide +kernel
theorem dX6_product_31 : decode cX6_product 31 = .ok (.iload_n 1, 1) := by decide +kernel
theorem dX6_product_32 : decode cX6_product 32 = .ok (.iload_n 3, 1) := by decide +kernel
theorem dX6_product_33 : decode cX6_product 33 = .ok (.invokestatic 77, 3) := by decide +kernel
theorem dX6_product_36 : decode cX6_product 36 = .ok (.i2l, 1) := by decide +kernel
theorem dX6_product_37 : decode cX6_product 37 = .ok (.goto 5, 3) := by decide +kernel
theorem dX6_product_40 : decode cX6_product 40 = .ok (.iload_n 1, 1) := by decide +kernel
theorem dX6_product_41 : decode cX6_product 41 = .ok (.i2l, 1) := by decide +kernel
theorem dX6_product_42 : decode cX6_product 42 = .ok (.lstore 7, 2) := by decide +kernel
theorem dX6_product_44 : decode cX6_product 44 = .ok (.lload 5, 2) := by decide +kernel
theorem dX6_product_46 : decode cX6_product 46 = .ok (.lload 7, 2) := by decide +kernel
theorem dX6_product_48 : decode cX6_product 48 = .ok (.lmul, 1) := by decide +kernel
theorem dX6_product_49 : decode cX6_product 49 = .ok (.lstore 9, 2) := by decide +kernel
theorem dX6_product_51 : decode cX6_product 51 = .ok (.lload 9, 2) := by decide +kernel
theorem dX6_product_53 : decode cX6_product 53 = .ok (.l2i, 1) := by decide +kernel
theorem dX6_product_54 : decode cX6_product 54 = .ok (.iload_n 3, 1) := by decide +kernel
theorem dX6_product_55 : decode cX6_product 55 = .ok (.invokestatic 70, 3) := by decide +kernel
theorem dX6_product_58 : decode cX6_product 58 = .ok (.iand, 1) := by decide +kernel
theorem dX6_product_59 : decode cX6_product 59 = .ok (.istore 11, 2) := by decide +kernel
theorem dX6_product_61 : decode cX6_product 61 = .ok (.iload_n 2, 1) := by decide +kernel
theorem dX6_product_62 : decode cX6_product 62 = .ok (.ifCond .eq 13, 3) := by decide +kernel
theorem dX6_product_65 : decode cX6_product 65 = .ok (.iload 11, 2) := by decide +kernel
theorem dX6_product_67 : decode cX6_product 67 = .ok (.iload_n 3, 1) := by decide +kernel
theorem dX6_product_68 : decode cX6_product 68 = .ok (.invokestatic 77, 3) := by decide +kernel
theorem dX6_product_71 : decode cX6_product 71 = .ok (.i2l, 1) := by decide +kernel
theorem dX6_product_72 : decode cX6_product 72 = .ok (.goto 6, 3) := by decide +kernel
theorem dX6_product_75 : decode cX6_product 75 = .ok (.iload 11, 2) := by decide +kernel
theorem dX6_product_77 : decode cX6_product 77 = .ok (.i2l, 1) := by decide +kernel
theorem dX6_product_78 : decode cX6_product 78 = .ok (.lstore 12, 2) := by decide +kernel
theorem dX6_product_80 : decode cX6_product 80 = .ok (.aload_n 0, 1) := by decide +kernel
theorem dX6_product_81 : decode cX6_product 81 = .ok (.iconst 1, 1) := by decide +kernel
theorem dX6_product_82 : decode cX6_product 82 = .ok (.lload 9, 2) := by decide +kernel
theorem dX6_product_84 : decode cX6_product 84 = .ok (.lload 12, 2) := by decide +kernel
theorem dX6_product_86 : decode cX6_product 86 = .ok (.lcmp, 1) := by decide +kernel
theorem dX6_product_87 : decode cX6_product 87 = .ok (.ifCond .eq 7, 3) := by decide +kernel
theorem dX6_product_90 : decode cX6_product 90 = .ok (.iconst 1, 1) := by decide +kernel
theorem dX6_product_91 : decode cX6_product 91 = .ok (.goto 4, 3) := by decide +kernel
theorem dX6_product_94 : decode cX6_product 94 = .ok (.iconst 0, 1) := by decide +kernel
theorem dX6_product_95 : decode cX6_product 95 = .ok (.invokevirtual 73, 3) := by decide +kernel
theorem dX6_product_98 : decode cX6_product 98 = .ok (.aload_n 0, 1) := by decide +kernel
theorem dX6_product_99 : decode cX6_product 99 = .ok (.sipush 2048, 3) := by decide +kernel
theorem dX6_product_102 : decode cX6_product 102 = .ok (.lload 9, 2) := by decide +kernel
theorem dX6_product_104 : decode cX6_product 104 = .ok (.lload 12, 2) := by decide +kernel
theorem dX6_product_106 : decode cX6_product 106 = .ok (.lcmp, 1) := by decide +kernel
theorem dX6_product_107 : decode cX6_product 107 = .ok (.ifCond .eq 7, 3) := by decide +kernel
theorem dX6_product_110 : decode cX6_product 110 = .ok (.iconst 1, 1) := by decide +kernel
theorem dX6_product_111 : decode cX6_product 111 = .ok (.goto 4, 3) := by decide +kernel
theorem dX6_product_114 : decode cX6_product 114 = .ok (.iconst 0, 1) := by decide +kernel
theorem dX6_product_115 : decode cX6_product 115 = .ok (.invokevirtual 73, 3) := by decide +kernel
theorem dX6_product_118 : decode cX6_product 118 = .ok (.iload_n 3, 1) := by decide +kernel
theorem dX6_product_119 : decode cX6_product 119 = .ok (.ifCond .eq 29, 3) := by decide +kernel
theorem dX6_product_122 : decode cX6_product 122 = .ok (.aload_n 0, 1) := by decide +kernel
theorem dX6_product_123 : decode cX6_product 123 = .ok (.getfield 7, 3) := by decide +kernel
theorem dX6_product_126 : decode cX6_product 126 = .ok (.iconst 0, 1) := by decide +kernel
theorem dX6_product_127 : decode cX6_product 127 = .ok (.iload 11, 2) := by decide +kernel
theorem dX6_product_129 : decode cX6_product 129 = .ok (.iastore, 1) := by decide +kernel
theorem dX6_product_130 : decode cX6_product 130 = .ok (.aload_n 0, 1) := by decide +kernel
theorem dX6_product_131 : decode cX6_product 131 = .ok (.getfield 7, 3) := by decide +kernel
theorem dX6_product_134 : decode cX6_product 134 = .ok (.iconst 2, 1) := by decide +kernel
theorem dX6_product_135 : decode cX6_product 135 = .ok (.lload 9, 2) := by decide +kernel
theorem dX6_product_137 : decode cX6_product 137 = .ok (.bipush 16, 2) := by decide +kernel
theorem dX6_product_139 : decode cX6_product 139 = .ok (.lshr, 1) := by decide +kernel
theorem dX6_product_140 : decode cX6_product 140 = .ok (.l2i, 1) := by decide +kernel
theorem dX6_product_141 : decode cX6_product 141 = .ok (.ldc 39, 2) := by decide +kernel
theorem dX6_product_143 : decode cX6_product 143 = .ok (.iand, 1) := by decide +kernel
theorem dX6_product_144 : decode cX6_product 144 = .ok (.iastore, 1) := by decide +kernel
theorem dX6_product_145 : decode cX6_product 145 = .ok (.goto 15, 3) := by decide +kernel
theorem dX6_product_148 : decode cX6_product 148 = .ok (.aload_n 0, 1) := by decide +kernel
theorem dX6_product_149 : decode cX6_product 149 = .ok (.getfield 7, 3) := by decide +kernel
theorem dX6_product_152 : decode cX6_product 152 = .ok (.iconst 0, 1) := by decide +kernel
theorem dX6_product_153 : decode cX6_product 153 = .ok (.lload 9, 2) := by decide +kernel
theorem dX6_product_155 : decode cX6_product 155 = .ok (.l2i, 1) := by decide +kernel
theorem dX6_product_156 : decode cX6_product 156 = .ok (.ldc 39, 2) := by decide +kernel
theorem dX6_product_158 : decode cX6_product 158 = .ok (.iand, 1) := by decide +kernel
theorem dX6_product_159 : decode cX6_product 159 = .ok (.iastore, 1) := by decide +kernel
theorem dX6_product_160 : decode cX6_product 160 = .ok (.return_, 1) := by decide +kernel
theorem dX6_quotient_0 : decode cX6_quotient 0 = .ok (.iload_n 3, 1) := by decide +kernel
theorem dX6_quotient_1 : decode cX6_quotient 1 = .ok (.ifCond .eq 25, 3) := by decide +kernel
theorem dX6_quotient_4 : decode cX6_quotient 4 = .ok (.aload_n 0, 1) := by decide +kernel
theorem dX6_quotient_5 : decode cX6_quotient 5 = .ok (.getfield 7, 3) := by decide +kernel
theorem dX6_quotient_8 : decode cX6_quotient 8 = .ok (.iconst 2, 1) := by decide +kernel
theorem dX6_quotient_9 : decode cX6_quotient 9 = .ok (.iaload, 1) := by decide +kernel
theorem dX6_quotient_10 : decode cX6_quotient 10 = .ok (.i2l, 1) := by decide +kernel
theorem dX6_quotient_11 : decode cX6_quotient 11 = .ok (.ldc2_w 108, 3) := by decide +kernel
theorem dX6_quotient_14 : decode cX6_quotient 14 = .ok (.lmul, 1) := by decide +kernel
theorem dX6_quotient_15 : decode cX6_quotient 15 = .ok (.aload_n 0, 1) := by decide +kernel
theorem dX6_quotient_16 : decode cX6_quotient 16 = .ok (.getfield 7, 3) := by decide +kernel
theorem dX6_quotient_19 : decode cX6_quotient 19 = .ok (.iconst 0, 1) := by decide +kernel
theorem dX6_quotient_20 : decode cX6_quotient 20 = .ok (.iaload, 1) := by decide +kernel
theorem dX6_quotient_21 : decode cX6_quotient 21 = .ok (.i2l, 1) := by decide +kernel
theorem dX6_quotient_22 : decode cX6_quotient 22 = .ok (.ladd, 1) := by decide +kernel
theorem dX6_quotient_23 : decode cX6_quotient 23 = .ok (.goto 10, 3) := by decide +kernel
theorem dX6_quotient_26 : decode cX6_quotient 26 = .ok (.aload_n 0, 1) := by decide +kernel
theorem dX6_quotient_27 : decode cX6_quotient 27 = .ok (.getfield 7, 3) := by decide +kernel
theorem dX6_quotient_30 : decode cX6_quotient 30 = .ok (.iconst 0, 1) := by decide +kernel
theorem dX6_quotient_31 : decode cX6_quotient 31 = .ok (.iaload, 1) := by decide +kernel
theorem dX6_quotient_32 : decode cX6_quotient 32 = .ok (.i2l, 1) := by decide +kernel
theorem dX6_quotient_33 : decode cX6_quotient 33 = .ok (.lstore 4, 2) := by decide +kernel
theorem dX6_quotient_35 : decode cX6_quotient 35 = .ok (.iload_n 3, 1) := by decide +kernel
theorem dX6_quotient_36 : decode cX6_quotient 36 = .ok (.ifCond .eq 9, 3) := by decide +kernel
theorem dX6_quotient_39 : decode cX6_quotient 39 = .ok (.ldc2_w 110, 3) := by decide +kernel
theorem dX6_quotient_42 : decode cX6_quotient 42 = .ok (.goto 6, 3) := by decide +kernel
theorem dX6_quotient_45 : decode cX6_quotient 45 = .ok (.ldc2_w 108, 3) := by decide +kernel
theorem dX6_quotient_48 : decode cX6_quotient 48 = .ok (.lstore 6, 2) := by decide +kernel
theorem dX6_quotient_50 : decode cX6_quotient 50 = .ok (.iload_n 2, 1) := by decide +kernel
theorem dX6_quotient_51 : decode cX6_quotient 51 = .ok (.ifCond .eq 23, 3) := by decide +kernel
theorem dX6_quotient_54 : decode cX6_quotient 54 = .ok (.lload 4, 2) := by decide +kernel
theorem dX6_quotient_56 : decode cX6_quotient 56 = .ok (.lload 6, 2) := by decide +kernel
theorem dX6_quotient_58 : decode cX6_quotient 58 = .ok (.ldc2_w 112, 3) := by decide +kernel
theorem dX6_quotient_61 : decode cX6_quotient 61 = .ok (.ldiv, 1) := by decide +kernel
theorem dX6_quotient_62 : decode cX6_quotient 62 = .ok (.lcmp, 1) := by decide +kernel
theorem dX6_quotient_63 : decode cX6_quotient 63 = .ok (.ifCond .lt 11, 3) := by decide +kernel
theorem dX6_quotient_66 : decode cX6_quotient 66 = .ok (.lload 4, 2) := by decide +kernel
theorem dX6_quotient_68 : decode cX6_quotient 68 = .ok (.lload 6, 2) := by decide +kernel
theorem dX6_quotient_70 : decode cX6_quotient 70 = .ok (.lsub, 1) := by decide +kernel
theorem dX6_quotient_71 : decode cX6_quotient 71 = .ok (.goto 5, 3) := by decide +kernel
theorem dX6_quotient_74 : decode cX6_quotient 74 = .ok (.lload 4, 2) := by decide +kernel
theorem dX6_quotient_76 : decode cX6_quotient 76 = .ok (.lstore 4, 2) := by decide +kernel
theorem dX6_quotient_78 : decode cX6_quotient 78 = .ok (.iload_n 2, 1) := by decide +kernel
theorem dX6_quotient_79 : decode cX6_quotient 79 = .ok (.ifCond .eq 12, 3) := by decide +kernel
theorem dX6_quotient_82 : decode cX6_quotient 82 = .ok (.iload_n 1, 1) := by decide +kernel
theorem dX6_quotient_83 : decode cX6_quotient 83 = .ok (.iload_n 3, 1) := by decide +kernel
theorem dX6_quotient_84 : decode cX6_quotient 84 = .ok (.invokestatic 77, 3) := by decide +kernel
theorem dX6_quotient_87 : decode cX6_quotient 87 = .ok (.i2l, 1) := by decide +kernel
theorem dX6_quotient_88 : decode cX6_quotient 88 = .ok (.goto 5, 3) := by decide +kernel
theorem dX6_quotient_91 : decode cX6_quotient 91 = .ok (.iload_n 1, 1) := by decide +kernel
theorem dX6_quotient_92 : decode cX6_quotient 92 = .ok (.i2l, 1) := by decide +kernel
theorem dX6_quotient_93 : decode cX6_quotient 93 = .ok (.lstore 8, 2) := by decide +kernel
theorem dX6_quotient_95 : decode cX6_quotient 95 = .ok (.lload 8, 2) := by decide +kernel
theorem dX6_quotient_97 : decode cX6_quotient 97 = .ok (.lconst 0, 1) := by decide +kernel
theorem dX6_quotient_98 : decode cX6_quotient 98 = .ok (.lcmp, 1) := by decide +kernel
theorem dX6_quotient_99 : decode cX6_quotient 99 = .ok (.ifCond .ne 5, 3) := by decide +kernel
theorem dX6_quotient_102 : decode cX6_quotient 102 = .ok (.iconst 0, 1) := by decide +kernel
theorem dX6_quotient_103 : decode cX6_quotient 103 = .ok (.ireturn, 1) := by decide +kernel
theorem dX6_quotient_104 : decode cX6_quotient 104 = .ok (.lload 4, 2) := by decide +kernel
theorem dX6_quotient_106 : decode cX6_quotient 106 = .ok (.lload 8, 2) := by decide +kernel
theorem dX6_quotient_108 : decode cX6_quotient 108 = .ok (.ldiv, 1) := by decide +kernel
theorem dX6_quotient_109 : decode cX6_quotient 109 = .ok (.lstore 10, 2) := by decide +kernel
theorem dX6_quotient_111 : decode cX6_quotient 111 = .ok (.iload_n 2, 1) := by decide +kernel
theorem dX6_quotient_112 : decode cX6_quotient 112 = .ok (.ifCond .eq 13, 3) := by decide +kernel
theorem dX6_quotient_115 : decode cX6_quotient 115 = .ok (.iload_n 3, 1) := by decide +kernel
theorem dX6_quotient_116 : decode cX6_quotient 116 = .ok (.invokestatic 66, 3) := by decide +kernel
theorem dX6_quotient_119 : decode cX6_quotient 119 = .ok (.i2l, 1) := by decide +kernel
theorem dX6_quotient_120 : decode cX6_quotient 120 = .ok (.lconst 1, 1) := by decide +kernel
theorem dX6_quotient_121 : decode cX6_quotient 121 = .ok (.lsub, 1) := by decide +kernel
theorem dX6_quotient_122 : decode cX6_quotient 122 = .ok (.goto 8, 3) := by decide +kernel
theorem dX6_quotient_125 : decode cX6_quotient 125 = .ok (.iload_n 3, 1) := by decide +kernel
theorem dX6_quotient_126 : decode cX6_quotient 126 = .ok (.invokestatic 70, 3) := by decide +kernel
theorem dX6_quotient_129 : decode cX6_quotient 129 = .ok (.i2l, 1) := by decide +kernel
theorem dX6_quotient_130 : decode cX6_quotient 130 = .ok (.lstore 12, 2) := by decide +kernel
theorem dX6_quotient_132 : decode cX6_quotient 132 = .ok (.lload 10, 2) := by decide +kernel
theorem dX6_quotient_134 : decode cX6_quotient 134 = .ok (.lload 12, 2) := by decide +kernel
theorem dX6_quotient_136 : decode cX6_quotient 136 = .ok (.lcmp, 1) := by decide +kernel
theorem dX6_quotient_137 : decode cX6_quotient 137 = .ok (.ifCond .gt 20, 3) := by decide +kernel
theorem dX6_quotient_140 : decode cX6_quotient 140 = .ok (.lload 10, 2) := by decide +kernel
theorem dX6_quotient_142 : decode cX6_quotient 142 = .ok (.iload_n 2, 1) := by decide +kernel
theorem dX6_quotient_143 : decode cX6_quotient 143 = .ok (.ifCond .eq 9, 3) := by decide +kernel
theorem dX6_quotient_146 : decode cX6_quotient 146 = .ok (.lload 12, 2) := by decide +kernel
theorem dX6_quotient_148 : decode cX6_quotient 148 = .ok (.lneg, 1) := by decide +kernel
theorem dX6_quotient_149 : decode cX6_quotient 149 = .ok (.goto 4, 3) := by decide +kernel
theorem dX6_quotient_152 : decode cX6_quotient 152 = .ok (.lconst 0, 1) := by decide +kernel
theorem dX6_quotient_153 : decode cX6_quotient 153 = .ok (.lcmp, 1) := by decide +kernel
theorem dX6_quotient_154 : decode cX6_quotient 154 = .ok (.ifCond .ge 5, 3) := by decide +kernel
theorem dX6_quotient_157 : decode cX6_quotient 157 = .ok (.iconst 0, 1) := by decide +kernel
theorem dX6_quotient_158 : decode cX6_quotient 158 = .ok (.ireturn, 1) := by decide +kernel
theorem dX6_quotient_159 : decode cX6_quotient 159 = .ok (.lload 4, 2) := by decide +kernel
theorem dX6_quotient_161 : decode cX6_quotient 161 = .ok (.lload 10, 2) := by decide +kernel
theorem dX6_quotient_163 : decode cX6_quotient 163 = .ok (.lload 8, 2) := by decide +kernel
theorem dX6_quotient_165 : decode cX6_quotient 165 = .ok (.lmul, 1) := by decide +kernel
theorem dX6_quotient_166 : decode cX6_quotient 166 = .ok (.lsub, 1) := by decide +kernel
theorem dX6_quotient_167 : decode cX6_quotient 167 = .ok (.lstore 14, 2) := by decide +kernel
theorem dX6_quotient_169 : decode cX6_quotient 169 = .ok (.iload_n 3, 1) := by decide +kernel
theorem dX6_quotient_170 : decode cX6_quotient 170 = .ok (.ifCond .eq 30, 3) := by decide +kernel
theorem dX6_quotient_173 : decode cX6_quotient 173 = .ok (.aload_n 0, 1) := by decide +kernel
theorem dX6_quotient_174 : decode cX6_quotient 174 = .ok (.getfield 7, 3) := by decide +kernel
theorem dX6_quotient_177 : decode cX6_quotient 177 = .ok (.iconst 0, 1) := by decide +kernel
theorem dX6_quotient_178 : decode cX6_quotient 178 = .ok (.lload 10, 2) := by decide +kernel
theorem dX6_quotient_180 : decode cX6_quotient 180 = .ok (.l2i, 1) := by decide +kernel
theorem dX6_quotient_181 : decode cX6_quotient 181 = .ok (.ldc 39, 2) := by decide +kernel
theorem dX6_quotient_183 : decode cX6_quotient 183 = .ok (.iand, 1) := by decide +kernel
theorem dX6_quotient_184 : decode cX6_quotient 184 = .ok (.iastore, 1) := by decide +kernel
theorem dX6_quotient_185 : decode cX6_quotient 185 = .ok (.aload_n 0, 1) := by decide +kernel
theorem dX6_quotient_186 : decode cX6_quotient 186 = .ok (.getfield 7, 3) := by decide +kernel
theorem dX6_quotient_189 : decode cX6_quotient 189 = .ok (.iconst 2, 1) := by decide +kernel
theorem dX6_quotient_190 : decode cX6_quotient 190 = .ok (.lload 14, 2) := by decide +kernel
theorem dX6_quotient_192 : decode cX6_quotient 192 = .ok (.l2i, 1) := by decide +kernel
theorem dX6_quotient_193 : decode cX6_quotient 193 = .ok (.ldc 39, 2) := by decide +kernel
theorem dX6_quotient_195 : decode cX6_quotient 195 = .ok (.iand, 1) := by decide +kernel
theorem dX6_quotient_196 : decode cX6_quotient 196 = .ok (.iastore, 1) := by decide +kernel
theorem dX6_quotient_197 : decode cX6_quotient 197 = .ok (.goto 27, 3) := by decide +kernel
theorem dX6_quotient_200 : decode cX6_quotient 200 = .ok (.aload_n 0, 1) := by decide +kernel
theorem dX6_quotient_201 : decode cX6_quotient 201 = .ok (.getfield 7, 3) := by decide +kernel
theorem dX6_quotient_204 : decode cX6_quotient 204 = .ok (.iconst 0, 1) := by decide +kernel
theorem dX6_quotient_205 : decode cX6_quotient 205 = .ok (.lload 10, 2) := by decide +kernel
theorem dX6_quotient_207 : decode cX6_quotient 207 = .ok (.l2i, 1) := by decide +kernel
theorem dX6_quotient_208 : decode cX6_quotient 208 = .ok (.sipush 255, 3) := by decide +kernel
theorem dX6_quotient_211 : decode cX6_quotient 211 = .ok (.iand, 1) := by decide +kernel
theorem dX6_quotient_212 : decode cX6_quotient 212 = .ok (.lload 14, 2) := by decide +kernel
theorem dX6_quotient_214 : decode cX6_quotient 214 = .ok (.l2i, 1) := by decide +kernel
theorem dX6_quotient_215 : decode cX6_quotient 215 = .ok (.sipush 255, 3) := by decide +kernel
theorem dX6_quotient_218 : decode cX6_quotient 218 = .ok (.iand, 1) := by decide +kernel
theorem dX6_quotient_219 : decode cX6_quotient 219 = .ok (.bipush 8, 2) := by decide +kernel
theorem dX6_quotient_221 : decode cX6_quotient 221 = .ok (.ishl, 1) := by decide +kernel
theorem dX6_quotient_222 : decode cX6_quotient 222 = .ok (.ior, 1) := by decide +kernel
theorem dX6_quotient_223 : decode cX6_quotient 223 = .ok (.iastore, 1) := by decide +kernel
theorem dX6_quotient_224 : decode cX6_quotient 224 = .ok (.iconst 1, 1) := by decide +kernel
theorem dX6_quotient_225 : decode cX6_quotient 225 = .ok (.ireturn, 1) := by decide +kernel
theorem dX6_holds_0 : decode cX6_holds 0 = .ok (.aload_n 0, 1) := by decide +kernel
theorem dX6_holds_1 : decode cX6_holds 1 = .ok (.sipush 128, 3) := by decide +kernel
theorem dX6_holds_4 : decode cX6_holds 4 = .ok (.invokevirtual 97, 3) := by decide +kernel
theorem dX6_holds_7 : decode cX6_holds 7 = .ok (.aload_n 0, 1) := by decide +kernel
theorem dX6_holds_8 : decode cX6_holds 8 = .ok (.sipush 2048, 3) := by decide +kernel
theorem dX6_holds_11 : decode cX6_holds 11 = .ok (.invokevirtual 97, 3) := by decide +kernel
theorem dX6_holds_14 : decode cX6_holds 14 = .ok (.if_icmp .eq 7, 3) := by decide +kernel
theorem dX6_holds_17 : decode cX6_holds 17 = .ok (.iconst 1, 1) := by decide +kernel
theorem dX6_holds_18 : decode cX6_holds 18 = .ok (.goto 4, 3) := by decide +kernel
theorem dX6_holds_21 : decode cX6_holds 21 = .ok (.iconst 0, 1) := by decide +kernel
theorem dX6_holds_22 : decode cX6_holds 22 = .ok (.istore_n 2, 1) := by decide +kernel
theorem dX6_holds_23 : decode cX6_holds 23 = .ok (.iload_n 1, 1) := by decide +kernel
theorem dX6_holds_24 : decode cX6_holds 24 = .ok (.iconst 1, 1) := by decide +kernel
theorem dX6_holds_25 : decode cX6_holds 25 = .ok (.ishr, 1) := by decide +kernel
theorem dX6_holds_26 : decode cX6_holds 26 = .ok (.istore_n 3, 1) := by decide +kernel
theorem dX6_holds_27 : decode cX6_holds 27 = .ok (.iload_n 3, 1) := by decide +kernel
theorem dX6_holds_28 : decode cX6_holds 28 = .ok (.ifCond .ne 13, 3) := by decide +kernel
theorem dX6_holds_31 : decode cX6_holds 31 = .ok (.aload_n 0, 1) := by decide +kernel
theorem dX6_holds_32 : decode cX6_holds 32 = .ok (.sipush 2048, 3) := by decide +kernel
theorem dX6_holds_35 : decode cX6_holds 35 = .ok (.invokevirtual 97, 3) := by decide +kernel
theorem dX6_holds_38 : decode cX6_holds 38 = .ok (.goto 116, 3) := by decide +kernel
theorem dX6_holds_41 : decode cX6_holds 41 = .ok (.iload_n 3, 1) := by decide +kernel
theorem dX6_holds_42 : decode cX6_holds 42 = .ok (.iconst 1, 1) := by decide +kernel
theorem dX6_holds_43 : decode cX6_holds 43 = .ok (.if_icmp .ne 11, 3) := by decide +kernel
theorem dX6_holds_46 : decode cX6_holds 46 = .ok (.aload_n 0, 1) := by decide +kernel
theorem dX6_holds_47 : decode cX6_holds 47 = .ok (.iconst 1, 1) := by decide +kernel
theorem dX6_holds_48 : decode cX6_holds 48 = .ok (.invokevirtual 97, 3) := by decide +kernel
theorem dX6_holds_51 : decode cX6_holds 51 = .ok (.goto 103, 3) := by decide +kernel
theorem dX6_holds_54 : decode cX6_holds 54 = .ok (.iload_n 3, 1) := by decide +kernel
theorem dX6_holds_55 : decode cX6_holds 55 = .ok (.iconst 2, 1) := by decide +kernel
theorem dX6_holds_56 : decode cX6_holds 56 = .ok (.if_icmp .ne 12, 3) := by decide +kernel
theorem dX6_holds_59 : decode cX6_holds 59 = .ok (.aload_n 0, 1) := by decide +kernel
theorem dX6_holds_60 : decode cX6_holds 60 = .ok (.bipush 64, 2) := by decide +kernel
theorem dX6_holds_62 : decode cX6_holds 62 = .ok (.invokevirtual 97, 3) := by decide +kernel
theorem dX6_holds_65 : decode cX6_holds 65 = .ok (.goto 89, 3) := by decide +kernel
theorem dX6_holds_68 : decode cX6_holds 68 = .ok (.iload_n 3, 1) := by decide +kernel
theorem dX6_holds_69 : decode cX6_holds 69 = .ok (.iconst 3, 1) := by decide +kernel
theorem dX6_holds_70 : decode cX6_holds 70 = .ok (.if_icmp .ne 28, 3) := by decide +kernel
theorem dX6_holds_73 : decode cX6_holds 73 = .ok (.aload_n 0, 1) := by decide +kernel
theorem dX6_holds_74 : decode cX6_holds 74 = .ok (.iconst 1, 1) := by decide +kernel
theorem dX6_holds_75 : decode cX6_holds 75 = .ok (.invokevirtual 97, 3) := by decide +kernel
theorem dX6_holds_78 : decode cX6_holds 78 = .ok (.ifCond .ne 12, 3) := by decide +kernel
theorem dX6_holds_81 : decode cX6_holds 81 = .ok (.aload_n 0, 1) := by decide +kernel
theorem dX6_holds_82 : decode cX6_holds 82 = .ok (.bipush 64, 2) := by decide +kernel
theorem dX6_holds_84 : decode cX6_holds 84 = .ok (.invokevirtual 97, 3) := by decide +kernel
theorem dX6_holds_87 : decode cX6_holds 87 = .ok (.ifCond .eq 7, 3) := by decide +kernel
theorem dX6_holds_90 : decode cX6_holds 90 = .ok (.iconst 1, 1) := by decide +kernel
theorem dX6_holds_91 : decode cX6_holds 91 = .ok (.goto 63, 3) := by decide +kernel
theorem dX6_holds_94 : decode cX6_holds 94 = .ok (.iconst 0, 1) := by decide +kernel
theorem dX6_holds_95 : decode cX6_holds 95 = .ok (.goto 59, 3) := by decide +kernel
theorem dX6_holds_98 : decode cX6_holds 98 = .ok (.iload_n 3, 1) := by decide +kernel
theorem dX6_holds_99 : decode cX6_holds 99 = .ok (.iconst 4, 1) := by decide +kernel
theorem dX6_holds_100 : decode cX6_holds 100 = .ok (.if_icmp .ne 13, 3) := by decide +kernel
theorem dX6_holds_103 : decode cX6_holds 103 = .ok (.aload_n 0, 1) := by decide +kernel
theorem dX6_holds_104 : decode cX6_holds 104 = .ok (.sipush 128, 3) := by decide +kernel
theorem dX6_holds_107 : decode cX6_holds 107 = .ok (.invokevirtual 97, 3) := by decide +kernel
theorem dX6_holds_110 : decode cX6_holds 110 = .ok (.goto 44, 3) := by decide +kernel
theorem dX6_holds_113 : decode cX6_holds 113 = .ok (.iload_n 3, 1) := by decide +kernel
theorem dX6_holds_114 : decode cX6_holds 114 = .ok (.iconst 5, 1) := by decide +kernel
theorem dX6_holds_115 : decode cX6_holds 115 = .ok (.if_icmp .ne 11, 3) := by decide +kernel
theorem dX6_holds_118 : decode cX6_holds 118 = .ok (.aload_n 0, 1) := by decide +kernel
theorem dX6_holds_119 : decode cX6_holds 119 = .ok (.iconst 4, 1) := by decide +kernel
theorem dX6_holds_120 : decode cX6_holds 120 = .ok (.invokevirtual 97, 3) := by decide +kernel
theorem dX6_holds_123 : decode cX6_holds 123 = .ok (.goto 31, 3) := by decide +kernel
theorem dX6_holds_126 : decode cX6_holds 126 = .ok (.iload_n 3, 1) := by decide +kernel
theorem dX6_holds_127 : decode cX6_holds 127 = .ok (.bipush 6, 2) := by decide +kernel
theorem dX6_holds_129 : decode cX6_holds 129 = .ok (.if_icmp .ne 7, 3) := by decide +kernel
theorem dX6_holds_132 : decode cX6_holds 132 = .ok (.iload_n 2, 1) := by decide +kernel
theorem dX6_holds_133 : decode cX6_holds 133 = .ok (.goto 21, 3) := by decide +kernel
theorem dX6_holds_136 : decode cX6_holds 136 = .ok (.iload_n 2, 1) := by decide +kernel
theorem dX6_holds_137 : decode cX6_holds 137 = .ok (.ifCond .ne 12, 3) := by decide +kernel
theorem dX6_holds_140 : decode cX6_holds 140 = .ok (.aload_n 0, 1) := by decide +kernel
theorem dX6_holds_141 : decode cX6_holds 141 = .ok (.bipush 64, 2) := by decide +kernel
theorem dX6_holds_143 : decode cX6_holds 143 = .ok (.invokevirtual 97, 3) := by decide +kernel
theorem dX6_holds_146 : decode cX6_holds 146 = .ok (.ifCond .eq 7, 3) := by decide +kernel
theorem dX6_holds_149 : decode cX6_holds 149 = .ok (.iconst 1, 1) := by decide +kernel
theorem dX6_holds_150 : decode cX6_holds 150 = .ok (.goto 4, 3) := by decide +kernel
theorem dX6_holds_153 : decode cX6_holds 153 = .ok (.iconst 0, 1) := by decide +kernel
theorem dX6_holds_154 : decode cX6_holds 154 = .ok (.istore 4, 2) := by decide +kernel
theorem dX6_holds_156 : decode cX6_holds 156 = .ok (.iload 4, 2) := by decide +kernel
theorem dX6_holds_158 : decode cX6_holds 158 = .ok (.iload_n 1, 1) := by decide +kernel
theorem dX6_holds_159 : decode cX6_holds 159 = .ok (.iconst 2, 1) := by decide +kernel
theorem dX6_holds_160 : decode cX6_holds 160 = .ok (.irem, 1) := by decide +kernel
theorem dX6_holds_161 : decode cX6_holds 161 = .ok (.ifCond .ne 7, 3) := by decide +kernel
theorem dX6_holds_164 : decode cX6_holds 164 = .ok (.iconst 1, 1) := by decide +kernel
theorem dX6_holds_165 : decode cX6_holds 165 = .ok (.goto 4, 3) := by decide +kernel
theorem dX6_holds_168 : decode cX6_holds 168 = .ok (.iconst 0, 1) := by decide +kernel
theorem dX6_holds_169 : decode cX6_holds 169 = .ok (.if_icmp .ne 7, 3) := by decide +kernel
theorem dX6_holds_172 : decode cX6_holds 172 = .ok (.iconst 1, 1) := by decide +kernel
theorem dX6_holds_173 : decode cX6_holds 173 = .ok (.goto 4, 3) := by decide +kernel
theorem dX6_holds_176 : decode cX6_holds 176 = .ok (.iconst 0, 1) := by decide +kernel
theorem dX6_holds_177 : decode cX6_holds 177 = .ok (.ireturn, 1) := by decide +kernel
theorem dX6_fetch_0 : decode cX6_fetch 0 = .ok (.aload_n 0, 1) := by decide +kernel
theorem dX6_fetch_1 : decode cX6_fetch 1 = .ok (.aload_n 0, 1) := by decide +kernel
theorem dX6_fetch_2 : decode cX6_fetch 2 = .ok (.getfield 13, 3) := by decide +kernel
theorem dX6_fetch_5 : decode cX6_fetch 5 = .ok (.iconst 1, 1) := by decide +kernel
theorem dX6_fetch_6 : decode cX6_fetch 6 = .ok (.iaload, 1) := by decide +kernel
theorem dX6_fetch_7 : decode cX6_fetch 7 = .ok (.aload_n 0, 1) := by decide +kernel
theorem dX6_fetch_8 : decode cX6_fetch 8 = .ok (.getfield 114, 3) := by decide +kernel
theorem dX6_fetch_11 : decode cX6_fetch 11 = .ok (.invokestatic 41, 3) := by decide +kernel
theorem dX6_fetch_14 : decode cX6_fetch 14 = .ok (.invokevirtual 45, 3) := by decide +kernel
theorem dX6_fetch_17 : decode cX6_fetch 17 = .ok (.istore_n 1, 1) := by decide +kernel
theorem dX6_fetch_18 : decode cX6_fetch 18 = .ok (.aload_n 0, 1) := by decide +kernel
theorem dX6_fetch_19 : decode cX6_fetch 19 = .ok (.dup, 1) := by decide +kernel
theorem dX6_fetch_20 : decode cX6_fetch 20 = .ok (.getfield 114, 3) := by decide +kernel
theorem dX6_fetch_23 : decode cX6_fetch 23 = .ok (.iconst 1, 1) := by decide +kernel
theorem dX6_fetch_24 : decode cX6_fetch 24 = .ok (.iadd, 1) := by decide +kernel
theorem dX6_fetch_25 : decode cX6_fetch 25 = .ok (.putfield 114, 3) := by decide +kernel
theorem dX6_fetch_28 : decode cX6_fetch 28 = .ok (.iload_n 1, 1) := by decide +kernel
theorem dX6_fetch_29 : decode cX6_fetch 29 = .ok (.ireturn, 1) := by decide +kernel
theorem dX6_fetchWord_0 : decode cX6_fetchWord 0 = .ok (.aload_n 0, 1) := by decide +kernel
theorem dX6_fetchWord_1 : decode cX6_fetchWord 1 = .ok (.invokevirtual 117, 3) := by decide +kernel
theorem dX6_fetchWord_4 : decode cX6_fetchWord 4 = .ok (.istore_n 1, 1) := by decide +kernel
theorem dX6_fetchWord_5 : decode cX6_fetchWord 5 = .ok (.iload_n 1, 1) := by decide +kernel
theorem dX6_fetchWord_6 : decode cX6_fetchWord 6 = .ok (.aload_n 0, 1) := by decide +kernel
theorem dX6_fetchWord_7 : decode cX6_fetchWord 7 = .ok (.invokevirtual 117, 3) := by decide +kernel
theorem dX6_fetchWord_10 : decode cX6_fetchWord 10 = .ok (.bipush 8, 2) := by decide +kernel
theorem dX6_fetchWord_12 : decode cX6_fetchWord 12 = .ok (.ishl, 1) := by decide +kernel
theorem dX6_fetchWord_13 : decode cX6_fetchWord 13 = .ok (.ior, 1) := by decide +kernel
theorem dX6_fetchWord_14 : decode cX6_fetchWord 14 = .ok (.ireturn, 1) := by decide +kernel
theorem dX6_extended_0 : decode cX6_extended 0 = .ok (.iload_n 0, 1) := by decide +kernel
theorem dX6_extended_1 : decode cX6_extended 1 = .ok (.bipush 127, 2) := by decide +kernel
theorem dX6_extended_3 : decode cX6_extended 3 = .ok (.if_icmp .le 11, 3) := by decide +kernel
theorem dX6_extended_6 : decode cX6_extended 6 = .ok (.iload_n 0, 1) := by decide +kernel
theorem dX6_extended_7 : decode cX6_extended 7 = .ok (.sipush 256, 3) := by decide +kernel
theorem dX6_extended_10 : decode cX6_extended 10 = .ok (.isub, 1) := by decide +kernel
theorem dX6_extended_11 : decode cX6_extended 11 = .ok (.goto 4, 3) := by decide +kernel
theorem dX6_extended_14 : decode cX6_extended 14 = .ok (.iload_n 0, 1) := by decide +kernel
theorem dX6_extended_15 : decode cX6_extended 15 = .ok (.ireturn, 1) := by decide +kernel
theorem dX6_fetchNumber_0 : decode cX6_fetchNumber 0 = .ok (.iload_n 1, 1) := by decide +kernel
theorem dX6_fetchNumber_1 : decode cX6_fetchNumber 1 = .ok (.ifCond .eq 10, 3) := by decide +kernel
theorem dX6_fetchNumber_4 : decode cX6_fetchNumber 4 = .ok (.aload_n 0, 1) := by decide +kernel
theorem dX6_fetchNumber_5 : decode cX6_fetchNumber 5 = .ok (.invokevirtual 121, 3) := by decide +kernel
theorem dX6_fetchNumber_8 : decode cX6_fetchNumber 8 = .ok (.goto 7, 3) := by decide +kernel
theorem dX6_fetchNumber_11 : decode cX6_fetchNumber 11 = .ok (.aload_n 0, 1) := by decide +kernel
theorem dX6_fetchNumber_12 : decode cX6_fetchNumber 12 = .ok (.invokevirtual 117, 3) := by decide +kernel
theorem dX6_fetchNumber_15 : decode cX6_fetchNumber 15 = .ok (.ireturn, 1) := by decide +kernel
theorem dX6_segmentOr_0 : decode cX6_segmentOr 0 = .ok (.aload_n 0, 1) := by decide +kernel
theorem dX6_segmentOr_1 : decode cX6_segmentOr 1 = .ok (.getfield 13, 3) := by decide +kernel
theorem dX6_segmentOr_4 : decode cX6_segmentOr 4 = .ok (.aload_n 0, 1) := by decide +kernel
theorem dX6_segmentOr_5 : decode cX6_segmentOr 5 = .ok (.getfield 124, 3) := by decide +kernel
theorem dX6_segmentOr_8 : decode cX6_segmentOr 8 = .ok (.iconst (-1), 1) := by decide +kernel
theorem dX6_segmentOr_9 : decode cX6_segmentOr 9 = .ok (.if_icmp .ne 7, 3) := by decide +kernel
theorem dX6_segmentOr_12 : decode cX6_segmentOr 12 = .ok (.iload_n 1, 1) := by decide +kernel
theorem dX6_segmentOr_13 : decode cX6_segmentOr 13 = .ok (.goto 7, 3) := by decide +kernel
theorem dX6_segmentOr_16 : decode cX6_segmentOr 16 = .ok (.aload_n 0, 1) := by decide +kernel
theorem dX6_segmentOr_17 : decode cX6_segmentOr 17 = .ok (.getfield 124, 3) := by decide +kernel
theorem dX6_segmentOr_20 : decode cX6_segmentOr 20 = .ok (.iaload, 1) := by decide +kernel
theorem dX6_segmentOr_21 : decode cX6_segmentOr 21 = .ok (.ireturn, 1) := by decide +kernel
theorem dX6_fetchMode_0 : decode cX6_fetchMode 0 = .ok (.aload_n 0, 1) := by decide +kernel
theorem dX6_fetchMode_1 : decode cX6_fetchMode 1 = .ok (.invokevirtual 117, 3) := by decide +kernel
theorem dX6_fetchMode_4 : decode cX6_fetchMode 4 = .ok (.istore_n 1, 1) := by decide +kernel
theorem dX6_fetchMode_5 : decode cX6_fetchMode 5 = .ok (.aload_n 0, 1) := by decide +kernel
theorem dX6_fetchMode_6 : decode cX6_fetchMode 6 = .ok (.iload_n 1, 1) := by decide +kernel
theorem dX6_fetchMode_7 : decode cX6_fetchMode 7 = .ok (.bipush 6, 2) := by decide +kernel
theorem dX6_fetchMode_9 : decode cX6_fetchMode 9 = .ok (.ishr, 1) := by decide +kernel
theorem dX6_fetchMode_10 : decode cX6_fetchMode 10 = .ok (.putfield 127, 3) := by decide +kernel
theorem dX6_fetchMode_13 : decode cX6_fetchMode 13 = .ok (.aload_n 0, 1) := by decide +kernel
theorem dX6_fetchMode_14 : decode cX6_fetchMode 14 = .ok (.iload_n 1, 1) := by decide +kernel
theorem dX6_fetchMode_15 : decode cX6_fetchMode 15 = .ok (.iconst 3, 1) := by decide +kernel
theorem dX6_fetchMode_16 : decode cX6_fetchMode 16 = .ok (.ishr, 1) := by decide +kernel
theorem dX6_fetchMode_17 : decode cX6_fetchMode 17 = .ok (.bipush 7, 2) := by decide +kernel
theorem dX6_fetchMode_19 : decode cX6_fetchMode 19 = .ok (.iand, 1) := by decide +kernel
theorem dX6_fetchMode_20 : decode cX6_fetchMode 20 = .ok (.putfield 130, 3) := by decide +kernel
theorem dX6_fetchMode_23 : decode cX6_fetchMode 23 = .ok (.aload_n 0, 1) := by decide +kernel
theorem dX6_fetchMode_24 : decode cX6_fetchMode 24 = .ok (.iload_n 1, 1) := by decide +kernel
theorem dX6_fetchMode_25 : decode cX6_fetchMode 25 = .ok (.bipush 7, 2) := by decide +kernel
theorem dX6_fetchMode_27 : decode cX6_fetchMode 27 = .ok (.iand, 1) := by decide +kernel
theorem dX6_fetchMode_28 : decode cX6_fetchMode 28 = .ok (.putfield 133, 3) := by decide +kernel
theorem dX6_fetchMode_31 : decode cX6_fetchMode 31 = .ok (.aload_n 0, 1) := by decide +kernel
theorem dX6_fetchMode_32 : decode cX6_fetchMode 32 = .ok (.getfield 127, 3) := by decide +kernel
theorem dX6_fetchMode_35 : decode cX6_fetchMode 35 = .ok (.iconst 3, 1) := by decide +kernel
theorem dX6_fetchMode_36 : decode cX6_fetchMode 36 = .ok (.if_icmp .ne 4, 3) := by decide +kernel
theorem dX6_fetchMode_39 : decode cX6_fetchMode 39 = .ok (.return_, 1) := by decide +kernel
theorem dX6_fetchMode_40 : decode cX6_fetchMode 40 = .ok (.aload_n 0, 1) := by decide +kernel
theorem dX6_fetchMode_41 : decode cX6_fetchMode 41 = .ok (.getfield 127, 3) := by decide +kernel
theorem dX6_fetchMode_44 : decode cX6_fetchMode 44 = .ok (.ifCond .ne 16, 3) := by decide +kernel
theorem dX6_fetchMode_47 : decode cX6_fetchMode 47 = .ok (.aload_n 0, 1) := by decide +kernel
theorem dX6_fetchMode_48 : decode cX6_fetchMode 48 = .ok (.getfield 133, 3) := by decide +kernel
theorem dX6_fetchMode_51 : decode cX6_fetchMode 51 = .ok (.bipush 6, 2) := by decide +kernel
theorem dX6_fetchMode_53 : decode cX6_fetchMode 53 = .ok (.if_icmp .ne 7, 3) := by decide +kernel
theorem dX6_fetchMode_56 : decode cX6_fetchMode 56 = .ok (.iconst 1, 1) := by decide +kernel
theorem dX6_fetchMode_57 : decode cX6_fetchMode 57 = .ok (.goto 4, 3) := by decide +kernel
theorem dX6_fetchMode_60 : decode cX6_fetchMode 60 = .ok (.iconst 0, 1) := by decide +kernel
theorem dX6_fetchMode_61 : decode cX6_fetchMode 61 = .ok (.istore_n 2, 1) := by decide +kernel
theorem dX6_fetchMode_62 : decode cX6_fetchMode 62 = .ok (.aload_n 0, 1) := by decide +kernel
theorem dX6_fetchMode_63 : decode cX6_fetchMode 63 = .ok (.getfield 133, 3) := by decide +kernel
theorem dX6_fetchMode_66 : decode cX6_fetchMode 66 = .ok (.ifCond .eq 20, 3) := by decide +kernel
theorem dX6_fetchMode_69 : decode cX6_fetchMode 69 = .ok (.aload_n 0, 1) := by decide +kernel
theorem dX6_fetchMode_70 : decode cX6_fetchMode 70 = .ok (.getfield 133, 3) := by decide +kernel
theorem dX6_fetchMode_73 : decode cX6_fetchMode 73 = .ok (.iconst 1, 1) := by decide +kernel
theorem dX6_fetchMode_74 : decode cX6_fetchMode 74 = .ok (.if_icmp .eq 12, 3) := by decide +kernel
theorem dX6_fetchMode_77 : decode cX6_fetchMode 77 = .ok (.aload_n 0, 1) := by decide +kernel
theorem dX6_fetchMode_78 : decode cX6_fetchMode 78 = .ok (.getfield 133, 3) := by decide +kernel
theorem dX6_fetchMode_81 : decode cX6_fetchMode 81 = .ok (.bipush 7, 2) := by decide +kernel
theorem dX6_fetchMode_83 : decode cX6_fetchMode 83 = .ok (.if_icmp .ne 12, 3) := by decide +kernel
theorem dX6_fetchMode_86 : decode cX6_fetchMode 86 = .ok (.aload_n 0, 1) := by decide +kernel
theorem dX6_fetchMode_87 : decode cX6_fetchMode 87 = .ok (.getfield 7, 3) := by decide +kernel
theorem dX6_fetchMode_90 : decode cX6_fetchMode 90 = .ok (.iconst 3, 1) := by decide +kernel
theorem dX6_fetchMode_91 : decode cX6_fetchMode 91 = .ok (.iaload, 1) := by decide +kernel
theorem dX6_fetchMode_92 : decode cX6_fetchMode 92 = .ok (.goto 38, 3) := by decide +kernel
theorem dX6_fetchMode_95 : decode cX6_fetchMode 95 = .ok (.aload_n 0, 1) := by decide +kernel
theorem dX6_fetchMode_96 : decode cX6_fetchMode 96 = .ok (.getfield 133, 3) := by decide +kernel
theorem dX6_fetchMode_99 : decode cX6_fetchMode 99 = .ok (.iconst 2, 1) := by decide +kernel
theorem dX6_fetchMode_100 : decode cX6_fetchMode 100 = .ok (.if_icmp .eq 20, 3) := by decide +kernel
theorem dX6_fetchMode_103 : decode cX6_fetchMode 103 = .ok (.aload_n 0, 1) := by decide +kernel
theorem dX6_fetchMode_104 : decode cX6_fetchMode 104 = .ok (.getfield 133, 3) := by decide +kernel
theorem dX6_fetchMode_107 : decode cX6_fetchMode 107 = .ok (.iconst 3, 1) := by decide +kernel
theorem dX6_fetchMode_108 : decode cX6_fetchMode 108 = .ok (.if_icmp .eq 12, 3) := by decide +kernel
theorem dX6_fetchMode_111 : decode cX6_fetchMode 111 = .ok (.aload_n 0, 1) := by decide +kernel
theorem dX6_fetchMode_112 : decode cX6_fetchMode 112 = .ok (.getfield 133, 3) := by decide +kernel
theorem dX6_fetchMode_115 : decode cX6_fetchMode 115 = .ok (.bipush 6, 2) := by decide +kernel
theorem dX6_fetchMode_117 : decode cX6_fetchMode 117 = .ok (.if_icmp .ne 12, 3) := by decide +kernel
theorem dX6_fetchMode_120 : decode cX6_fetchMode 120 = .ok (.aload_n 0, 1) := by decide +kernel
theorem dX6_fetchMode_121 : decode cX6_fetchMode 121 = .ok (.getfield 7, 3) := by decide +kernel
theorem dX6_fetchMode_124 : decode cX6_fetchMode 124 = .ok (.iconst 5, 1) := by decide +kernel
theorem dX6_fetchMode_125 : decode cX6_fetchMode 125 = .ok (.iaload, 1) := by decide +kernel
theorem dX6_fetchMode_126 : decode cX6_fetchMode 126 = .ok (.goto 4, 3) := by decide +kernel
theorem dX6_fetchMode_129 : decode cX6_fetchMode 129 = .ok (.iconst 0, 1) := by decide +kernel
theorem dX6_fetchMode_130 : decode cX6_fetchMode 130 = .ok (.istore_n 3, 1) := by decide +kernel
theorem dX6_fetchMode_131 : decode cX6_fetchMode 131 = .ok (.aload_n 0, 1) := by decide +kernel
theorem dX6_fetchMode_132 : decode cX6_fetchMode 132 = .ok (.getfield 133, 3) := by decide +kernel
theorem dX6_fetchMode_135 : decode cX6_fetchMode 135 = .ok (.ifCond .eq 19, 3) := by decide +kernel
theorem dX6_fetchMode_138 : decode cX6_fetchMode 138 = .ok (.aload_n 0, 1) := by decide +kernel
theorem dX6_fetchMode_139 : decode cX6_fetchMode 139 = .ok (.getfield 133, 3) := by decide +kernel
theorem dX6_fetchMode_142 : decode cX6_fetchMode 142 = .ok (.iconst 2, 1) := by decide +kernel
theorem dX6_fetchMode_143 : decode cX6_fetchMode 143 = .ok (.if_icmp .eq 11, 3) := by decide +kernel
theorem dX6_fetchMode_146 : decode cX6_fetchMode 146 = .ok (.aload_n 0, 1) := by decide +kernel
theorem dX6_fetchMode_147 : decode cX6_fetchMode 147 = .ok (.getfield 133, 3) := by decide +kernel
theorem dX6_fetchMode_150 : decode cX6_fetchMode 150 = .ok (.iconst 4, 1) := by decide +kernel
theorem dX6_fetchMode_151 : decode cX6_fetchMode 151 = .ok (.if_icmp .ne 13, 3) := by decide +kernel
theorem dX6_fetchMode_154 : decode cX6_fetchMode 154 = .ok (.aload_n 0, 1) := by decide +kernel
theorem dX6_fetchMode_155 : decode cX6_fetchMode 155 = .ok (.getfield 7, 3) := by decide +kernel
theorem dX6_fetchMode_158 : decode cX6_fetchMode 158 = .ok (.bipush 6, 2) := by decide +kernel
theorem dX6_fetchMode_160 : decode cX6_fetchMode 160 = .ok (.iaload, 1) := by decide +kernel
theorem dX6_fetchMode_161 : decode cX6_fetchMode 161 = .ok (.goto 38, 3) := by decide +kernel
theorem dX6_fetchMode_164 : decode cX6_fetchMode 164 = .ok (.aload_n 0, 1) := by decide +kernel
theorem dX6_fetchMode_165 : decode cX6_fetchMode 165 = .ok (.getfield 133, 3) := by decide +kernel
theorem dX6_fetchMode_168 : decode cX6_fetchMode 168 = .ok (.iconst 1, 1) := by decide +kernel
theorem dX6_fetchMode_169 : decode cX6_fetchMode 169 = .ok (.if_icmp .eq 19, 3) := by decide +kernel
theorem dX6_fetchMode_172 : decode cX6_fetchMode 172 = .ok (.aload_n 0, 1) := by decide +kernel
theorem dX6_fetchMode_173 : decode cX6_fetchMode 173 = .ok (.getfield 133, 3) := by decide +kernel
theorem dX6_fetchMode_176 : decode cX6_fetchMode 176 = .ok (.iconst 3, 1) := by decide +kernel
theorem dX6_fetchMode_177 : decode cX6_fetchMode 177 = .ok (.if_icmp .eq 11, 3) := by decide +kernel
theorem dX6_fetchMode_180 : decode cX6_fetchMode 180 = .ok (.aload_n 0, 1) := by decide +kernel
theorem dX6_fetchMode_181 : decode cX6_fetchMode 181 = .ok (.getfield 133, 3) := by decide +kernel
theorem dX6_fetchMode_184 : decode cX6_fetchMode 184 = .ok (.iconst 5, 1) := by decide +kernel
theorem dX6_fetchMode_185 : decode cX6_fetchMode 185 = .ok (.if_icmp .ne 13, 3) := by decide +kernel
theorem dX6_fetchMode_188 : decode cX6_fetchMode 188 = .ok (.aload_n 0, 1) := by decide +kernel
theorem dX6_fetchMode_189 : decode cX6_fetchMode 189 = .ok (.getfield 7, 3) := by decide +kernel
theorem dX6_fetchMode_192 : decode cX6_fetchMode 192 = .ok (.bipush 7, 2) := by decide +kernel
theorem dX6_fetchMode_194 : decode cX6_fetchMode 194 = .ok (.iaload, 1) := by decide +kernel
theorem dX6_fetchMode_195 : decode cX6_fetchMode 195 = .ok (.goto 4, 3) := by decide +kernel
theorem dX6_fetchMode_198 : decode cX6_fetchMode 198 = .ok (.iconst 0, 1) := by decide +kernel
theorem dX6_fetchMode_199 : decode cX6_fetchMode 199 = .ok (.istore 4, 2) := by decide +kernel
theorem dX6_fetchMode_201 : decode cX6_fetchMode 201 = .ok (.iload_n 2, 1) := by decide +kernel
theorem dX6_fetchMode_202 : decode cX6_fetchMode 202 = .ok (.ifCond .ne 11, 3) := by decide +kernel
theorem dX6_fetchMode_205 : decode cX6_fetchMode 205 = .ok (.aload_n 0, 1) := by decide +kernel
theorem dX6_fetchMode_206 : decode cX6_fetchMode 206 = .ok (.getfield 127, 3) := by decide +kernel
theorem dX6_fetchMode_209 : decode cX6_fetchMode 209 = .ok (.iconst 2, 1) := by decide +kernel
theorem dX6_fetchMode_210 : decode cX6_fetchMode 210 = .ok (.if_icmp .ne 10, 3) := by decide +kernel
theorem dX6_fetchMode_213 : decode cX6_fetchMode 213 = .ok (.aload_n 0, 1) := by decide +kernel
theorem dX6_fetchMode_214 : decode cX6_fetchMode 214 = .ok (.invokevirtual 121, 3) := by decide +kernel
theorem dX6_fetchMode_217 : decode cX6_fetchMode 217 = .ok (.goto 22, 3) := by decide +kernel
theorem dX6_fetchMode_220 : decode cX6_fetchMode 220 = .ok (.aload_n 0, 1) := by decide +kernel
theorem dX6_fetchMode_221 : decode cX6_fetchMode 221 = .ok (.getfield 127, 3) := by decide +kernel
theorem dX6_fetchMode_224 : decode cX6_fetchMode 224 = .ok (.iconst 1, 1) := by decide +kernel
theorem dX6_fetchMode_225 : decode cX6_fetchMode 225 = .ok (.if_icmp .ne 13, 3) := by decide +kernel
theorem dX6_fetchMode_228 : decode cX6_fetchMode 228 = .ok (.aload_n 0, 1) := by decide +kernel
theorem dX6_fetchMode_229 : decode cX6_fetchMode 229 = .ok (.invokevirtual 117, 3) := by decide +kernel
theorem dX6_fetchMode_232 : decode cX6_fetchMode 232 = .ok (.invokestatic 136, 3) := by decide +kernel
theorem dX6_fetchMode_235 : decode cX6_fetchMode 235 = .ok (.goto 4, 3) := by decide +kernel
theorem dX6_fetchMode_238 : decode cX6_fetchMode 238 = .ok (.iconst 0, 1) := by decide +kernel
theorem dX6_fetchMode_239 : decode cX6_fetchMode 239 = .ok (.istore 5, 2) := by decide +kernel
theorem dX6_fetchMode_241 : decode cX6_fetchMode 241 = .ok (.aload_n 0, 1) := by decide +kernel
theorem dX6_fetchMode_242 : decode cX6_fetchMode 242 = .ok (.iload_n 2, 1) := by decide +kernel
theorem dX6_fetchMode_243 : decode cX6_fetchMode 243 = .ok (.ifCond .eq 8, 3) := by decide +kernel
theorem dX6_fetchMode_246 : decode cX6_fetchMode 246 = .ok (.iload 5, 2) := by decide +kernel
theorem dX6_fetchMode_248 : decode cX6_fetchMode 248 = .ok (.goto 13, 3) := by decide +kernel
theorem dX6_fetchMode_251 : decode cX6_fetchMode 251 = .ok (.iload_n 3, 1) := by decide +kernel
theorem dX6_fetchMode_252 : decode cX6_fetchMode 252 = .ok (.iload 4, 2) := by decide +kernel
theorem dX6_fetchMode_254 : decode cX6_fetchMode 254 = .ok (.iadd, 1) := by decide +kernel
theorem dX6_fetchMode_255 : decode cX6_fetchMode 255 = .ok (.iload 5, 2) := by decide +kernel
theorem dX6_fetchMode_257 : decode cX6_fetchMode 257 = .ok (.iadd, 1) := by decide +kernel
theorem dX6_fetchMode_258 : decode cX6_fetchMode 258 = .ok (.ldc 39, 2) := by decide +kernel
theorem dX6_fetchMode_260 : decode cX6_fetchMode 260 = .ok (.iand, 1) := by decide +kernel
theorem dX6_fetchMode_261 : decode cX6_fetchMode 261 = .ok (.putfield 139, 3) := by decide +kernel
theorem dX6_fetchMode_264 : decode cX6_fetchMode 264 = .ok (.aload_n 0, 1) := by decide +kernel
theorem dX6_fetchMode_265 : decode cX6_fetchMode 265 = .ok (.aload_n 0, 1) := by decide +kernel
theorem dX6_fetchMode_266 : decode cX6_fetchMode 266 = .ok (.iload_n 2, 1) := by decide +kernel
theorem dX6_fetchMode_267 : decode cX6_fetchMode 267 = .ok (.ifCond .ne 32, 3) := by decide +kernel
theorem dX6_fetchMode_270 : decode cX6_fetchMode 270 = .ok (.aload_n 0, 1) := by decide +kernel
theorem dX6_fetchMode_271 : decode cX6_fetchMode 271 = .ok (.getfield 133, 3) := by decide +kernel
theorem dX6_fetchMode_274 : decode cX6_fetchMode 274 = .ok (.iconst 2, 1) := by decide +kernel
theorem dX6_fetchMode_275 : decode cX6_fetchMode 275 = .ok (.if_icmp .eq 20, 3) := by decide +kernel
theorem dX6_fetchMode_278 : decode cX6_fetchMode 278 = .ok (.aload_n 0, 1) := by decide +kernel
theorem dX6_fetchMode_279 : decode cX6_fetchMode 279 = .ok (.getfield 133, 3) := by decide +kernel
theorem dX6_fetchMode_282 : decode cX6_fetchMode 282 = .ok (.iconst 3, 1) := by decide +kernel
theorem dX6_fetchMode_283 : decode cX6_fetchMode 283 = .ok (.if_icmp .eq 12, 3) := by decide +kernel
theorem dX6_fetchMode_286 : decode cX6_fetchMode 286 = .ok (.aload_n 0, 1) := by decide +kernel
theorem dX6_fetchMode_287 : decode cX6_fetchMode 287 = .ok (.getfield 133, 3) := by decide +kernel
theorem dX6_fetchMode_290 : decode cX6_fetchMode 290 = .ok (.bipush 6, 2) := by decide +kernel
theorem dX6_fetchMode_292 : decode cX6_fetchMode 292 = .ok (.if_icmp .ne 7, 3) := by decide +kernel
theorem dX6_fetchMode_295 : decode cX6_fetchMode 295 = .ok (.iconst 2, 1) := by decide +kernel
theorem dX6_fetchMode_296 : decode cX6_fetchMode 296 = .ok (.goto 4, 3) := by decide +kernel
theorem dX6_fetchMode_299 : decode cX6_fetchMode 299 = .ok (.iconst 3, 1) := by decide +kernel
theorem dX6_fetchMode_300 : decode cX6_fetchMode 300 = .ok (.invokevirtual 142, 3) := by decide +kernel
theorem dX6_fetchMode_303 : decode cX6_fetchMode 303 = .ok (.putfield 145, 3) := by decide +kernel
theorem dX6_fetchMode_306 : decode cX6_fetchMode 306 = .ok (.return_, 1) := by decide +kernel
theorem dX6_hasMode_0 : decode cX6_hasMode 0 = .ok (.aload_n 0, 1) := by decide +kernel
theorem dX6_hasMode_1 : decode cX6_hasMode 1 = .ok (.getfield 148, 3) := by decide +kernel
theorem dX6_hasMode_4 : decode cX6_hasMode 4 = .ok (.bipush 64, 2) := by decide +kernel
theorem dX6_hasMode_6 : decode cX6_hasMode 6 = .ok (.if_icmp .ge 14, 3) := by decide +kernel
theorem dX6_hasMode_9 : decode cX6_hasMode 9 = .ok (.aload_n 0, 1) := by decide +kernel
theorem dX6_hasMode_10 : decode cX6_hasMode 10 = .ok (.getfield 148, 3) := by decide +kernel
theorem dX6_hasMode_13 : decode cX6_hasMode 13 = .ok (.bipush 7, 2) := by decide +kernel
theorem dX6_hasMode_15 : decode cX6_hasMode 15 = .ok (.iand, 1) := by decide +kernel
theorem dX6_hasMode_16 : decode cX6_hasMode 16 = .ok (.iconst 4, 1) := by decide +kernel
theorem dX6_hasMode_17 : decode cX6_hasMode 17 = .ok (.if_icmp .lt 143, 3) := by decide +kernel
theorem dX6_hasMode_20 : decode cX6_hasMode 20 = .ok (.aload_n 0, 1) := by decide +kernel
theorem dX6_hasMode_21 : decode cX6_hasMode 21 = .ok (.getfield 148, 3) := by decide +kernel
theorem dX6_hasMode_24 : decode cX6_hasMode 24 = .ok (.sipush 128, 3) := by decide +kernel
theorem dX6_hasMode_27 : decode cX6_hasMode 27 = .ok (.if_icmp .lt 13, 3) := by decide +kernel
theorem dX6_hasMode_30 : decode cX6_hasMode 30 = .ok (.aload_n 0, 1) := by decide +kernel
theorem dX6_hasMode_31 : decode cX6_hasMode 31 = .ok (.getfield 148, 3) := by decide +kernel
theorem dX6_hasMode_34 : decode cX6_hasMode 34 = .ok (.sipush 144, 3) := by decide +kernel
theorem dX6_hasMode_37 : decode cX6_hasMode 37 = .ok (.if_icmp .lt 123, 3) := by decide +kernel
theorem dX6_hasMode_40 : decode cX6_hasMode 40 = .ok (.aload_n 0, 1) := by decide +kernel
theorem dX6_hasMode_41 : decode cX6_hasMode 41 = .ok (.getfield 148, 3) := by decide +kernel
theorem dX6_hasMode_44 : decode cX6_hasMode 44 = .ok (.sipush 196, 3) := by decide +kernel
theorem dX6_hasMode_47 : decode cX6_hasMode 47 = .ok (.if_icmp .eq 113, 3) := by decide +kernel
theorem dX6_hasMode_50 : decode cX6_hasMode 50 = .ok (.aload_n 0, 1) := by decide +kernel
theorem dX6_hasMode_51 : decode cX6_hasMode 51 = .ok (.getfield 148, 3) := by decide +kernel
theorem dX6_hasMode_54 : decode cX6_hasMode 54 = .ok (.sipush 197, 3) := by decide +kernel
theorem dX6_hasMode_57 : decode cX6_hasMode 57 = .ok (.if_icmp .eq 103, 3) := by decide +kernel
theorem dX6_hasMode_60 : decode cX6_hasMode 60 = .ok (.aload_n 0, 1) := by decide +kernel
theorem dX6_hasMode_61 : decode cX6_hasMode 61 = .ok (.getfield 148, 3) := by decide +kernel
theorem dX6_hasMode_64 : decode cX6_hasMode 64 = .ok (.sipush 198, 3) := by decide +kernel
theorem dX6_hasMode_67 : decode cX6_hasMode 67 = .ok (.if_icmp .eq 93, 3) := by decide +kernel
theorem dX6_hasMode_70 : decode cX6_hasMode 70 = .ok (.aload_n 0, 1) := by decide +kernel
theorem dX6_hasMode_71 : decode cX6_hasMode 71 = .ok (.getfield 148, 3) := by decide +kernel
theorem dX6_hasMode_74 : decode cX6_hasMode 74 = .ok (.sipush 199, 3) := by decide +kernel
theorem dX6_hasMode_77 : decode cX6_hasMode 77 = .ok (.if_icmp .eq 83, 3) := by decide +kernel
theorem dX6_hasMode_80 : decode cX6_hasMode 80 = .ok (.aload_n 0, 1) := by decide +kernel
theorem dX6_hasMode_81 : decode cX6_hasMode 81 = .ok (.getfield 148, 3) := by decide +kernel
theorem dX6_hasMode_84 : decode cX6_hasMode 84 = .ok (.sipush 208, 3) := by decide +kernel
theorem dX6_hasMode_87 : decode cX6_hasMode 87 = .ok (.if_icmp .lt 13, 3) := by decide +kernel
theorem dX6_hasMode_90 : decode cX6_hasMode 90 = .ok (.aload_n 0, 1) := by decide +kernel
theorem dX6_hasMode_91 : decode cX6_hasMode 91 = .ok (.getfield 148, 3) := by decide +kernel
theorem dX6_hasMode_94 : decode cX6_hasMode 94 = .ok (.sipush 212, 3) := by decide +kernel
theorem dX6_hasMode_97 : decode cX6_hasMode 97 = .ok (.if_icmp .lt 63, 3) := by decide +kernel
theorem dX6_hasMode_100 : decode cX6_hasMode 100 = .ok (.aload_n 0, 1) := by decide +kernel
theorem dX6_hasMode_101 : decode cX6_hasMode 101 = .ok (.getfield 148, 3) := by decide +kernel
theorem dX6_hasMode_104 : decode cX6_hasMode 104 = .ok (.sipush 216, 3) := by decide +kernel
theorem dX6_hasMode_107 : decode cX6_hasMode 107 = .ok (.if_icmp .lt 13, 3) := by decide +kernel
theorem dX6_hasMode_110 : decode cX6_hasMode 110 = .ok (.aload_n 0, 1) := by decide +kernel
theorem dX6_hasMode_111 : decode cX6_hasMode 111 = .ok (.getfield 148, 3) := by decide +kernel
theorem dX6_hasMode_114 : decode cX6_hasMode 114 = .ok (.sipush 224, 3) := by decide +kernel
theorem dX6_hasMode_117 : decode cX6_hasMode 117 = .ok (.if_icmp .lt 43, 3) := by decide +kernel
theorem dX6_hasMode_120 : decode cX6_hasMode 120 = .ok (.aload_n 0, 1) := by decide +kernel
theorem dX6_hasMode_121 : decode cX6_hasMode 121 = .ok (.getfield 148, 3) := by decide +kernel
theorem dX6_hasMode_124 : decode cX6_hasMode 124 = .ok (.sipush 246, 3) := by decide +kernel
theorem dX6_hasMode_127 : decode cX6_hasMode 127 = .ok (.if_icmp .eq 33, 3) := by decide +kernel
theorem dX6_hasMode_130 : decode cX6_hasMode 130 = .ok (.aload_n 0, 1) := by decide +kernel
theorem dX6_hasMode_131 : decode cX6_hasMode 131 = .ok (.getfield 148, 3) := by decide +kernel
theorem dX6_hasMode_134 : decode cX6_hasMode 134 = .ok (.sipush 247, 3) := by decide +kernel
theorem dX6_hasMode_137 : decode cX6_hasMode 137 = .ok (.if_icmp .eq 23, 3) := by decide +kernel
theorem dX6_hasMode_140 : decode cX6_hasMode 140 = .ok (.aload_n 0, 1) := by decide +kernel
theorem dX6_hasMode_141 : decode cX6_hasMode 141 = .ok (.getfield 148, 3) := by decide +kernel
theorem dX6_hasMode_144 : decode cX6_hasMode 144 = .ok (.sipush 254, 3) := by decide +kernel
theorem dX6_hasMode_147 : decode cX6_hasMode 147 = .ok (.if_icmp .eq 13, 3) := by decide +kernel
theorem dX6_hasMode_150 : decode cX6_hasMode 150 = .ok (.aload_n 0, 1) := by decide +kernel
theorem dX6_hasMode_151 : decode cX6_hasMode 151 = .ok (.getfield 148, 3) := by decide +kernel
theorem dX6_hasMode_154 : decode cX6_hasMode 154 = .ok (.sipush 255, 3) := by decide +kernel
theorem dX6_hasMode_157 : decode cX6_hasMode 157 = .ok (.if_icmp .ne 7, 3) := by decide +kernel
theorem dX6_hasMode_160 : decode cX6_hasMode 160 = .ok (.iconst 1, 1) := by decide +kernel
theorem dX6_hasMode_161 : decode cX6_hasMode 161 = .ok (.goto 4, 3) := by decide +kernel
theorem dX6_hasMode_164 : decode cX6_hasMode 164 = .ok (.iconst 0, 1) := by decide +kernel
theorem dX6_hasMode_165 : decode cX6_hasMode 165 = .ok (.ireturn, 1) := by decide +kernel
theorem dX6_isWide_0 : decode cX6_isWide 0 = .ok (.aload_n 0, 1) := by decide +kernel
theorem dX6_isWide_1 : decode cX6_isWide 1 = .ok (.getfield 148, 3) := by decide +kernel
theorem dX6_isWide_4 : decode cX6_isWide 4 = .ok (.iconst 2, 1) := by decide +kernel
theorem dX6_isWide_5 : decode cX6_isWide 5 = .ok (.irem, 1) := by decide +kernel
theorem dX6_isWide_6 : decode cX6_isWide 6 = .ok (.iconst 1, 1) := by decide +kernel
theorem dX6_isWide_7 : decode cX6_isWide 7 = .ok (.if_icmp .ne 7, 3) := by decide +kernel
theorem dX6_isWide_10 : decode cX6_isWide 10 = .ok (.iconst 1, 1) := by decide +kernel
theorem dX6_isWide_11 : decode cX6_isWide 11 = .ok (.goto 4, 3) := by decide +kernel
theorem dX6_isWide_14 : decode cX6_isWide 14 = .ok (.iconst 0, 1) := by decide +kernel
theorem dX6_isWide_15 : decode cX6_isWide 15 = .ok (.ireturn, 1) := by decide +kernel
theorem dX6_follows_0 : decode cX6_follows 0 = .ok (.aload_n 0, 1) := by decide +kernel
theorem dX6_follows_1 : decode cX6_follows 1 = .ok (.invokevirtual 151, 3) := by decide +kernel
theorem dX6_follows_4 : decode cX6_follows 4 = .ok (.ifCond .eq 7, 3) := by decide +kernel
theorem dX6_follows_7 : decode cX6_follows 7 = .ok (.aload_n 0, 1) := by decide +kernel
theorem dX6_follows_8 : decode cX6_follows 8 = .ok (.invokevirtual 155, 3) := by decide +kernel
theorem dX6_follows_11 : decode cX6_follows 11 = .ok (.aload_n 0, 1) := by decide +kernel
theorem dX6_follows_12 : decode cX6_follows 12 = .ok (.invokevirtual 158, 3) := by decide +kernel
theorem dX6_follows_15 : decode cX6_follows 15 = .ok (.istore_n 1, 1) := by decide +kernel
theorem dX6_follows_16 : decode cX6_follows 16 = .ok (.aload_n 0, 1) := by decide +kernel
theorem dX6_follows_17 : decode cX6_follows 17 = .ok (.getfield 148, 3) := by decide +kernel
theorem dX6_follows_20 : decode cX6_follows 20 = .ok (.bipush 64, 2) := by decide +kernel
theorem dX6_follows_22 : decode cX6_follows 22 = .ok (.if_icmp .ge 26, 3) := by decide +kernel
theorem dX6_follows_25 : decode cX6_follows 25 = .ok (.aload_n 0, 1) := by decide +kernel
theorem dX6_follows_26 : decode cX6_follows 26 = .ok (.getfield 148, 3) := by decide +kernel
theorem dX6_follows_29 : decode cX6_follows 29 = .ok (.bipush 7, 2) := by decide +kernel
theorem dX6_follows_31 : decode cX6_follows 31 = .ok (.iand, 1) := by decide +kernel
theorem dX6_follows_32 : decode cX6_follows 32 = .ok (.iconst 3, 1) := by decide +kernel
theorem dX6_follows_33 : decode cX6_follows 33 = .ok (.if_icmp .le 15, 3) := by decide +kernel
theorem dX6_follows_36 : decode cX6_follows 36 = .ok (.aload_n 0, 1) := by decide +kernel
theorem dX6_follows_37 : decode cX6_follows 37 = .ok (.getfield 148, 3) := by decide +kernel
theorem dX6_follows_40 : decode cX6_follows 40 = .ok (.bipush 7, 2) := by decide +kernel
theorem dX6_follows_42 : decode cX6_follows 42 = .ok (.iand, 1) := by decide +kernel
theorem dX6_follows_43 : decode cX6_follows 43 = .ok (.bipush 6, 2) := by decide +kernel
theorem dX6_follows_45 : decode cX6_follows 45 = .ok (.if_icmp .lt 23, 3) := by decide +kernel
theorem dX6_follows_48 : decode cX6_follows 48 = .ok (.aload_n 0, 1) := by decide +kernel
theorem dX6_follows_49 : decode cX6_follows 49 = .ok (.getfield 148, 3) := by decide +kernel
theorem dX6_follows_52 : decode cX6_follows 52 = .ok (.sipush 168, 3) := by decide +kernel
theorem dX6_follows_55 : decode cX6_follows 55 = .ok (.if_icmp .eq 13, 3) := by decide +kernel
theorem dX6_follows_58 : decode cX6_follows 58 = .ok (.aload_n 0, 1) := by decide +kernel
theorem dX6_follows_59 : decode cX6_follows 59 = .ok (.getfield 148, 3) := by decide +kernel
theorem dX6_follows_62 : decode cX6_follows 62 = .ok (.sipush 169, 3) := by decide +kernel
theorem dX6_follows_65 : decode cX6_follows 65 = .ok (.if_icmp .ne 15, 3) := by decide +kernel
theorem dX6_follows_68 : decode cX6_follows 68 = .ok (.aload_n 0, 1) := by decide +kernel
theorem dX6_follows_69 : decode cX6_follows 69 = .ok (.aload_n 0, 1) := by decide +kernel
theorem dX6_follows_70 : decode cX6_follows 70 = .ok (.iload_n 1, 1) := by decide +kernel
theorem dX6_follows_71 : decode cX6_follows 71 = .ok (.invokevirtual 161, 3) := by decide +kernel
theorem dX6_follows_74 : decode cX6_follows 74 = .ok (.putfield 164, 3) := by decide +kernel
theorem dX6_follows_77 : decode cX6_follows 77 = .ok (.goto 431, 3) := by decide +kernel
theorem dX6_follows_80 : decode cX6_follows 80 = .ok (.aload_n 0, 1) := by decide +kernel
theorem dX6_follows_81 : decode cX6_follows 81 = .ok (.getfield 148, 3) := by decide +kernel
theorem dX6_follows_84 : decode cX6_follows 84 = .ok (.bipush 96, 2) := by decide +kernel
theorem dX6_follows_86 : decode cX6_follows 86 = .ok (.if_icmp .lt 13, 3) := by decide +kernel
theorem dX6_follows_89 : decode cX6_follows 89 = .ok (.aload_n 0, 1) := by decide +kernel
theorem dX6_follows_90 : decode cX6_follows 90 = .ok (.getfield 148, 3) := by decide +kernel
theorem dX6_follows_93 : decode cX6_follows 93 = .ok (.sipush 128, 3) := by decide +kernel
theorem dX6_follows_96 : decode cX6_follows 96 = .ok (.if_icmp .lt 33, 3) := by decide +kernel
theorem dX6_follows_99 : decode cX6_follows 99 = .ok (.aload_n 0, 1) := by decide +kernel
theorem dX6_follows_100 : decode cX6_follows 100 = .ok (.getfield 148, 3) := by decide +kernel
theorem dX6_follows_103 : decode cX6_follows 103 = .ok (.sipush 224, 3) := by decide +kernel
theorem dX6_follows_106 : decode cX6_follows 106 = .ok (.if_icmp .lt 13, 3) := by decide +kernel
theorem dX6_follows_109 : decode cX6_follows 109 = .ok (.aload_n 0, 1) := by decide +kernel
theorem dX6_follows_110 : decode cX6_follows 110 = .ok (.getfield 148, 3) := by decide +kernel
theorem dX6_follows_113 : decode cX6_follows 113 = .ok (.sipush 228, 3) := by decide +kernel
theorem dX6_follows_116 : decode cX6_follows 116 = .ok (.if_icmp .lt 13, 3) := by decide +kernel
theorem dX6_follows_119 : decode cX6_follows 119 = .ok (.aload_n 0, 1) := by decide +kernel
theorem dX6_follows_120 : decode cX6_follows 120 = .ok (.getfield 148, 3) := by decide +kernel
theorem dX6_follows_123 : decode cX6_follows 123 = .ok (.sipush 235, 3) := by decide +kernel
theorem dX6_follows_126 : decode cX6_follows 126 = .ok (.if_icmp .ne 17, 3) := by decide +kernel
theorem dX6_follows_129 : decode cX6_follows 129 = .ok (.aload_n 0, 1) := by decide +kernel
theorem dX6_follows_130 : decode cX6_follows 130 = .ok (.aload_n 0, 1) := by decide +kernel
theorem dX6_follows_131 : decode cX6_follows 131 = .ok (.invokevirtual 117, 3) := by decide +kernel
theorem dX6_follows_134 : decode cX6_follows 134 = .ok (.invokestatic 136, 3) := by decide +kernel
theorem dX6_follows_137 : decode cX6_follows 137 = .ok (.putfield 164, 3) := by decide +kernel
theorem dX6_follows_140 : decode cX6_follows 140 = .ok (.goto 368, 3) := by decide +kernel
theorem dX6_follows_143 : decode cX6_follows 143 = .ok (.aload_n 0, 1) := by decide +kernel
theorem dX6_follows_144 : decode cX6_follows 144 = .ok (.getfield 148, 3) := by decide +kernel
theorem dX6_follows_147 : decode cX6_follows 147 = .ok (.sipush 128, 3) := by decide +kernel
theorem dX6_follows_150 : decode cX6_follows 150 = .ok (.if_icmp .lt 64, 3) := by decide +kernel
theorem dX6_follows_153 : decode cX6_follows 153 = .ok (.aload_n 0, 1) := by decide +kernel
theorem dX6_follows_154 : decode cX6_follows 154 = .ok (.getfield 148, 3) := by decide +kernel
theorem dX6_follows_157 : decode cX6_follows 157 = .ok (.sipush 132, 3) := by decide +kernel
theorem dX6_follows_160 : decode cX6_follows 160 = .ok (.if_icmp .ge 54, 3) := by decide +kernel
theorem dX6_follows_163 : decode cX6_follows 163 = .ok (.aload_n 0, 1) := by decide +kernel
theorem dX6_follows_164 : decode cX6_follows 164 = .ok (.aload_n 0, 1) := by decide +kernel
theorem dX6_follows_165 : decode cX6_follows 165 = .ok (.getfield 148, 3) := by decide +kernel
theorem dX6_follows_168 : decode cX6_follows 168 = .ok (.sipush 129, 3) := by decide +kernel
theorem dX6_follows_171 : decode cX6_follows 171 = .ok (.if_icmp .ne 10, 3) := by decide +kernel
theorem dX6_follows_174 : decode cX6_follows 174 = .ok (.aload_n 0, 1) := by decide +kernel
theorem dX6_follows_175 : decode cX6_follows 175 = .ok (.invokevirtual 121, 3) := by decide +kernel
theorem dX6_follows_178 : decode cX6_follows 178 = .ok (.goto 30, 3) := by decide +kernel
theorem dX6_follows_181 : decode cX6_follows 181 = .ok (.aload_n 0, 1) := by decide +kernel
theorem dX6_follows_182 : decode cX6_follows 182 = .ok (.getfield 148, 3) := by decide +kernel
theorem dX6_follows_185 : decode cX6_follows 185 = .ok (.sipush 131, 3) := by decide +kernel
theorem dX6_follows_188 : decode cX6_follows 188 = .ok (.if_icmp .ne 16, 3) := by decide +kernel
theorem dX6_follows_191 : decode cX6_follows 191 = .ok (.aload_n 0, 1) := by decide +kernel
theorem dX6_follows_192 : decode cX6_follows 192 = .ok (.invokevirtual 117, 3) := by decide +kernel
theorem dX6_follows_195 : decode cX6_follows 195 = .ok (.invokestatic 136, 3) := by decide +kernel
theorem dX6_follows_198 : decode cX6_follows 198 = .ok (.ldc 39, 2) := by decide +kernel
theorem dX6_follows_200 : decode cX6_follows 200 = .ok (.iand, 1) := by decide +kernel
theorem dX6_follows_201 : decode cX6_follows 201 = .ok (.goto 7, 3) := by decide +kernel
theorem dX6_follows_204 : decode cX6_follows 204 = .ok (.aload_n 0, 1) := by decide +kernel
theorem dX6_follows_205 : decode cX6_follows 205 = .ok (.invokevirtual 117, 3) := by decide +kernel
theorem dX6_follows_208 : decode cX6_follows 208 = .ok (.putfield 164, 3) := by decide +kernel
theorem dX6_follows_211 : decode cX6_follows 211 = .ok (.goto 297, 3) := by decide +kernel
theorem dX6_follows_214 : decode cX6_follows 214 = .ok (.aload_n 0, 1) := by decide +kernel
theorem dX6_follows_215 : decode cX6_follows 215 = .ok (.getfield 148, 3) := by decide +kernel
theorem dX6_follows_218 : decode cX6_follows 218 = .ok (.sipush 154, 3) := by decide +kernel
theorem dX6_follows_221 : decode cX6_follows 221 = .ok (.if_icmp .eq 13, 3) := by decide +kernel
theorem dX6_follows_224 : decode cX6_follows 224 = .ok (.aload_n 0, 1) := by decide +kernel
theorem dX6_follows_225 : decode cX6_follows 225 = .ok (.getfield 148, 3) := by decide +kernel
theorem dX6_follows_228 : decode cX6_follows 228 = .ok (.sipush 234, 3) := by decide +kernel
theorem dX6_follows_231 : decode cX6_follows 231 = .ok (.if_icmp .ne 22, 3) := by decide +kernel
theorem dX6_follows_234 : decode cX6_follows 234 = .ok (.aload_n 0, 1) := by decide +kernel
theorem dX6_follows_235 : decode cX6_follows 235 = .ok (.aload_n 0, 1) := by decide +kernel
theorem dX6_follows_236 : decode cX6_follows 236 = .ok (.invokevirtual 121, 3) := by decide +kernel
theorem dX6_follows_239 : decode cX6_follows 239 = .ok (.putfield 164, 3) := by decide +kernel
theorem dX6_follows_242 : decode cX6_follows 242 = .ok (.aload_n 0, 1) := by decide +kernel
theorem dX6_follows_243 : decode cX6_follows 243 = .ok (.aload_n 0, 1) := by decide +kernel
theorem dX6_follows_244 : decode cX6_follows 244 = .ok (.invokevirtual 121, 3) := by decide +kernel
theorem dX6_follows_247 : decode cX6_follows 247 = .ok (.putfield 167, 3) := by decide +kernel
theorem dX6_follows_250 : decode cX6_follows 250 = .ok (.goto 258, 3) := by decide +kernel
theorem dX6_follows_253 : decode cX6_follows 253 = .ok (.aload_n 0, 1) := by decide +kernel
theorem dX6_follows_254 : decode cX6_follows 254 = .ok (.getfield 148, 3) := by decide +kernel
theorem dX6_follows_257 : decode cX6_follows 257 = .ok (.sipush 160, 3) := by decide +kernel
theorem dX6_follows_260 : decode cX6_follows 260 = .ok (.if_icmp .lt 13, 3) := by decide +kernel
theorem dX6_follows_263 : decode cX6_follows 263 = .ok (.aload_n 0, 1) := by decide +kernel
theorem dX6_follows_264 : decode cX6_follows 264 = .ok (.getfield 148, 3) := by decide +kernel
theorem dX6_follows_267 : decode cX6_follows 267 = .ok (.sipush 164, 3) := by decide +kernel
theorem dX6_follows_270 : decode cX6_follows 270 = .ok (.if_icmp .lt 63, 3) := by decide +kernel
theorem dX6_follows_273 : decode cX6_follows 273 = .ok (.aload_n 0, 1) := by decide +kernel
theorem dX6_follows_274 : decode cX6_follows 274 = .ok (.getfield 148, 3) := by decide +kernel
theorem dX6_follows_277 : decode cX6_follows 277 = .ok (.sipush 192, 3) := by decide +kernel
theorem dX6_follows_280 : decode cX6_follows 280 = .ok (.if_icmp .eq 53, 3) := by decide +kernel
theorem dX6_follows_283 : decode cX6_follows 283 = .ok (.aload_n 0, 1) := by decide +kernel
theorem dX6_follows_284 : decode cX6_follows 284 = .ok (.getfield 148, 3) := by decide +kernel
theorem dX6_follows_287 : decode cX6_follows 287 = .ok (.sipush 194, 3) := by decide +kernel
theorem dX6_follows_290 : decode cX6_follows 290 = .ok (.if_icmp .eq 43, 3) := by decide +kernel
theorem dX6_follows_293 : decode cX6_follows 293 = .ok (.aload_n 0, 1) := by decide +kernel
theorem dX6_follows_294 : decode cX6_follows 294 = .ok (.getfield 148, 3) := by decide +kernel
theorem dX6_follows_297 : decode cX6_follows 297 = .ok (.sipush 200, 3) := by decide +kernel
theorem dX6_follows_300 : decode cX6_follows 300 = .ok (.if_icmp .eq 33, 3) := by decide +kernel
theorem dX6_follows_303 : decode cX6_follows 303 = .ok (.aload_n 0, 1) := by decide +kernel
theorem dX6_follows_304 : decode cX6_follows 304 = .ok (.getfield 148, 3) := by decide +kernel
theorem dX6_follows_307 : decode cX6_follows 307 = .ok (.sipush 202, 3) := by decide +kernel
theorem dX6_follows_310 : decode cX6_follows 310 = .ok (.if_icmp .eq 23, 3) := by decide +kernel
theorem dX6_follows_313 : decode cX6_follows 313 = .ok (.aload_n 0, 1) := by decide +kernel
theorem dX6_follows_314 : decode cX6_follows 314 = .ok (.getfield 148, 3) := by decide +kernel
theorem dX6_follows_317 : decode cX6_follows 317 = .ok (.sipush 232, 3) := by decide +kernel
theorem dX6_follows_320 : decode cX6_follows 320 = .ok (.if_icmp .eq 13, 3) := by decide +kernel
theorem dX6_follows_323 : decode cX6_follows 323 = .ok (.aload_n 0, 1) := by decide +kernel
theorem dX6_follows_324 : decode cX6_follows 324 = .ok (.getfield 148, 3) := by decide +kernel
theorem dX6_follows_327 : decode cX6_follows 327 = .ok (.sipush 233, 3) := by decide +kernel
theorem dX6_follows_330 : decode cX6_follows 330 = .ok (.if_icmp .ne 14, 3) := by decide +kernel
theorem dX6_follows_333 : decode cX6_follows 333 = .ok (.aload_n 0, 1) := by decide +kernel
theorem dX6_follows_334 : decode cX6_follows 334 = .ok (.aload_n 0, 1) := by decide +kernel
theorem dX6_follows_335 : decode cX6_follows 335 = .ok (.invokevirtual 121, 3) := by decide +kernel
theorem dX6_follows_338 : decode cX6_follows 338 = .ok (.putfield 164, 3) := by decide +kernel
theorem dX6_follows_341 : decode cX6_follows 341 = .ok (.goto 167, 3) := by decide +kernel
theorem dX6_follows_344 : decode cX6_follows 344 = .ok (.aload_n 0, 1) := by decide +kernel
theorem dX6_follows_345 : decode cX6_follows 345 = .ok (.getfield 148, 3) := by decide +kernel
theorem dX6_follows_348 : decode cX6_follows 348 = .ok (.sipush 176, 3) := by decide +kernel
theorem dX6_follows_351 : decode cX6_follows 351 = .ok (.if_icmp .lt 39, 3) := by decide +kernel
theorem dX6_follows_354 : decode cX6_follows 354 = .ok (.aload_n 0, 1) := by decide +kernel
theorem dX6_follows_355 : decode cX6_follows 355 = .ok (.getfield 148, 3) := by decide +kernel
theorem dX6_follows_358 : decode cX6_follows 358 = .ok (.sipush 192, 3) := by decide +kernel
theorem dX6_follows_361 : decode cX6_follows 361 = .ok (.if_icmp .ge 29, 3) := by decide +kernel
theorem dX6_follows_364 : decode cX6_follows 364 = .ok (.aload_n 0, 1) := by decide +kernel
theorem dX6_follows_365 : decode cX6_follows 365 = .ok (.aload_n 0, 1) := by decide +kernel
theorem dX6_follows_366 : decode cX6_follows 366 = .ok (.aload_n 0, 1) := by decide +kernel
theorem dX6_follows_367 : decode cX6_follows 367 = .ok (.getfield 148, 3) := by decide +kernel
theorem dX6_follows_370 : decode cX6_follows 370 = .ok (.sipush 184, 3) := by decide +kernel
theorem dX6_follows_373 : decode cX6_follows 373 = .ok (.if_icmp .lt 7, 3) := by decide +kernel
theorem dX6_follows_376 : decode cX6_follows 376 = .ok (.iconst 1, 1) := by decide +kernel
theorem dX6_follows_377 : decode cX6_follows 377 = .ok (.goto 4, 3) := by decide +kernel
theorem dX6_follows_380 : decode cX6_follows 380 = .ok (.iconst 0, 1) := by decide +kernel
theorem dX6_follows_381 : decode cX6_follows 381 = .ok (.invokevirtual 161, 3) := by decide +kernel
theorem dX6_follows_384 : decode cX6_follows 384 = .ok (.putfield 164, 3) := by decide +kernel
theorem dX6_follows_387 : decode cX6_follows 387 = .ok (.goto 121, 3) := by decide +kernel
theorem dX6_follows_390 : decode cX6_follows 390 = .ok (.aload_n 0, 1) := by decide +kernel
theorem dX6_follows_391 : decode cX6_follows 391 = .ok (.getfield 148, 3) := by decide +kernel
theorem dX6_follows_394 : decode cX6_follows 394 = .ok (.sipush 198, 3) := by decide +kernel
theorem dX6_follows_397 : decode cX6_follows 397 = .ok (.if_icmp .eq 41, 3) := by decide +kernel
theorem dX6_follows_400 : decode cX6_follows 400 = .ok (.aload_n 0, 1) := by decide +kernel
theorem dX6_follows_401 : decode cX6_follows 401 = .ok (.getfield 148, 3) := by decide +kernel
theorem dX6_follows_404 : decode cX6_follows 404 = .ok (.sipush 199, 3) := by decide +kernel
theorem dX6_follows_407 : decode cX6_follows 407 = .ok (.if_icmp .eq 31, 3) := by decide +kernel
theorem dX6_follows_410 : decode cX6_follows 410 = .ok (.aload_n 0, 1) := by decide +kernel
theorem dX6_follows_411 : decode cX6_follows 411 = .ok (.getfield 148, 3) := by decide +kernel
theorem dX6_follows_414 : decode cX6_follows 414 = .ok (.sipush 246, 3) := by decide +kernel
theorem dX6_follows_417 : decode cX6_follows 417 = .ok (.if_icmp .eq 13, 3) := by decide +kernel
theorem dX6_follows_420 : decode cX6_follows 420 = .ok (.aload_n 0, 1) := by decide +kernel
theorem dX6_follows_421 : decode cX6_follows 421 = .ok (.getfield 148, 3) := by decide +kernel
theorem dX6_follows_424 : decode cX6_follows 424 = .ok (.sipush 247, 3) := by decide +kernel
theorem dX6_follows_427 : decode cX6_follows 427 = .ok (.if_icmp .ne 23, 3) := by decide +kernel
theorem dX6_follows_430 : decode cX6_follows 430 = .ok (.aload_n 0, 1) := by decide +kernel
theorem dX6_follows_431 : decode cX6_follows 431 = .ok (.getfield 130, 3) := by decide +kernel
theorem dX6_follows_434 : decode cX6_follows 434 = .ok (.iconst 2, 1) := by decide +kernel
theorem dX6_follows_435 : decode cX6_follows 435 = .ok (.if_icmp .ge 15, 3) := by decide +kernel
theorem dX6_follows_438 : decode cX6_follows 438 = .ok (.aload_n 0, 1) := by decide +kernel
theorem dX6_follows_439 : decode cX6_follows 439 = .ok (.aload_n 0, 1) := by decide +kernel
theorem dX6_follows_440 : decode cX6_follows 440 = .ok (.iload_n 1, 1) := by decide +kernel
theorem dX6_follows_441 : decode cX6_follows 441 = .ok (.invokevirtual 161, 3) := by decide +kernel
theorem dX6_follows_444 : decode cX6_follows 444 = .ok (.putfield 164, 3) := by decide +kernel
theorem dX6_follows_447 : decode cX6_follows 447 = .ok (.goto 61, 3) := by decide +kernel
theorem dX6_follows_450 : decode cX6_follows 450 = .ok (.aload_n 0, 1) := by decide +kernel
theorem dX6_follows_451 : decode cX6_follows 451 = .ok (.getfield 148, 3) := by decide +kernel
theorem dX6_follows_454 : decode cX6_follows 454 = .ok (.sipush 205, 3) := by decide +kernel
theorem dX6_follows_457 : decode cX6_follows 457 = .ok (.if_icmp .eq 43, 3) := by decide +kernel
theorem dX6_follows_460 : decode cX6_follows 460 = .ok (.aload_n 0, 1) := by decide +kernel
theorem dX6_follows_461 : decode cX6_follows 461 = .ok (.getfield 148, 3) := by decide +kernel
theorem dX6_follows_464 : decode cX6_follows 464 = .ok (.sipush 212, 3) := by decide +kernel
theorem dX6_follows_467 : decode cX6_follows 467 = .ok (.if_icmp .eq 33, 3) := by decide +kernel
theorem dX6_follows_470 : decode cX6_follows 470 = .ok (.aload_n 0, 1) := by decide +kernel
theorem dX6_follows_471 : decode cX6_follows 471 = .ok (.getfield 148, 3) := by decide +kernel
theorem dX6_follows_474 : decode cX6_follows 474 = .ok (.sipush 213, 3) := by decide +kernel
theorem dX6_follows_477 : decode cX6_follows 477 = .ok (.if_icmp .eq 23, 3) := by decide +kernel
theorem dX6_follows_480 : decode cX6_follows 480 = .ok (.aload_n 0, 1) := by decide +kernel
theorem dX6_follows_481 : decode cX6_follows 481 = .ok (.getfield 148, 3) := by decide +kernel
theorem dX6_follows_484 : decode cX6_follows 484 = .ok (.sipush 228, 3) := by decide +kernel
theorem dX6_follows_487 : decode cX6_follows 487 = .ok (.if_icmp .lt 21, 3) := by decide +kernel
theorem dX6_follows_490 : decode cX6_follows 490 = .ok (.aload_n 0, 1) := by decide +kernel
theorem dX6_follows_491 : decode cX6_follows 491 = .ok (.getfield 148, 3) := by decide +kernel
theorem dX6_follows_494 : decode cX6_follows 494 = .ok (.sipush 232, 3) := by decide +kernel
theorem dX6_follows_497 : decode cX6_follows 497 = .ok (.if_icmp .ge 11, 3) := by decide +kernel
theorem dX6_follows_500 : decode cX6_follows 500 = .ok (.aload_n 0, 1) := by decide +kernel
theorem dX6_follows_501 : decode cX6_follows 501 = .ok (.aload_n 0, 1) := by decide +kernel
theorem dX6_follows_502 : decode cX6_follows 502 = .ok (.invokevirtual 117, 3) := by decide +kernel
theorem dX6_follows_505 : decode cX6_follows 505 = .ok (.putfield 164, 3) := by decide +kernel
theorem dX6_follows_508 : decode cX6_follows 508 = .ok (.aload_n 0, 1) := by decide +kernel
theorem dX6_follows_509 : decode cX6_follows 509 = .ok (.getfield 148, 3) := by decide +kernel
theorem dX6_follows_512 : decode cX6_follows 512 = .ok (.sipush 255, 3) := by decide +kernel
theorem dX6_follows_515 : decode cX6_follows 515 = .ok (.if_icmp .ne 23, 3) := by decide +kernel
theorem dX6_follows_518 : decode cX6_follows 518 = .ok (.aload_n 0, 1) := by decide +kernel
theorem dX6_follows_519 : decode cX6_follows 519 = .ok (.getfield 130, 3) := by decide +kernel
theorem dX6_follows_522 : decode cX6_follows 522 = .ok (.iconst 3, 1) := by decide +kernel
theorem dX6_follows_523 : decode cX6_follows 523 = .ok (.if_icmp .eq 11, 3) := by decide +kernel
theorem dX6_follows_526 : decode cX6_follows 526 = .ok (.aload_n 0, 1) := by decide +kernel
theorem dX6_follows_527 : decode cX6_follows 527 = .ok (.getfield 130, 3) := by decide +kernel
theorem dX6_follows_530 : decode cX6_follows 530 = .ok (.iconst 5, 1) := by decide +kernel
theorem dX6_follows_531 : decode cX6_follows 531 = .ok (.if_icmp .ne 7, 3) := by decide +kernel
theorem dX6_follows_534 : decode cX6_follows 534 = .ok (.iconst 1, 1) := by decide +kernel
theorem dX6_follows_535 : decode cX6_follows 535 = .ok (.goto 4, 3) := by decide +kernel
theorem dX6_follows_538 : decode cX6_follows 538 = .ok (.iconst 0, 1) := by decide +kernel
theorem dX6_follows_539 : decode cX6_follows 539 = .ok (.istore_n 2, 1) := by decide +kernel
theorem dX6_follows_540 : decode cX6_follows 540 = .ok (.aload_n 0, 1) := by decide +kernel
theorem dX6_follows_541 : decode cX6_follows 541 = .ok (.getfield 148, 3) := by decide +kernel
theorem dX6_follows_544 : decode cX6_follows 544 = .ok (.sipush 141, 3) := by decide +kernel
theorem dX6_follows_547 : decode cX6_follows 547 = .ok (.if_icmp .eq 27, 3) := by decide +kernel
theorem dX6_follows_550 : decode cX6_follows 550 = .ok (.aload_n 0, 1) := by decide +kernel
theorem dX6_follows_551 : decode cX6_follows 551 = .ok (.getfield 148, 3) := by decide +kernel
theorem dX6_follows_554 : decode cX6_follows 554 = .ok (.sipush 196, 3) := by decide +kernel
theorem dX6_follows_557 : decode cX6_follows 557 = .ok (.if_icmp .eq 17, 3) := by decide +kernel
theorem dX6_follows_560 : decode cX6_follows 560 = .ok (.aload_n 0, 1) := by decide +kernel
theorem dX6_follows_561 : decode cX6_follows 561 = .ok (.getfield 148, 3) := by decide +kernel
theorem dX6_follows_564 : decode cX6_follows 564 = .ok (.sipush 197, 3) := by decide +kernel
theorem dX6_follows_567 : decode cX6_follows 567 = .ok (.if_icmp .eq 7, 3) := by decide +kernel
theorem dX6_follows_570 : decode cX6_follows 570 = .ok (.iload_n 2, 1) := by decide +kernel
theorem dX6_follows_571 : decode cX6_follows 571 = .ok (.ifCond .eq 7, 3) := by decide +kernel
theorem dX6_follows_574 : decode cX6_follows 574 = .ok (.iconst 1, 1) := by decide +kernel
theorem dX6_follows_575 : decode cX6_follows 575 = .ok (.goto 4, 3) := by decide +kernel
theorem dX6_follows_578 : decode cX6_follows 578 = .ok (.iconst 0, 1) := by decide +kernel
theorem dX6_follows_579 : decode cX6_follows 579 = .ok (.istore_n 3, 1) := by decide +kernel
theorem dX6_follows_580 : decode cX6_follows 580 = .ok (.iload_n 3, 1) := by decide +kernel
theorem dX6_follows_581 : decode cX6_follows 581 = .ok (.ifCond .eq 11, 3) := by decide +kernel
theorem dX6_follows_584 : decode cX6_follows 584 = .ok (.aload_n 0, 1) := by decide +kernel
theorem dX6_follows_585 : decode cX6_follows 585 = .ok (.getfield 127, 3) := by decide +kernel
theorem dX6_follows_588 : decode cX6_follows 588 = .ok (.iconst 3, 1) := by decide +kernel
theorem dX6_follows_589 : decode cX6_follows 589 = .ok (.if_icmp .eq 25, 3) := by decide +kernel
theorem dX6_follows_592 : decode cX6_follows 592 = .ok (.aload_n 0, 1) := by decide +kernel
theorem dX6_follows_593 : decode cX6_follows 593 = .ok (.getfield 148, 3) := by decide +kernel
theorem dX6_follows_596 : decode cX6_follows 596 = .ok (.sipush 254, 3) := by decide +kernel
theorem dX6_follows_599 : decode cX6_follows 599 = .ok (.if_icmp .ne 11, 3) := by decide +kernel
theorem dX6_follows_602 : decode cX6_follows 602 = .ok (.aload_n 0, 1) := by decide +kernel
theorem dX6_follows_603 : decode cX6_follows 603 = .ok (.getfield 130, 3) := by decide +kernel
theorem dX6_follows_606 : decode cX6_follows 606 = .ok (.iconst 2, 1) := by decide +kernel
theorem dX6_follows_607 : decode cX6_follows 607 = .ok (.if_icmp .ge 7, 3) := by decide +kernel
theorem dX6_follows_610 : decode cX6_follows 610 = .ok (.iconst 1, 1) := by decide +kernel
theorem dX6_follows_611 : decode cX6_follows 611 = .ok (.goto 4, 3) := by decide +kernel
theorem dX6_follows_614 : decode cX6_follows 614 = .ok (.iconst 0, 1) := by decide +kernel
theorem dX6_follows_615 : decode cX6_follows 615 = .ok (.ireturn, 1) := by decide +kernel
theorem dX6_decode_0 : decode cX6_decode 0 = .ok (.aload_n 0, 1) := by decide +kernel
theorem dX6_decode_1 : decode cX6_decode 1 = .ok (.aload_n 0, 1) := by decide +kernel
theorem dX6_decode_2 : decode cX6_decode 2 = .ok (.getfield 170, 3) := by decide +kernel
theorem dX6_decode_5 : decode cX6_decode 5 = .ok (.putfield 173, 3) := by decide +kernel
theorem dX6_decode_8 : decode cX6_decode 8 = .ok (.aload_n 0, 1) := by decide +kernel
theorem dX6_decode_9 : decode cX6_decode 9 = .ok (.aload_n 0, 1) := by decide +kernel
theorem dX6_decode_10 : decode cX6_decode 10 = .ok (.getfield 170, 3) := by decide +kernel
theorem dX6_decode_13 : decode cX6_decode 13 = .ok (.putfield 114, 3) := by decide +kernel
theorem dX6_decode_16 : decode cX6_decode 16 = .ok (.aload_n 0, 1) := by decide +kernel
theorem dX6_decode_17 : decode cX6_decode 17 = .ok (.iconst (-1), 1) := by decide +kernel
theorem dX6_decode_18 : decode cX6_decode 18 = .ok (.putfield 124, 3) := by decide +kernel
theorem dX6_decode_21 : decode cX6_decode 21 = .ok (.aload_n 0, 1) := by decide +kernel
theorem dX6_decode_22 : decode cX6_decode 22 = .ok (.iconst 0, 1) := by decide +kernel
theorem dX6_decode_23 : decode cX6_decode 23 = .ok (.putfield 176, 3) := by decide +kernel
theorem dX6_decode_26 : decode cX6_decode 26 = .ok (.iconst 1, 1) := by decide +kernel
theorem dX6_decode_27 : decode cX6_decode 27 = .ok (.istore_n 1, 1) := by decide +kernel
theorem dX6_decode_28 : decode cX6_decode 28 = .ok (.iload_n 1, 1) := by decide +kernel
theorem dX6_decode_29 : decode cX6_decode 29 = .ok (.ifCond .eq 123, 3) := by decide +kernel
theorem dX6_decode_32 : decode cX6_decode 32 = .ok (.aload_n 0, 1) := by decide +kernel
theorem dX6_decode_33 : decode cX6_decode 33 = .ok (.getfield 114, 3) := by decide +kernel
theorem dX6_decode_36 : decode cX6_decode 36 = .ok (.aload_n 0, 1) := by decide +kernel
theorem dX6_decode_37 : decode cX6_decode 37 = .ok (.getfield 173, 3) := by decide +kernel
theorem dX6_decode_40 : decode cX6_decode 40 = .ok (.isub, 1) := by decide +kernel
theorem dX6_decode_41 : decode cX6_decode 41 = .ok (.bipush 16, 2) := by decide +kernel
theorem dX6_decode_43 : decode cX6_decode 43 = .ok (.if_icmp .ge 109, 3) := by decide +kernel
theorem dX6_decode_46 : decode cX6_decode 46 = .ok (.aload_n 0, 1) := by decide +kernel
theorem dX6_decode_47 : decode cX6_decode 47 = .ok (.aload_n 0, 1) := by decide +kernel
theorem dX6_decode_48 : decode cX6_decode 48 = .ok (.invokevirtual 117, 3) := by decide +kernel
theorem dX6_decode_51 : decode cX6_decode 51 = .ok (.putfield 148, 3) := by decide +kernel
theorem dX6_decode_54 : decode cX6_decode 54 = .ok (.aload_n 0, 1) := by decide +kernel
theorem dX6_decode_55 : decode cX6_decode 55 = .ok (.getfield 148, 3) := by decide +kernel
theorem dX6_decode_58 : decode cX6_decode 58 = .ok (.sipush 231, 3) := by decide +kernel
theorem dX6_decode_61 : decode cX6_decode 61 = .ok (.iand, 1) := by decide +kernel
theorem dX6_decode_62 : decode cX6_decode 62 = .ok (.bipush 38, 2) := by decide +kernel
theorem dX6_decode_64 : decode cX6_decode 64 = .ok (.if_icmp .eq 23, 3) := by decide +kernel
theorem dX6_decode_67 : decode cX6_decode 67 = .ok (.aload_n 0, 1) := by decide +kernel
theorem dX6_decode_68 : decode cX6_decode 68 = .ok (.getfield 148, 3) := by decide +kernel
theorem dX6_decode_71 : decode cX6_decode 71 = .ok (.sipush 240, 3) := by decide +kernel
theorem dX6_decode_74 : decode cX6_decode 74 = .ok (.if_icmp .lt 17, 3) := by decide +kernel
theorem dX6_decode_77 : decode cX6_decode 77 = .ok (.aload_n 0, 1) := by decide +kernel
theorem dX6_decode_78 : decode cX6_decode 78 = .ok (.getfield 148, 3) := by decide +kernel
theorem dX6_decode_81 : decode cX6_decode 81 = .ok (.sipush 244, 3) := by decide +kernel
theorem dX6_decode_84 : decode cX6_decode 84 = .ok (.if_icmp .ge 7, 3) := by decide +kernel
theorem dX6_decode_87 : decode cX6_decode 87 = .ok (.iconst 1, 1) := by decide +kernel
theorem dX6_decode_88 : decode cX6_decode 88 = .ok (.goto 4, 3) := by decide +kernel
theorem dX6_decode_91 : decode cX6_decode 91 = .ok (.iconst 0, 1) := by decide +kernel
theorem dX6_decode_92 : decode cX6_decode 92 = .ok (.istore_n 1, 1) := by decide +kernel
theorem dX6_decode_93 : decode cX6_decode 93 = .ok (.aload_n 0, 1) := by decide +kernel
theorem dX6_decode_94 : decode cX6_decode 94 = .ok (.getfield 148, 3) := by decide +kernel
theorem dX6_decode_97 : decode cX6_decode 97 = .ok (.sipush 231, 3) := by decide +kernel
theorem dX6_decode_100 : decode cX6_decode 100 = .ok (.iand, 1) := by decide +kernel
theorem dX6_decode_101 : decode cX6_decode 101 = .ok (.bipush 38, 2) := by decide +kernel
theorem dX6_decode_103 : decode cX6_decode 103 = .ok (.if_icmp .ne 18, 3) := by decide +kernel
theorem dX6_decode_106 : decode cX6_decode 106 = .ok (.aload_n 0, 1) := by decide +kernel
theorem dX6_decode_107 : decode cX6_decode 107 = .ok (.aload_n 0, 1) := by decide +kernel
theorem dX6_decode_108 : decode cX6_decode 108 = .ok (.getfield 148, 3) := by decide +kernel
theorem dX6_decode_111 : decode cX6_decode 111 = .ok (.iconst 3, 1) := by decide +kernel
theorem dX6_decode_112 : decode cX6_decode 112 = .ok (.ishr, 1) := by decide +kernel
theorem dX6_decode_113 : decode cX6_decode 113 = .ok (.iconst 3, 1) := by decide +kernel
theorem dX6_decode_114 : decode cX6_decode 114 = .ok (.iand, 1) := by decide +kernel
theorem dX6_decode_115 : decode cX6_decode 115 = .ok (.putfield 124, 3) := by decide +kernel
theorem dX6_decode_118 : decode cX6_decode 118 = .ok (.goto (-90), 3) := by decide +kernel
theorem dX6_decode_121 : decode cX6_decode 121 = .ok (.aload_n 0, 1) := by decide +kernel
theorem dX6_decode_122 : decode cX6_decode 122 = .ok (.getfield 148, 3) := by decide +kernel
theorem dX6_decode_125 : decode cX6_decode 125 = .ok (.sipush 242, 3) := by decide +kernel
theorem dX6_decode_128 : decode cX6_decode 128 = .ok (.if_icmp .eq 13, 3) := by decide +kernel
theorem dX6_decode_131 : decode cX6_decode 131 = .ok (.aload_n 0, 1) := by decide +kernel
theorem dX6_decode_132 : decode cX6_decode 132 = .ok (.getfield 148, 3) := by decide +kernel
theorem dX6_decode_135 : decode cX6_decode 135 = .ok (.sipush 243, 3) := by decide +kernel
theorem dX6_decode_138 : decode cX6_decode 138 = .ok (.if_icmp .ne (-110), 3) := by decide +kernel
theorem dX6_decode_141 : decode cX6_decode 141 = .ok (.aload_n 0, 1) := by decide +kernel
theorem dX6_decode_142 : decode cX6_decode 142 = .ok (.aload_n 0, 1) := by decide +kernel
theorem dX6_decode_143 : decode cX6_decode 143 = .ok (.getfield 148, 3) := by decide +kernel
theorem dX6_decode_146 : decode cX6_decode 146 = .ok (.putfield 176, 3) := by decide +kernel
theorem dX6_decode_149 : decode cX6_decode 149 = .ok (.goto (-121), 3) := by decide +kernel
theorem dX6_decode_152 : decode cX6_decode 152 = .ok (.iload_n 1, 1) := by decide +kernel
theorem dX6_decode_153 : decode cX6_decode 153 = .ok (.ifCond .ne 28, 3) := by decide +kernel
theorem dX6_decode_156 : decode cX6_decode 156 = .ok (.aload_n 0, 1) := by decide +kernel
theorem dX6_decode_157 : decode cX6_decode 157 = .ok (.invokevirtual 179, 3) := by decide +kernel
theorem dX6_decode_160 : decode cX6_decode 160 = .ok (.ifCond .eq 21, 3) := by decide +kernel
theorem dX6_decode_163 : decode cX6_decode 163 = .ok (.aload_n 0, 1) := by decide +kernel
theorem dX6_decode_164 : decode cX6_decode 164 = .ok (.getfield 114, 3) := by decide +kernel
theorem dX6_decode_167 : decode cX6_decode 167 = .ok (.aload_n 0, 1) := by decide +kernel
theorem dX6_decode_168 : decode cX6_decode 168 = .ok (.getfield 173, 3) := by decide +kernel
theorem dX6_decode_171 : decode cX6_decode 171 = .ok (.isub, 1) := by decide +kernel
theorem dX6_decode_172 : decode cX6_decode 172 = .ok (.bipush 15, 2) := by decide +kernel
theorem dX6_decode_174 : decode cX6_decode 174 = .ok (.if_icmp .gt 7, 3) := by decide +kernel
theorem dX6_decode_177 : decode cX6_decode 177 = .ok (.iconst 1, 1) := by decide +kernel
theorem dX6_decode_178 : decode cX6_decode 178 = .ok (.goto 4, 3) := by decide +kernel
theorem dX6_decode_181 : decode cX6_decode 181 = .ok (.iconst 0, 1) := by decide +kernel
theorem dX6_decode_182 : decode cX6_decode 182 = .ok (.ireturn, 1) := by decide +kernel
theorem dX6_operand_0 : decode cX6_operand 0 = .ok (.aload_n 0, 1) := by decide +kernel
theorem dX6_operand_1 : decode cX6_operand 1 = .ok (.getfield 127, 3) := by decide +kernel
theorem dX6_operand_4 : decode cX6_operand 4 = .ok (.iconst 3, 1) := by decide +kernel
theorem dX6_operand_5 : decode cX6_operand 5 = .ok (.if_icmp .ne 15, 3) := by decide +kernel
theorem dX6_operand_8 : decode cX6_operand 8 = .ok (.aload_n 0, 1) := by decide +kernel
theorem dX6_operand_9 : decode cX6_operand 9 = .ok (.aload_n 0, 1) := by decide +kernel
theorem dX6_operand_10 : decode cX6_operand 10 = .ok (.getfield 133, 3) := by decide +kernel
theorem dX6_operand_13 : decode cX6_operand 13 = .ok (.iload_n 1, 1) := by decide +kernel
theorem dX6_operand_14 : decode cX6_operand 14 = .ok (.invokevirtual 105, 3) := by decide +kernel
theorem dX6_operand_17 : decode cX6_operand 17 = .ok (.goto 16, 3) := by decide +kernel
theorem dX6_operand_20 : decode cX6_operand 20 = .ok (.aload_n 0, 1) := by decide +kernel
theorem dX6_operand_21 : decode cX6_operand 21 = .ok (.aload_n 0, 1) := by decide +kernel
theorem dX6_operand_22 : decode cX6_operand 22 = .ok (.getfield 145, 3) := by decide +kernel
theorem dX6_operand_25 : decode cX6_operand 25 = .ok (.aload_n 0, 1) := by decide +kernel
theorem dX6_operand_26 : decode cX6_operand 26 = .ok (.getfield 139, 3) := by decide +kernel
theorem dX6_operand_29 : decode cX6_operand 29 = .ok (.iload_n 1, 1) := by decide +kernel
theorem dX6_operand_30 : decode cX6_operand 30 = .ok (.invokevirtual 61, 3) := by decide +kernel
theorem dX6_operand_33 : decode cX6_operand 33 = .ok (.ireturn, 1) := by decide +kernel
theorem dX6_give_0 : decode cX6_give 0 = .ok (.aload_n 0, 1) := by decide +kernel
theorem dX6_give_1 : decode cX6_give 1 = .ok (.getfield 127, 3) := by decide +kernel
theorem dX6_give_4 : decode cX6_give 4 = .ok (.iconst 3, 1) := by decide +kernel
theorem dX6_give_5 : decode cX6_give 5 = .ok (.if_icmp .ne 16, 3) := by decide +kernel
theorem dX6_give_8 : decode cX6_give 8 = .ok (.aload_n 0, 1) := by decide +kernel
theorem dX6_give_9 : decode cX6_give 9 = .ok (.aload_n 0, 1) := by decide +kernel
theorem dX6_give_10 : decode cX6_give 10 = .ok (.getfield 133, 3) := by decide +kernel
theorem dX6_give_13 : decode cX6_give 13 = .ok (.iload_n 1, 1) := by decide +kernel
theorem dX6_give_14 : decode cX6_give 14 = .ok (.iload_n 2, 1) := by decide +kernel
theorem dX6_give_15 : decode cX6_give 15 = .ok (.invokevirtual 101, 3) := by decide +kernel
theorem dX6_give_18 : decode cX6_give 18 = .ok (.goto 17, 3) := by decide +kernel
theorem dX6_give_21 : decode cX6_give 21 = .ok (.aload_n 0, 1) := by decide +kernel
theorem dX6_give_22 : decode cX6_give 22 = .ok (.aload_n 0, 1) := by decide +kernel
theorem dX6_give_23 : decode cX6_give 23 = .ok (.getfield 145, 3) := by decide +kernel
theorem dX6_give_26 : decode cX6_give 26 = .ok (.aload_n 0, 1) := by decide +kernel
theorem dX6_give_27 : decode cX6_give 27 = .ok (.getfield 139, 3) := by decide +kernel
theorem dX6_give_30 : decode cX6_give 30 = .ok (.iload_n 1, 1) := by decide +kernel
theorem dX6_give_31 : decode cX6_give 31 = .ok (.iload_n 2, 1) := by decide +kernel
theorem dX6_give_32 : decode cX6_give 32 = .ok (.invokevirtual 57, 3) := by decide +kernel
theorem dX6_give_35 : decode cX6_give 35 = .ok (.return_, 1) := by decide +kernel
theorem dX6_interrupt_0 : decode cX6_interrupt 0 = .ok (.aload_n 0, 1) := by decide +kernel
theorem dX6_interrupt_1 : decode cX6_interrupt 1 = .ok (.aload_n 0, 1) := by decide +kernel
theorem dX6_interrupt_2 : decode cX6_interrupt 2 = .ok (.getfield 54, 3) := by decide +kernel
theorem dX6_interrupt_5 : decode cX6_interrupt 5 = .ok (.ldc 182, 2) := by decide +kernel
theorem dX6_interrupt_7 : decode cX6_interrupt 7 = .ok (.ior, 1) := by decide +kernel
theorem dX6_interrupt_8 : decode cX6_interrupt 8 = .ok (.invokevirtual 183, 3) := by decide +kernel
theorem dX6_interrupt_11 : decode cX6_interrupt 11 = .ok (.aload_n 0, 1) := by decide +kernel
theorem dX6_interrupt_12 : decode cX6_interrupt 12 = .ok (.aload_n 0, 1) := by decide +kernel
theorem dX6_interrupt_13 : decode cX6_interrupt 13 = .ok (.getfield 54, 3) := by decide +kernel
theorem dX6_interrupt_16 : decode cX6_interrupt 16 = .ok (.sipush (-769), 3) := by decide +kernel
theorem dX6_interrupt_19 : decode cX6_interrupt 19 = .ok (.iand, 1) := by decide +kernel
theorem dX6_interrupt_20 : decode cX6_interrupt 20 = .ok (.putfield 54, 3) := by decide +kernel
theorem dX6_interrupt_23 : decode cX6_interrupt 23 = .ok (.aload_n 0, 1) := by decide +kernel
theorem dX6_interrupt_24 : decode cX6_interrupt 24 = .ok (.aload_n 0, 1) := by decide +kernel
theorem dX6_interrupt_25 : decode cX6_interrupt 25 = .ok (.getfield 13, 3) := by decide +kernel
theorem dX6_interrupt_28 : decode cX6_interrupt 28 = .ok (.iconst 1, 1) := by decide +kernel
theorem dX6_interrupt_29 : decode cX6_interrupt 29 = .ok (.iaload, 1) := by decide +kernel
theorem dX6_interrupt_30 : decode cX6_interrupt 30 = .ok (.invokevirtual 183, 3) := by decide +kernel
theorem dX6_interrupt_33 : decode cX6_interrupt 33 = .ok (.aload_n 0, 1) := by decide +kernel
theorem dX6_interrupt_34 : decode cX6_interrupt 34 = .ok (.aload_n 0, 1) := by decide +kernel
theorem dX6_interrupt_35 : decode cX6_interrupt 35 = .ok (.getfield 170, 3) := by decide +kernel
theorem dX6_interrupt_38 : decode cX6_interrupt 38 = .ok (.invokevirtual 183, 3) := by decide +kernel
theorem dX6_interrupt_41 : decode cX6_interrupt 41 = .ok (.aload_n 0, 1) := by decide +kernel
theorem dX6_interrupt_42 : decode cX6_interrupt 42 = .ok (.aload_n 0, 1) := by decide +kernel
theorem dX6_interrupt_43 : decode cX6_interrupt 43 = .ok (.iconst 0, 1) := by decide +kernel
theorem dX6_interrupt_44 : decode cX6_interrupt 44 = .ok (.iconst 4, 1) := by decide +kernel
theorem dX6_interrupt_45 : decode cX6_interrupt 45 = .ok (.iload_n 1, 1) := by decide +kernel
theorem dX6_interrupt_46 : decode cX6_interrupt 46 = .ok (.imul, 1) := by decide +kernel
theorem dX6_interrupt_47 : decode cX6_interrupt 47 = .ok (.iconst 1, 1) := by decide +kernel
theorem dX6_interrupt_48 : decode cX6_interrupt 48 = .ok (.invokevirtual 61, 3) := by decide +kernel
theorem dX6_interrupt_51 : decode cX6_interrupt 51 = .ok (.putfield 170, 3) := by decide +kernel
theorem dX6_interrupt_54 : decode cX6_interrupt 54 = .ok (.aload_n 0, 1) := by decide +kernel
theorem dX6_interrupt_55 : decode cX6_interrupt 55 = .ok (.getfield 13, 3) := by decide +kernel
theorem dX6_interrupt_58 : decode cX6_interrupt 58 = .ok (.iconst 1, 1) := by decide +kernel
theorem dX6_interrupt_59 : decode cX6_interrupt 59 = .ok (.aload_n 0, 1) := by decide +kernel
theorem dX6_interrupt_60 : decode cX6_interrupt 60 = .ok (.iconst 0, 1) := by decide +kernel
theorem dX6_interrupt_61 : decode cX6_interrupt 61 = .ok (.iconst 4, 1) := by decide +kernel
theorem dX6_interrupt_62 : decode cX6_interrupt 62 = .ok (.iload_n 1, 1) := by decide +kernel
theorem dX6_interrupt_63 : decode cX6_interrupt 63 = .ok (.imul, 1) := by decide +kernel
theorem dX6_interrupt_64 : decode cX6_interrupt 64 = .ok (.iconst 2, 1) := by decide +kernel
theorem dX6_interrupt_65 : decode cX6_interrupt 65 = .ok (.iadd, 1) := by decide +kernel
theorem dX6_interrupt_66 : decode cX6_interrupt 66 = .ok (.iconst 1, 1) := by decide +kernel
theorem dX6_interrupt_67 : decode cX6_interrupt 67 = .ok (.invokevirtual 61, 3) := by decide +kernel
theorem dX6_interrupt_70 : decode cX6_interrupt 70 = .ok (.iastore, 1) := by decide +kernel
theorem dX6_interrupt_71 : decode cX6_interrupt 71 = .ok (.return_, 1) := by decide +kernel
theorem dX6_jump_0 : decode cX6_jump 0 = .ok (.aload_n 0, 1) := by decide +kernel
theorem dX6_jump_1 : decode cX6_jump 1 = .ok (.aload_n 0, 1) := by decide +kernel
theorem dX6_jump_2 : decode cX6_jump 2 = .ok (.getfield 170, 3) := by decide +kernel
theorem dX6_jump_5 : decode cX6_jump 5 = .ok (.iload_n 1, 1) := by decide +kernel
theorem dX6_jump_6 : decode cX6_jump 6 = .ok (.iadd, 1) := by decide +kernel
theorem dX6_jump_7 : decode cX6_jump 7 = .ok (.ldc 39, 2) := by decide +kernel
theorem dX6_jump_9 : decode cX6_jump 9 = .ok (.iand, 1) := by decide +kernel
theorem dX6_jump_10 : decode cX6_jump 10 = .ok (.putfield 170, 3) := by decide +kernel
theorem dX6_jump_13 : decode cX6_jump 13 = .ok (.return_, 1) := by decide +kernel
theorem dX6_callFar_0 : decode cX6_callFar 0 = .ok (.aload_n 0, 1) := by decide +kernel
theorem dX6_callFar_1 : decode cX6_callFar 1 = .ok (.aload_n 0, 1) := by decide +kernel
theorem dX6_callFar_2 : decode cX6_callFar 2 = .ok (.getfield 13, 3) := by decide +kernel
theorem dX6_callFar_5 : decode cX6_callFar 5 = .ok (.iconst 1, 1) := by decide +kernel
theorem dX6_callFar_6 : decode cX6_callFar 6 = .ok (.iaload, 1) := by decide +kernel
theorem dX6_callFar_7 : decode cX6_callFar 7 = .ok (.invokevirtual 183, 3) := by decide +kernel
theorem dX6_callFar_10 : decode cX6_callFar 10 = .ok (.aload_n 0, 1) := by decide +kernel
theorem dX6_callFar_11 : decode cX6_callFar 11 = .ok (.aload_n 0, 1) := by decide +kernel
theorem dX6_callFar_12 : decode cX6_callFar 12 = .ok (.getfield 170, 3) := by decide +kernel
theorem dX6_callFar_15 : decode cX6_callFar 15 = .ok (.invokevirtual 183, 3) := by decide +kernel
theorem dX6_callFar_18 : decode cX6_callFar 18 = .ok (.aload_n 0, 1) := by decide +kernel
theorem dX6_callFar_19 : decode cX6_callFar 19 = .ok (.iload_n 1, 1) := by decide +kernel
theorem dX6_callFar_20 : decode cX6_callFar 20 = .ok (.putfield 170, 3) := by decide +kernel
theorem dX6_callFar_23 : decode cX6_callFar 23 = .ok (.aload_n 0, 1) := by decide +kernel
theorem dX6_callFar_24 : decode cX6_callFar 24 = .ok (.getfield 13, 3) := by decide +kernel
theorem dX6_callFar_27 : decode cX6_callFar 27 = .ok (.iconst 1, 1) := by decide +kernel
theorem dX6_callFar_28 : decode cX6_callFar 28 = .ok (.iload_n 2, 1) := by decide +kernel
theorem dX6_callFar_29 : decode cX6_callFar 29 = .ok (.iastore, 1) := by decide +kernel
theorem dX6_callFar_30 : decode cX6_callFar 30 = .ok (.return_, 1) := by decide +kernel
theorem dX6_isString_0 : decode cX6_isString 0 = .ok (.aload_n 0, 1) := by decide +kernel
theorem dX6_isString_1 : decode cX6_isString 1 = .ok (.getfield 148, 3) := by decide +kernel
theorem dX6_isString_4 : decode cX6_isString 4 = .ok (.sipush 164, 3) := by decide +kernel
theorem dX6_isString_7 : decode cX6_isString 7 = .ok (.if_icmp .lt 13, 3) := by decide +kernel
theorem dX6_isString_10 : decode cX6_isString 10 = .ok (.aload_n 0, 1) := by decide +kernel
theorem dX6_isString_11 : decode cX6_isString 11 = .ok (.getfield 148, 3) := by decide +kernel
theorem dX6_isString_14 : decode cX6_isString 14 = .ok (.sipush 168, 3) := by decide +kernel
theorem dX6_isString_17 : decode cX6_isString 17 = .ok (.if_icmp .lt 23, 3) := by decide +kernel
theorem dX6_isString_20 : decode cX6_isString 20 = .ok (.aload_n 0, 1) := by decide +kernel
theorem dX6_isString_21 : decode cX6_isString 21 = .ok (.getfield 148, 3) := by decide +kernel
theorem dX6_isString_24 : decode cX6_isString 24 = .ok (.sipush 170, 3) := by decide +kernel
theorem dX6_isString_27 : decode cX6_isString 27 = .ok (.if_icmp .lt 17, 3) := by decide +kernel
theorem dX6_isString_30 : decode cX6_isString 30 = .ok (.aload_n 0, 1) := by decide +kernel
theorem dX6_isString_31 : decode cX6_isString 31 = .ok (.getfield 148, 3) := by decide +kernel
theorem dX6_isString_34 : decode cX6_isString 34 = .ok (.sipush 176, 3) := by decide +kernel
theorem dX6_isString_37 : decode cX6_isString 37 = .ok (.if_icmp .ge 7, 3) := by decide +kernel
theorem dX6_isString_40 : decode cX6_isString 40 = .ok (.iconst 1, 1) := by decide +kernel
theorem dX6_isString_41 : decode cX6_isString 41 = .ok (.goto 4, 3) := by decide +kernel
theorem dX6_isString_44 : decode cX6_isString 44 = .ok (.iconst 0, 1) := by decide +kernel
theorem dX6_isString_45 : decode cX6_isString 45 = .ok (.ireturn, 1) := by decide +kernel
theorem dX6_compares_0 : decode cX6_compares 0 = .ok (.aload_n 0, 1) := by decide +kernel
theorem dX6_compares_1 : decode cX6_compares 1 = .ok (.getfield 148, 3) := by decide +kernel
theorem dX6_compares_4 : decode cX6_compares 4 = .ok (.sipush 166, 3) := by decide +kernel
theorem dX6_compares_7 : decode cX6_compares 7 = .ok (.if_icmp .eq 33, 3) := by decide +kernel
theorem dX6_compares_10 : decode cX6_compares 10 = .ok (.aload_n 0, 1) := by decide +kernel
theorem dX6_compares_11 : decode cX6_compares 11 = .ok (.getfield 148, 3) := by decide +kernel
theorem dX6_compares_14 : decode cX6_compares 14 = .ok (.sipush 167, 3) := by decide +kernel
theorem dX6_compares_17 : decode cX6_compares 17 = .ok (.if_icmp .eq 23, 3) := by decide +kernel
theorem dX6_compares_20 : decode cX6_compares 20 = .ok (.aload_n 0, 1) := by decide +kernel
theorem dX6_compares_21 : decode cX6_compares 21 = .ok (.getfield 148, 3) := by decide +kernel
theorem dX6_compares_24 : decode cX6_compares 24 = .ok (.sipush 174, 3) := by decide +kernel
theorem dX6_compares_27 : decode cX6_compares 27 = .ok (.if_icmp .eq 13, 3) := by decide +kernel
theorem dX6_compares_30 : decode cX6_compares 30 = .ok (.aload_n 0, 1) := by decide +kernel
theorem dX6_compares_31 : decode cX6_compares 31 = .ok (.getfield 148, 3) := by decide +kernel
theorem dX6_compares_34 : decode cX6_compares 34 = .ok (.sipush 175, 3) := by decide +kernel
theorem dX6_compares_37 : decode cX6_compares 37 = .ok (.if_icmp .ne 7, 3) := by decide +kernel
theorem dX6_compares_40 : decode cX6_compares 40 = .ok (.iconst 1, 1) := by decide +kernel
theorem dX6_compares_41 : decode cX6_compares 41 = .ok (.goto 4, 3) := by decide +kernel
theorem dX6_compares_44 : decode cX6_compares 44 = .ok (.iconst 0, 1) := by decide +kernel
theorem dX6_compares_45 : decode cX6_compares 45 = .ok (.ireturn, 1) := by decide +kernel
theorem dX6_string_0 : decode cX6_string 0 = .ok (.aload_n 0, 1) := by decide +kernel
theorem dX6_string_1 : decode cX6_string 1 = .ok (.invokevirtual 158, 3) := by decide +kernel
theorem dX6_string_4 : decode cX6_string 4 = .ok (.istore_n 1, 1) := by decide +kernel
theorem dX6_string_5 : decode cX6_string 5 = .ok (.iload_n 1, 1) := by decide +kernel
theorem dX6_string_6 : decode cX6_string 6 = .ok (.ifCond .eq 7, 3) := by decide +kernel
theorem dX6_string_9 : decode cX6_string 9 = .ok (.iconst 2, 1) := by decide +kernel
theorem dX6_string_10 : decode cX6_string 10 = .ok (.goto 4, 3) := by decide +kernel
theorem dX6_string_13 : decode cX6_string 13 = .ok (.iconst 1, 1) := by decide +kernel
theorem dX6_string_14 : decode cX6_string 14 = .ok (.aload_n 0, 1) := by decide +kernel
theorem dX6_string_15 : decode cX6_string 15 = .ok (.sipush 1024, 3) := by decide +kernel
theorem dX6_string_18 : decode cX6_string 18 = .ok (.invokevirtual 97, 3) := by decide +kernel
theorem dX6_string_21 : decode cX6_string 21 = .ok (.ifCond .eq 7, 3) := by decide +kernel
theorem dX6_string_24 : decode cX6_string 24 = .ok (.iconst (-1), 1) := by decide +kernel
theorem dX6_string_25 : decode cX6_string 25 = .ok (.goto 4, 3) := by decide +kernel
theorem dX6_string_28 : decode cX6_string 28 = .ok (.iconst 1, 1) := by decide +kernel
theorem dX6_string_29 : decode cX6_string 29 = .ok (.imul, 1) := by decide +kernel
theorem dX6_string_30 : decode cX6_string 30 = .ok (.istore_n 2, 1) := by decide +kernel
theorem dX6_string_31 : decode cX6_string 31 = .ok (.aload_n 0, 1) := by decide +kernel
theorem dX6_string_32 : decode cX6_string 32 = .ok (.getfield 148, 3) := by decide +kernel
theorem dX6_string_35 : decode cX6_string 35 = .ok (.sipush 254, 3) := by decide +kernel
theorem dX6_string_38 : decode cX6_string 38 = .ok (.iand, 1) := by decide +kernel
theorem dX6_string_39 : decode cX6_string 39 = .ok (.istore_n 3, 1) := by decide +kernel
theorem dX6_string_40 : decode cX6_string 40 = .ok (.iload_n 3, 1) := by decide +kernel
theorem dX6_string_41 : decode cX6_string 41 = .ok (.sipush 164, 3) := by decide +kernel
theorem dX6_string_44 : decode cX6_string 44 = .ok (.if_icmp .eq 17, 3) := by decide +kernel
theorem dX6_string_47 : decode cX6_string 47 = .ok (.iload_n 3, 1) := by decide +kernel
theorem dX6_string_48 : decode cX6_string 48 = .ok (.sipush 166, 3) := by decide +kernel
theorem dX6_string_51 : decode cX6_string 51 = .ok (.if_icmp .eq 10, 3) := by decide +kernel
theorem dX6_string_54 : decode cX6_string 54 = .ok (.iload_n 3, 1) := by decide +kernel
theorem dX6_string_55 : decode cX6_string 55 = .ok (.sipush 172, 3) := by decide +kernel
theorem dX6_string_58 : decode cX6_string 58 = .ok (.if_icmp .ne 7, 3) := by decide +kernel
theorem dX6_string_61 : decode cX6_string 61 = .ok (.iconst 1, 1) := by decide +kernel
theorem dX6_string_62 : decode cX6_string 62 = .ok (.goto 4, 3) := by decide +kernel
theorem dX6_string_65 : decode cX6_string 65 = .ok (.iconst 0, 1) := by decide +kernel
theorem dX6_string_66 : decode cX6_string 66 = .ok (.istore 4, 2) := by decide +kernel
theorem dX6_string_68 : decode cX6_string 68 = .ok (.iload_n 3, 1) := by decide +kernel
theorem dX6_string_69 : decode cX6_string 69 = .ok (.sipush 172, 3) := by decide +kernel
theorem dX6_string_72 : decode cX6_string 72 = .ok (.if_icmp .eq 7, 3) := by decide +kernel
theorem dX6_string_75 : decode cX6_string 75 = .ok (.iconst 1, 1) := by decide +kernel
theorem dX6_string_76 : decode cX6_string 76 = .ok (.goto 4, 3) := by decide +kernel
theorem dX6_string_79 : decode cX6_string 79 = .ok (.iconst 0, 1) := by decide +kernel
theorem dX6_string_80 : decode cX6_string 80 = .ok (.istore 5, 2) := by decide +kernel
theorem dX6_string_82 : decode cX6_string 82 = .ok (.iload 4, 2) := by decide +kernel
theorem dX6_string_84 : decode cX6_string 84 = .ok (.ifCond .eq 23, 3) := by decide +kernel
theorem dX6_string_87 : decode cX6_string 87 = .ok (.aload_n 0, 1) := by decide +kernel
theorem dX6_string_88 : decode cX6_string 88 = .ok (.aload_n 0, 1) := by decide +kernel
theorem dX6_string_89 : decode cX6_string 89 = .ok (.iconst 3, 1) := by decide +kernel
theorem dX6_string_90 : decode cX6_string 90 = .ok (.invokevirtual 142, 3) := by decide +kernel
theorem dX6_string_93 : decode cX6_string 93 = .ok (.aload_n 0, 1) := by decide +kernel
theorem dX6_string_94 : decode cX6_string 94 = .ok (.getfield 7, 3) := by decide +kernel
theorem dX6_string_97 : decode cX6_string 97 = .ok (.bipush 6, 2) := by decide +kernel
theorem dX6_string_99 : decode cX6_string 99 = .ok (.iaload, 1) := by decide +kernel
theorem dX6_string_100 : decode cX6_string 100 = .ok (.iload_n 1, 1) := by decide +kernel
theorem dX6_string_101 : decode cX6_string 101 = .ok (.invokevirtual 61, 3) := by decide +kernel
theorem dX6_string_104 : decode cX6_string 104 = .ok (.goto 9, 3) := by decide +kernel
theorem dX6_string_107 : decode cX6_string 107 = .ok (.aload_n 0, 1) := by decide +kernel
theorem dX6_string_108 : decode cX6_string 108 = .ok (.iconst 0, 1) := by decide +kernel
theorem dX6_string_109 : decode cX6_string 109 = .ok (.iload_n 1, 1) := by decide +kernel
theorem dX6_string_110 : decode cX6_string 110 = .ok (.invokevirtual 105, 3) := by decide +kernel
theorem dX6_string_113 : decode cX6_string 113 = .ok (.istore 6, 2) := by decide +kernel
theorem dX6_string_115 : decode cX6_string 115 = .ok (.iload_n 3, 1) := by decide +kernel
theorem dX6_string_116 : decode cX6_string 116 = .ok (.sipush 164, 3) := by decide +kernel
theorem dX6_string_119 : decode cX6_string 119 = .ok (.if_icmp .eq 10, 3) := by decide +kernel
theorem dX6_string_122 : decode cX6_string 122 = .ok (.iload_n 3, 1) := by decide +kernel
theorem dX6_string_123 : decode cX6_string 123 = .ok (.sipush 170, 3) := by decide +kernel
theorem dX6_string_126 : decode cX6_string 126 = .ok (.if_icmp .ne 26, 3) := by decide +kernel
theorem dX6_string_129 : decode cX6_string 129 = .ok (.aload_n 0, 1) := by decide +kernel
theorem dX6_string_130 : decode cX6_string 130 = .ok (.aload_n 0, 1) := by decide +kernel
theorem dX6_string_131 : decode cX6_string 131 = .ok (.getfield 13, 3) := by decide +kernel
theorem dX6_string_134 : decode cX6_string 134 = .ok (.iconst 0, 1) := by decide +kernel
theorem dX6_string_135 : decode cX6_string 135 = .ok (.iaload, 1) := by decide +kernel
theorem dX6_string_136 : decode cX6_string 136 = .ok (.aload_n 0, 1) := by decide +kernel
theorem dX6_string_137 : decode cX6_string 137 = .ok (.getfield 7, 3) := by decide +kernel
theorem dX6_string_140 : decode cX6_string 140 = .ok (.bipush 7, 2) := by decide +kernel
theorem dX6_string_142 : decode cX6_string 142 = .ok (.iaload, 1) := by decide +kernel
theorem dX6_string_143 : decode cX6_string 143 = .ok (.iload_n 1, 1) := by decide +kernel
theorem dX6_string_144 : decode cX6_string 144 = .ok (.iload 6, 2) := by decide +kernel
theorem dX6_string_146 : decode cX6_string 146 = .ok (.invokevirtual 57, 3) := by decide +kernel
theorem dX6_string_149 : decode cX6_string 149 = .ok (.goto 54, 3) := by decide +kernel
theorem dX6_string_152 : decode cX6_string 152 = .ok (.iload_n 3, 1) := by decide +kernel
theorem dX6_string_153 : decode cX6_string 153 = .ok (.sipush 172, 3) := by decide +kernel
theorem dX6_string_156 : decode cX6_string 156 = .ok (.if_icmp .ne 14, 3) := by decide +kernel
theorem dX6_string_159 : decode cX6_string 159 = .ok (.aload_n 0, 1) := by decide +kernel
theorem dX6_string_160 : decode cX6_string 160 = .ok (.iconst 0, 1) := by decide +kernel
theorem dX6_string_161 : decode cX6_string 161 = .ok (.iload_n 1, 1) := by decide +kernel
theorem dX6_string_162 : decode cX6_string 162 = .ok (.iload 6, 2) := by decide +kernel
theorem dX6_string_164 : decode cX6_string 164 = .ok (.invokevirtual 101, 3) := by decide +kernel
theorem dX6_string_167 : decode cX6_string 167 = .ok (.goto 36, 3) := by decide +kernel
theorem dX6_string_170 : decode cX6_string 170 = .ok (.aload_n 0, 1) := by decide +kernel
theorem dX6_string_171 : decode cX6_string 171 = .ok (.aload_n 0, 1) := by decide +kernel
theorem dX6_string_172 : decode cX6_string 172 = .ok (.getfield 13, 3) := by decide +kernel
theorem dX6_string_175 : decode cX6_string 175 = .ok (.iconst 0, 1) := by decide +kernel
theorem dX6_string_176 : decode cX6_string 176 = .ok (.iaload, 1) := by decide +kernel
theorem dX6_string_177 : decode cX6_string 177 = .ok (.aload_n 0, 1) := by decide +kernel
theorem dX6_string_178 : decode cX6_string 178 = .ok (.getfield 7, 3) := by decide +kernel
theorem dX6_string_181 : decode cX6_string 181 = .ok (.bipush 7, 2) := by decide +kernel
theorem dX6_string_183 : decode cX6_string 183 = .ok (.iaload, 1) := by decide +kernel
theorem dX6_string_184 : decode cX6_string 184 = .ok (.iload_n 1, 1) := by decide +kernel
theorem dX6_string_185 : decode cX6_string 185 = .ok (.invokevirtual 61, 3) := by decide +kernel
theorem dX6_string_188 : decode cX6_string 188 = .ok (.istore 7, 2) := by decide +kernel
theorem dX6_string_190 : decode cX6_string 190 = .ok (.aload_n 0, 1) := by decide +kernel
theorem dX6_string_191 : decode cX6_string 191 = .ok (.bipush 7, 2) := by decide +kernel
theorem dX6_string_193 : decode cX6_string 193 = .ok (.iload 6, 2) := by decide +kernel
theorem dX6_string_195 : decode cX6_string 195 = .ok (.iload 7, 2) := by decide +kernel
theorem dX6_string_197 : decode cX6_string 197 = .ok (.iload_n 1, 1) := by decide +kernel
theorem dX6_string_198 : decode cX6_string 198 = .ok (.invokevirtual 187, 3) := by decide +kernel
theorem dX6_string_201 : decode cX6_string 201 = .ok (.istore 8, 2) := by decide +kernel
theorem dX6_string_203 : decode cX6_string 203 = .ok (.aload_n 0, 1) := by decide +kernel
theorem dX6_string_204 : decode cX6_string 204 = .ok (.getfield 7, 3) := by decide +kernel
theorem dX6_string_207 : decode cX6_string 207 = .ok (.bipush 6, 2) := by decide +kernel
theorem dX6_string_209 : decode cX6_string 209 = .ok (.iload 4, 2) := by decide +kernel
theorem dX6_string_211 : decode cX6_string 211 = .ok (.ifCond .eq 18, 3) := by decide +kernel
theorem dX6_string_214 : decode cX6_string 214 = .ok (.aload_n 0, 1) := by decide +kernel
theorem dX6_string_215 : decode cX6_string 215 = .ok (.getfield 7, 3) := by decide +kernel
theorem dX6_string_218 : decode cX6_string 218 = .ok (.bipush 6, 2) := by decide +kernel
theorem dX6_string_220 : decode cX6_string 220 = .ok (.iaload, 1) := by decide +kernel
theorem dX6_string_221 : decode cX6_string 221 = .ok (.iload_n 2, 1) := by decide +kernel
theorem dX6_string_222 : decode cX6_string 222 = .ok (.iadd, 1) := by decide +kernel
theorem dX6_string_223 : decode cX6_string 223 = .ok (.ldc 39, 2) := by decide +kernel
theorem dX6_string_225 : decode cX6_string 225 = .ok (.iand, 1) := by decide +kernel
theorem dX6_string_226 : decode cX6_string 226 = .ok (.goto 10, 3) := by decide +kernel
theorem dX6_string_229 : decode cX6_string 229 = .ok (.aload_n 0, 1) := by decide +kernel
theorem dX6_string_230 : decode cX6_string 230 = .ok (.getfield 7, 3) := by decide +kernel
theorem dX6_string_233 : decode cX6_string 233 = .ok (.bipush 6, 2) := by decide +kernel
theorem dX6_string_235 : decode cX6_string 235 = .ok (.iaload, 1) := by decide +kernel
theorem dX6_string_236 : decode cX6_string 236 = .ok (.iastore, 1) := by decide +kernel
theorem dX6_string_237 : decode cX6_string 237 = .ok (.aload_n 0, 1) := by decide +kernel
theorem dX6_string_238 : decode cX6_string 238 = .ok (.getfield 7, 3) := by decide +kernel
theorem dX6_string_241 : decode cX6_string 241 = .ok (.bipush 7, 2) := by decide +kernel
theorem dX6_string_243 : decode cX6_string 243 = .ok (.iload 5, 2) := by decide +kernel
theorem dX6_string_245 : decode cX6_string 245 = .ok (.ifCond .eq 18, 3) := by decide +kernel
theorem dX6_string_248 : decode cX6_string 248 = .ok (.aload_n 0, 1) := by decide +kernel
theorem dX6_string_249 : decode cX6_string 249 = .ok (.getfield 7, 3) := by decide +kernel
theorem dX6_string_252 : decode cX6_string 252 = .ok (.bipush 7, 2) := by decide +kernel
theorem dX6_string_254 : decode cX6_string 254 = .ok (.iaload, 1) := by decide +kernel
theorem dX6_string_255 : decode cX6_string 255 = .ok (.iload_n 2, 1) := by decide +kernel
theorem dX6_string_256 : decode cX6_string 256 = .ok (.iadd, 1) := by decide +kernel
theorem dX6_string_257 : decode cX6_string 257 = .ok (.ldc 39, 2) := by decide +kernel
theorem dX6_string_259 : decode cX6_string 259 = .ok (.iand, 1) := by decide +kernel
theorem dX6_string_260 : decode cX6_string 260 = .ok (.goto 10, 3) := by decide +kernel
theorem dX6_string_263 : decode cX6_string 263 = .ok (.aload_n 0, 1) := by decide +kernel
theorem dX6_string_264 : decode cX6_string 264 = .ok (.getfield 7, 3) := by decide +kernel
theorem dX6_string_267 : decode cX6_string 267 = .ok (.bipush 7, 2) := by decide +kernel
theorem dX6_string_269 : decode cX6_string 269 = .ok (.iaload, 1) := by decide +kernel
theorem dX6_string_270 : decode cX6_string 270 = .ok (.iastore, 1) := by decide +kernel
theorem dX6_string_271 : decode cX6_string 271 = .ok (.return_, 1) := by decide +kernel
theorem dX6_strings_0 : decode cX6_strings 0 = .ok (.aload_n 0, 1) := by decide +kernel
theorem dX6_strings_1 : decode cX6_strings 1 = .ok (.getfield 176, 3) := by decide +kernel
theorem dX6_strings_4 : decode cX6_strings 4 = .ok (.ifCond .ne 8, 3) := by decide +kernel
theorem dX6_strings_7 : decode cX6_strings 7 = .ok (.aload_n 0, 1) := by decide +kernel
theorem dX6_strings_8 : decode cX6_strings 8 = .ok (.invokevirtual 190, 3) := by decide +kernel
theorem dX6_strings_11 : decode cX6_strings 11 = .ok (.return_, 1) := by decide +kernel
theorem dX6_strings_12 : decode cX6_strings 12 = .ok (.iconst 0, 1) := by decide +kernel
theorem dX6_strings_13 : decode cX6_strings 13 = .ok (.istore_n 1, 1) := by decide +kernel
theorem dX6_strings_14 : decode cX6_strings 14 = .ok (.iconst 1, 1) := by decide +kernel
theorem dX6_strings_15 : decode cX6_strings 15 = .ok (.istore_n 2, 1) := by decide +kernel
theorem dX6_strings_16 : decode cX6_strings 16 = .ok (.iload_n 2, 1) := by decide +kernel
theorem dX6_strings_17 : decode cX6_strings 17 = .ok (.ifCond .eq 89, 3) := by decide +kernel
theorem dX6_strings_20 : decode cX6_strings 20 = .ok (.aload_n 0, 1) := by decide +kernel
theorem dX6_strings_21 : decode cX6_strings 21 = .ok (.getfield 7, 3) := by decide +kernel
theorem dX6_strings_24 : decode cX6_strings 24 = .ok (.iconst 1, 1) := by decide +kernel
theorem dX6_strings_25 : decode cX6_strings 25 = .ok (.iaload, 1) := by decide +kernel
theorem dX6_strings_26 : decode cX6_strings 26 = .ok (.ifCond .eq 80, 3) := by decide +kernel
theorem dX6_strings_29 : decode cX6_strings 29 = .ok (.iload_n 1, 1) := by decide +kernel
theorem dX6_strings_30 : decode cX6_strings 30 = .ok (.bipush 64, 2) := by decide +kernel
theorem dX6_strings_32 : decode cX6_strings 32 = .ok (.if_icmp .ge 74, 3) := by decide +kernel
theorem dX6_strings_35 : decode cX6_strings 35 = .ok (.aload_n 0, 1) := by decide +kernel
theorem dX6_strings_36 : decode cX6_strings 36 = .ok (.getfield 7, 3) := by decide +kernel
theorem dX6_strings_39 : decode cX6_strings 39 = .ok (.iconst 1, 1) := by decide +kernel
theorem dX6_strings_40 : decode cX6_strings 40 = .ok (.aload_n 0, 1) := by decide +kernel
theorem dX6_strings_41 : decode cX6_strings 41 = .ok (.getfield 7, 3) := by decide +kernel
theorem dX6_strings_44 : decode cX6_strings 44 = .ok (.iconst 1, 1) := by decide +kernel
theorem dX6_strings_45 : decode cX6_strings 45 = .ok (.iaload, 1) := by decide +kernel
theorem dX6_strings_46 : decode cX6_strings 46 = .ok (.iconst 1, 1) := by decide +kernel
theorem dX6_strings_47 : decode cX6_strings 47 = .ok (.isub, 1) := by decide +kernel
theorem dX6_strings_48 : decode cX6_strings 48 = .ok (.iastore, 1) := by decide +kernel
theorem dX6_strings_49 : decode cX6_strings 49 = .ok (.aload_n 0, 1) := by decide +kernel
theorem dX6_strings_50 : decode cX6_strings 50 = .ok (.invokevirtual 190, 3) := by decide +kernel
theorem dX6_strings_53 : decode cX6_strings 53 = .ok (.iinc 1 1, 3) := by decide +kernel
theorem dX6_strings_56 : decode cX6_strings 56 = .ok (.aload_n 0, 1) := by decide +kernel
theorem dX6_strings_57 : decode cX6_strings 57 = .ok (.dup, 1) := by decide +kernel
theorem dX6_strings_58 : decode cX6_strings 58 = .ok (.getfield 193, 3) := by decide +kernel
theorem dX6_strings_61 : decode cX6_strings 61 = .ok (.iconst 1, 1) := by decide +kernel
theorem dX6_strings_62 : decode cX6_strings 62 = .ok (.iadd, 1) := by decide +kernel
theorem dX6_strings_63 : decode cX6_strings 63 = .ok (.putfield 193, 3) := by decide +kernel
theorem dX6_strings_66 : decode cX6_strings 66 = .ok (.aload_n 0, 1) := by decide +kernel
theorem dX6_strings_67 : decode cX6_strings 67 = .ok (.invokevirtual 196, 3) := by decide +kernel
theorem dX6_strings_70 : decode cX6_strings 70 = .ok (.ifCond .eq 27, 3) := by decide +kernel
theorem dX6_strings_73 : decode cX6_strings 73 = .ok (.aload_n 0, 1) := by decide +kernel
theorem dX6_strings_74 : decode cX6_strings 74 = .ok (.bipush 64, 2) := by decide +kernel
theorem dX6_strings_76 : decode cX6_strings 76 = .ok (.invokevirtual 97, 3) := by decide +kernel
theorem dX6_strings_79 : decode cX6_strings 79 = .ok (.aload_n 0, 1) := by decide +kernel
theorem dX6_strings_80 : decode cX6_strings 80 = .ok (.getfield 176, 3) := by decide +kernel
theorem dX6_strings_83 : decode cX6_strings 83 = .ok (.sipush 243, 3) := by decide +kernel
theorem dX6_strings_86 : decode cX6_strings 86 = .ok (.if_icmp .ne 7, 3) := by decide +kernel
theorem dX6_strings_89 : decode cX6_strings 89 = .ok (.iconst 1, 1) := by decide +kernel
theorem dX6_strings_90 : decode cX6_strings 90 = .ok (.goto 4, 3) := by decide +kernel
theorem dX6_strings_93 : decode cX6_strings 93 = .ok (.iconst 0, 1) := by decide +kernel
theorem dX6_strings_94 : decode cX6_strings 94 = .ok (.if_icmp .ne 7, 3) := by decide +kernel
theorem dX6_strings_97 : decode cX6_strings 97 = .ok (.iconst 1, 1) := by decide +kernel
theorem dX6_strings_98 : decode cX6_strings 98 = .ok (.goto 4, 3) := by decide +kernel
theorem dX6_strings_101 : decode cX6_strings 101 = .ok (.iconst 0, 1) := by decide +kernel
theorem dX6_strings_102 : decode cX6_strings 102 = .ok (.istore_n 2, 1) := by decide +kernel
theorem dX6_strings_103 : decode cX6_strings 103 = .ok (.goto (-87), 3) := by decide +kernel
theorem dX6_strings_106 : decode cX6_strings 106 = .ok (.iload_n 2, 1) := by decide +kernel
theorem dX6_strings_107 : decode cX6_strings 107 = .ok (.ifCond .eq 20, 3) := by decide +kernel
theorem dX6_strings_110 : decode cX6_strings 110 = .ok (.aload_n 0, 1) := by decide +kernel
theorem dX6_strings_111 : decode cX6_strings 111 = .ok (.getfield 7, 3) := by decide +kernel
theorem dX6_strings_114 : decode cX6_strings 114 = .ok (.iconst 1, 1) := by decide +kernel
theorem dX6_strings_115 : decode cX6_strings 115 = .ok (.iaload, 1) := by decide +kernel
theorem dX6_strings_116 : decode cX6_strings 116 = .ok (.ifCond .eq 11, 3) := by decide +kernel
theorem dX6_strings_119 : decode cX6_strings 119 = .ok (.aload_n 0, 1) := by decide +kernel
theorem dX6_strings_120 : decode cX6_strings 120 = .ok (.aload_n 0, 1) := by decide +kernel
theorem dX6_strings_121 : decode cX6_strings 121 = .ok (.getfield 173, 3) := by decide +kernel
theorem dX6_strings_124 : decode cX6_strings 124 = .ok (.putfield 170, 3) := by decide +kernel
theorem dX6_strings_127 : decode cX6_strings 127 = .ok (.return_, 1) := by decide +kernel
theorem dX6_first_0 : decode cX6_first 0 = .ok (.aload_n 0, 1) := by decide +kernel
theorem dX6_first_1 : decode cX6_first 1 = .ok (.getfield 148, 3) := by decide +kernel
theorem dX6_first_4 : decode cX6_first 4 = .ok (.bipush 7, 2) := by decide +kernel
theorem dX6_first_6 : decode cX6_first 6 = .ok (.iand, 1) := by decide +kernel
theorem dX6_first_7 : decode cX6_first 7 = .ok (.istore_n 1, 1) := by decide +kernel
theorem dX6_first_8 : decode cX6_first 8 = .ok (.aload_n 0, 1) := by decide +kernel
theorem dX6_first_9 : decode cX6_first 9 = .ok (.getfield 148, 3) := by decide +kernel
theorem dX6_first_12 : decode cX6_first 12 = .ok (.iconst 3, 1) := by decide +kernel
theorem dX6_first_13 : decode cX6_first 13 = .ok (.ishr, 1) := by decide +kernel
theorem dX6_first_14 : decode cX6_first 14 = .ok (.istore_n 2, 1) := by decide +kernel
theorem dX6_first_15 : decode cX6_first 15 = .ok (.aload_n 0, 1) := by decide +kernel
theorem dX6_first_16 : decode cX6_first 16 = .ok (.invokevirtual 158, 3) := by decide +kernel
theorem dX6_first_19 : decode cX6_first 19 = .ok (.istore_n 3, 1) := by decide +kernel
theorem dX6_first_20 : decode cX6_first 20 = .ok (.iload_n 1, 1) := by decide +kernel
theorem dX6_first_21 : decode cX6_first 21 = .ok (.iconst 2, 1) := by decide +kernel
theorem dX6_first_22 : decode cX6_first 22 = .ok (.if_icmp .ge 41, 3) := by decide +kernel
theorem dX6_first_25 : decode cX6_first 25 = .ok (.aload_n 0, 1) := by decide +kernel
theorem dX6_first_26 : decode cX6_first 26 = .ok (.iload_n 2, 1) := by decide +kernel
theorem dX6_first_27 : decode cX6_first 27 = .ok (.aload_n 0, 1) := by decide +kernel
theorem dX6_first_28 : decode cX6_first 28 = .ok (.iload_n 3, 1) := by decide +kernel
theorem dX6_first_29 : decode cX6_first 29 = .ok (.invokevirtual 199, 3) := by decide +kernel
theorem dX6_first_32 : decode cX6_first 32 = .ok (.aload_n 0, 1) := by decide +kernel
theorem dX6_first_33 : decode cX6_first 33 = .ok (.aload_n 0, 1) := by decide +kernel
theorem dX6_first_34 : decode cX6_first 34 = .ok (.getfield 130, 3) := by decide +kernel
theorem dX6_first_37 : decode cX6_first 37 = .ok (.iload_n 3, 1) := by decide +kernel
theorem dX6_first_38 : decode cX6_first 38 = .ok (.invokevirtual 105, 3) := by decide +kernel
theorem dX6_first_41 : decode cX6_first 41 = .ok (.iload_n 3, 1) := by decide +kernel
theorem dX6_first_42 : decode cX6_first 42 = .ok (.invokevirtual 187, 3) := by decide +kernel
theorem dX6_first_45 : decode cX6_first 45 = .ok (.istore 4, 2) := by decide +kernel
theorem dX6_first_47 : decode cX6_first 47 = .ok (.iload_n 2, 1) := by decide +kernel
theorem dX6_first_48 : decode cX6_first 48 = .ok (.bipush 7, 2) := by decide +kernel
theorem dX6_first_50 : decode cX6_first 50 = .ok (.if_icmp .eq 10, 3) := by decide +kernel
theorem dX6_first_53 : decode cX6_first 53 = .ok (.aload_n 0, 1) := by decide +kernel
theorem dX6_first_54 : decode cX6_first 54 = .ok (.iload_n 3, 1) := by decide +kernel
theorem dX6_first_55 : decode cX6_first 55 = .ok (.iload 4, 2) := by decide +kernel
theorem dX6_first_57 : decode cX6_first 57 = .ok (.invokevirtual 202, 3) := by decide +kernel
theorem dX6_first_60 : decode cX6_first 60 = .ok (.goto 178, 3) := by decide +kernel
theorem dX6_first_63 : decode cX6_first 63 = .ok (.iload_n 1, 1) := by decide +kernel
theorem dX6_first_64 : decode cX6_first 64 = .ok (.iconst 4, 1) := by decide +kernel
theorem dX6_first_65 : decode cX6_first 65 = .ok (.if_icmp .ge 39, 3) := by decide +kernel
theorem dX6_first_68 : decode cX6_first 68 = .ok (.aload_n 0, 1) := by decide +kernel
theorem dX6_first_69 : decode cX6_first 69 = .ok (.iload_n 2, 1) := by decide +kernel
theorem dX6_first_70 : decode cX6_first 70 = .ok (.aload_n 0, 1) := by decide +kernel
theorem dX6_first_71 : decode cX6_first 71 = .ok (.aload_n 0, 1) := by decide +kernel
theorem dX6_first_72 : decode cX6_first 72 = .ok (.getfield 130, 3) := by decide +kernel
theorem dX6_first_75 : decode cX6_first 75 = .ok (.iload_n 3, 1) := by decide +kernel
theorem dX6_first_76 : decode cX6_first 76 = .ok (.invokevirtual 105, 3) := by decide +kernel
theorem dX6_first_79 : decode cX6_first 79 = .ok (.aload_n 0, 1) := by decide +kernel
theorem dX6_first_80 : decode cX6_first 80 = .ok (.iload_n 3, 1) := by decide +kernel
theorem dX6_first_81 : decode cX6_first 81 = .ok (.invokevirtual 199, 3) := by decide +kernel
theorem dX6_first_84 : decode cX6_first 84 = .ok (.iload_n 3, 1) := by decide +kernel
theorem dX6_first_85 : decode cX6_first 85 = .ok (.invokevirtual 187, 3) := by decide +kernel
theorem dX6_first_88 : decode cX6_first 88 = .ok (.istore 4, 2) := by decide +kernel
theorem dX6_first_90 : decode cX6_first 90 = .ok (.aload_n 0, 1) := by decide +kernel
theorem dX6_first_91 : decode cX6_first 91 = .ok (.aload_n 0, 1) := by decide +kernel
theorem dX6_first_92 : decode cX6_first 92 = .ok (.getfield 130, 3) := by decide +kernel
theorem dX6_first_95 : decode cX6_first 95 = .ok (.iload_n 3, 1) := by decide +kernel
theorem dX6_first_96 : decode cX6_first 96 = .ok (.iload 4, 2) := by decide +kernel
theorem dX6_first_98 : decode cX6_first 98 = .ok (.invokevirtual 101, 3) := by decide +kernel
theorem dX6_first_101 : decode cX6_first 101 = .ok (.goto 137, 3) := by decide +kernel
theorem dX6_first_104 : decode cX6_first 104 = .ok (.iload_n 1, 1) := by decide +kernel
theorem dX6_first_105 : decode cX6_first 105 = .ok (.bipush 6, 2) := by decide +kernel
theorem dX6_first_107 : decode cX6_first 107 = .ok (.if_icmp .ge 28, 3) := by decide +kernel
theorem dX6_first_110 : decode cX6_first 110 = .ok (.aload_n 0, 1) := by decide +kernel
theorem dX6_first_111 : decode cX6_first 111 = .ok (.iconst 0, 1) := by decide +kernel
theorem dX6_first_112 : decode cX6_first 112 = .ok (.iload_n 3, 1) := by decide +kernel
theorem dX6_first_113 : decode cX6_first 113 = .ok (.aload_n 0, 1) := by decide +kernel
theorem dX6_first_114 : decode cX6_first 114 = .ok (.iload_n 2, 1) := by decide +kernel
theorem dX6_first_115 : decode cX6_first 115 = .ok (.aload_n 0, 1) := by decide +kernel
theorem dX6_first_116 : decode cX6_first 116 = .ok (.iconst 0, 1) := by decide +kernel
theorem dX6_first_117 : decode cX6_first 117 = .ok (.iload_n 3, 1) := by decide +kernel
theorem dX6_first_118 : decode cX6_first 118 = .ok (.invokevirtual 105, 3) := by decide +kernel
theorem dX6_first_121 : decode cX6_first 121 = .ok (.aload_n 0, 1) := by decide +kernel
theorem dX6_first_122 : decode cX6_first 122 = .ok (.getfield 164, 3) := by decide +kernel
theorem dX6_first_125 : decode cX6_first 125 = .ok (.iload_n 3, 1) := by decide +kernel
theorem dX6_first_126 : decode cX6_first 126 = .ok (.invokevirtual 187, 3) := by decide +kernel
theorem dX6_first_129 : decode cX6_first 129 = .ok (.invokevirtual 101, 3) := by decide +kernel
theorem dX6_first_132 : decode cX6_first 132 = .ok (.goto 106, 3) := by decide +kernel
theorem dX6_first_135 : decode cX6_first 135 = .ok (.aload_n 0, 1) := by decide +kernel
theorem dX6_first_136 : decode cX6_first 136 = .ok (.getfield 148, 3) := by decide +kernel
theorem dX6_first_139 : decode cX6_first 139 = .ok (.bipush 32, 2) := by decide +kernel
theorem dX6_first_141 : decode cX6_first 141 = .ok (.if_icmp .ge 22, 3) := by decide +kernel
theorem dX6_first_144 : decode cX6_first 144 = .ok (.iload_n 1, 1) := by decide +kernel
theorem dX6_first_145 : decode cX6_first 145 = .ok (.bipush 6, 2) := by decide +kernel
theorem dX6_first_147 : decode cX6_first 147 = .ok (.if_icmp .ne 16, 3) := by decide +kernel
theorem dX6_first_150 : decode cX6_first 150 = .ok (.aload_n 0, 1) := by decide +kernel
theorem dX6_first_151 : decode cX6_first 151 = .ok (.aload_n 0, 1) := by decide +kernel
theorem dX6_first_152 : decode cX6_first 152 = .ok (.getfield 13, 3) := by decide +kernel
theorem dX6_first_155 : decode cX6_first 155 = .ok (.iload_n 2, 1) := by decide +kernel
theorem dX6_first_156 : decode cX6_first 156 = .ok (.iaload, 1) := by decide +kernel
theorem dX6_first_157 : decode cX6_first 157 = .ok (.invokevirtual 183, 3) := by decide +kernel
theorem dX6_first_160 : decode cX6_first 160 = .ok (.goto 78, 3) := by decide +kernel
theorem dX6_first_163 : decode cX6_first 163 = .ok (.aload_n 0, 1) := by decide +kernel
theorem dX6_first_164 : decode cX6_first 164 = .ok (.getfield 148, 3) := by decide +kernel
theorem dX6_first_167 : decode cX6_first 167 = .ok (.bipush 32, 2) := by decide +kernel
theorem dX6_first_169 : decode cX6_first 169 = .ok (.if_icmp .ge 21, 3) := by decide +kernel
theorem dX6_first_172 : decode cX6_first 172 = .ok (.aload_n 0, 1) := by decide +kernel
theorem dX6_first_173 : decode cX6_first 173 = .ok (.getfield 13, 3) := by decide +kernel
theorem dX6_first_176 : decode cX6_first 176 = .ok (.iload_n 2, 1) := by decide +kernel
theorem dX6_first_177 : decode cX6_first 177 = .ok (.aload_n 0, 1) := by decide +kernel
theorem dX6_first_178 : decode cX6_first 178 = .ok (.invokevirtual 206, 3) := by decide +kernel
theorem dX6_first_181 : decode cX6_first 181 = .ok (.iastore, 1) := by decide +kernel
theorem dX6_first_182 : decode cX6_first 182 = .ok (.aload_n 0, 1) := by decide +kernel
theorem dX6_first_183 : decode cX6_first 183 = .ok (.iconst 1, 1) := by decide +kernel
theorem dX6_first_184 : decode cX6_first 184 = .ok (.putfield 209, 3) := by decide +kernel
theorem dX6_first_187 : decode cX6_first 187 = .ok (.goto 51, 3) := by decide +kernel
theorem dX6_first_190 : decode cX6_first 190 = .ok (.aload_n 0, 1) := by decide +kernel
theorem dX6_first_191 : decode cX6_first 191 = .ok (.getfield 148, 3) := by decide +kernel
theorem dX6_first_194 : decode cX6_first 194 = .ok (.bipush 48, 2) := by decide +kernel
theorem dX6_first_196 : decode cX6_first 196 = .ok (.if_icmp .ge 24, 3) := by decide +kernel
theorem dX6_first_199 : decode cX6_first 199 = .ok (.aload_n 0, 1) := by decide +kernel
theorem dX6_first_200 : decode cX6_first 200 = .ok (.aload_n 0, 1) := by decide +kernel
theorem dX6_first_201 : decode cX6_first 201 = .ok (.getfield 148, 3) := by decide +kernel
theorem dX6_first_204 : decode cX6_first 204 = .ok (.bipush 47, 2) := by decide +kernel
theorem dX6_first_206 : decode cX6_first 206 = .ok (.if_icmp .ne 7, 3) := by decide +kernel
theorem dX6_first_209 : decode cX6_first 209 = .ok (.iconst 1, 1) := by decide +kernel
theorem dX6_first_210 : decode cX6_first 210 = .ok (.goto 4, 3) := by decide +kernel
theorem dX6_first_213 : decode cX6_first 213 = .ok (.iconst 0, 1) := by decide +kernel
theorem dX6_first_214 : decode cX6_first 214 = .ok (.invokevirtual 213, 3) := by decide +kernel
theorem dX6_first_217 : decode cX6_first 217 = .ok (.goto 21, 3) := by decide +kernel
theorem dX6_first_220 : decode cX6_first 220 = .ok (.aload_n 0, 1) := by decide +kernel
theorem dX6_first_221 : decode cX6_first 221 = .ok (.aload_n 0, 1) := by decide +kernel
theorem dX6_first_222 : decode cX6_first 222 = .ok (.getfield 148, 3) := by decide +kernel
theorem dX6_first_225 : decode cX6_first 225 = .ok (.bipush 63, 2) := by decide +kernel
theorem dX6_first_227 : decode cX6_first 227 = .ok (.if_icmp .ne 7, 3) := by decide +kernel
theorem dX6_first_230 : decode cX6_first 230 = .ok (.iconst 1, 1) := by decide +kernel
theorem dX6_first_231 : decode cX6_first 231 = .ok (.goto 4, 3) := by decide +kernel
theorem dX6_first_234 : decode cX6_first 234 = .ok (.iconst 0, 1) := by decide +kernel
theorem dX6_first_235 : decode cX6_first 235 = .ok (.invokevirtual 217, 3) := by decide +kernel
theorem dX6_first_238 : decode cX6_first 238 = .ok (.return_, 1) := by decide +kernel
theorem dX6_second_0 : decode cX6_second 0 = .ok (.aload_n 0, 1) := by decide +kernel
theorem dX6_second_1 : decode cX6_second 1 = .ok (.getfield 148, 3) := by decide +kernel
theorem dX6_second_4 : decode cX6_second 4 = .ok (.bipush 7, 2) := by decide +kernel
theorem dX6_second_6 : decode cX6_second 6 = .ok (.iand, 1) := by decide +kernel
theorem dX6_second_7 : decode cX6_second 7 = .ok (.istore_n 1, 1) := by decide +kernel
theorem dX6_second_8 : decode cX6_second 8 = .ok (.aload_n 0, 1) := by decide +kernel
theorem dX6_second_9 : decode cX6_second 9 = .ok (.getfield 148, 3) := by decide +kernel
theorem dX6_second_12 : decode cX6_second 12 = .ok (.bipush 80, 2) := by decide +kernel
theorem dX6_second_14 : decode cX6_second 14 = .ok (.if_icmp .ge 40, 3) := by decide +kernel
theorem dX6_second_17 : decode cX6_second 17 = .ok (.aload_n 0, 1) := by decide +kernel
theorem dX6_second_18 : decode cX6_second 18 = .ok (.getfield 7, 3) := by decide +kernel
theorem dX6_second_21 : decode cX6_second 21 = .ok (.iload_n 1, 1) := by decide +kernel
theorem dX6_second_22 : decode cX6_second 22 = .ok (.aload_n 0, 1) := by decide +kernel
theorem dX6_second_23 : decode cX6_second 23 = .ok (.aload_n 0, 1) := by decide +kernel
theorem dX6_second_24 : decode cX6_second 24 = .ok (.getfield 148, 3) := by decide +kernel
theorem dX6_second_27 : decode cX6_second 27 = .ok (.bipush 72, 2) := by decide +kernel
theorem dX6_second_29 : decode cX6_second 29 = .ok (.if_icmp .ge 8, 3) := by decide +kernel
theorem dX6_second_32 : decode cX6_second 32 = .ok (.bipush 9, 2) := by decide +kernel
theorem dX6_second_34 : decode cX6_second 34 = .ok (.goto 5, 3) := by decide +kernel
theorem dX6_second_37 : decode cX6_second 37 = .ok (.bipush 10, 2) := by decide +kernel
theorem dX6_second_39 : decode cX6_second 39 = .ok (.aload_n 0, 1) := by decide +kernel
theorem dX6_second_40 : decode cX6_second 40 = .ok (.getfield 7, 3) := by decide +kernel
theorem dX6_second_43 : decode cX6_second 43 = .ok (.iload_n 1, 1) := by decide +kernel
theorem dX6_second_44 : decode cX6_second 44 = .ok (.iaload, 1) := by decide +kernel
theorem dX6_second_45 : decode cX6_second 45 = .ok (.iconst 0, 1) := by decide +kernel
theorem dX6_second_46 : decode cX6_second 46 = .ok (.iconst 1, 1) := by decide +kernel
theorem dX6_second_47 : decode cX6_second 47 = .ok (.invokevirtual 187, 3) := by decide +kernel
theorem dX6_second_50 : decode cX6_second 50 = .ok (.iastore, 1) := by decide +kernel
theorem dX6_second_51 : decode cX6_second 51 = .ok (.goto 65, 3) := by decide +kernel
theorem dX6_second_54 : decode cX6_second 54 = .ok (.aload_n 0, 1) := by decide +kernel
theorem dX6_second_55 : decode cX6_second 55 = .ok (.getfield 148, 3) := by decide +kernel
theorem dX6_second_58 : decode cX6_second 58 = .ok (.bipush 88, 2) := by decide +kernel
theorem dX6_second_60 : decode cX6_second 60 = .ok (.if_icmp .ge 46, 3) := by decide +kernel
theorem dX6_second_63 : decode cX6_second 63 = .ok (.aload_n 0, 1) := by decide +kernel
theorem dX6_second_64 : decode cX6_second 64 = .ok (.getfield 7, 3) := by decide +kernel
theorem dX6_second_67 : decode cX6_second 67 = .ok (.iconst 4, 1) := by decide +kernel
theorem dX6_second_68 : decode cX6_second 68 = .ok (.aload_n 0, 1) := by decide +kernel
theorem dX6_second_69 : decode cX6_second 69 = .ok (.getfield 7, 3) := by decide +kernel
theorem dX6_second_72 : decode cX6_second 72 = .ok (.iconst 4, 1) := by decide +kernel
theorem dX6_second_73 : decode cX6_second 73 = .ok (.iaload, 1) := by decide +kernel
theorem dX6_second_74 : decode cX6_second 74 = .ok (.iconst 2, 1) := by decide +kernel
theorem dX6_second_75 : decode cX6_second 75 = .ok (.isub, 1) := by decide +kernel
theorem dX6_second_76 : decode cX6_second 76 = .ok (.ldc 39, 2) := by decide +kernel
theorem dX6_second_78 : decode cX6_second 78 = .ok (.iand, 1) := by decide +kernel
theorem dX6_second_79 : decode cX6_second 79 = .ok (.iastore, 1) := by decide +kernel
theorem dX6_second_80 : decode cX6_second 80 = .ok (.aload_n 0, 1) := by decide +kernel
theorem dX6_second_81 : decode cX6_second 81 = .ok (.aload_n 0, 1) := by decide +kernel
theorem dX6_second_82 : decode cX6_second 82 = .ok (.getfield 13, 3) := by decide +kernel
theorem dX6_second_85 : decode cX6_second 85 = .ok (.iconst 2, 1) := by decide +kernel
theorem dX6_second_86 : decode cX6_second 86 = .ok (.iaload, 1) := by decide +kernel
theorem dX6_second_87 : decode cX6_second 87 = .ok (.aload_n 0, 1) := by decide +kernel
theorem dX6_second_88 : decode cX6_second 88 = .ok (.getfield 7, 3) := by decide +kernel
theorem dX6_second_91 : decode cX6_second 91 = .ok (.iconst 4, 1) := by decide +kernel
theorem dX6_second_92 : decode cX6_second 92 = .ok (.iaload, 1) := by decide +kernel
theorem dX6_second_93 : decode cX6_second 93 = .ok (.iconst 1, 1) := by decide +kernel
theorem dX6_second_94 : decode cX6_second 94 = .ok (.aload_n 0, 1) := by decide +kernel
theorem dX6_second_95 : decode cX6_second 95 = .ok (.getfield 7, 3) := by decide +kernel
theorem dX6_second_98 : decode cX6_second 98 = .ok (.iload_n 1, 1) := by decide +kernel
theorem dX6_second_99 : decode cX6_second 99 = .ok (.iaload, 1) := by decide +kernel
theorem dX6_second_100 : decode cX6_second 100 = .ok (.invokevirtual 57, 3) := by decide +kernel
theorem dX6_second_103 : decode cX6_second 103 = .ok (.goto 13, 3) := by decide +kernel
theorem dX6_second_106 : decode cX6_second 106 = .ok (.aload_n 0, 1) := by decide +kernel
theorem dX6_second_107 : decode cX6_second 107 = .ok (.getfield 7, 3) := by decide +kernel
theorem dX6_second_110 : decode cX6_second 110 = .ok (.iload_n 1, 1) := by decide +kernel
theorem dX6_second_111 : decode cX6_second 111 = .ok (.aload_n 0, 1) := by decide +kernel
theorem dX6_second_112 : decode cX6_second 112 = .ok (.invokevirtual 206, 3) := by decide +kernel
theorem dX6_second_115 : decode cX6_second 115 = .ok (.iastore, 1) := by decide +kernel
theorem dX6_second_116 : decode cX6_second 116 = .ok (.return_, 1) := by decide +kernel
theorem dX6_moves_0 : decode cX6_moves 0 = .ok (.aload_n 0, 1) := by decide +kernel
theorem dX6_moves_1 : decode cX6_moves 1 = .ok (.invokevirtual 158, 3) := by decide +kernel
theorem dX6_moves_4 : decode cX6_moves 4 = .ok (.istore_n 1, 1) := by decide +kernel
theorem dX6_moves_5 : decode cX6_moves 5 = .ok (.aload_n 0, 1) := by decide +kernel
theorem dX6_moves_6 : decode cX6_moves 6 = .ok (.getfield 148, 3) := by decide +kernel
theorem dX6_moves_9 : decode cX6_moves 9 = .ok (.tableswitch 263 128 142 #[75, 75, 75, 75, 112, 112, 137, 137, 170, 170, 187, 187, 204, 223, 239], 75) := by decide +kernel
theorem dX6_moves_84 : decode cX6_moves 84 = .ok (.aload_n 0, 1) := by decide +kernel
theorem dX6_moves_85 : decode cX6_moves 85 = .ok (.aload_n 0, 1) := by decide +kernel
theorem dX6_moves_86 : decode cX6_moves 86 = .ok (.getfield 130, 3) := by decide +kernel
theorem dX6_moves_89 : decode cX6_moves 89 = .ok (.aload_n 0, 1) := by decide +kernel
theorem dX6_moves_90 : decode cX6_moves 90 = .ok (.iload_n 1, 1) := by decide +kernel
theorem dX6_moves_91 : decode cX6_moves 91 = .ok (.invokevirtual 199, 3) := by decide +kernel
theorem dX6_moves_94 : decode cX6_moves 94 = .ok (.aload_n 0, 1) := by decide +kernel
theorem dX6_moves_95 : decode cX6_moves 95 = .ok (.getfield 164, 3) := by decide +kernel
theorem dX6_moves_98 : decode cX6_moves 98 = .ok (.iload_n 1, 1) := by decide +kernel
theorem dX6_moves_99 : decode cX6_moves 99 = .ok (.invokevirtual 187, 3) := by decide +kernel
theorem dX6_moves_102 : decode cX6_moves 102 = .ok (.istore_n 2, 1) := by decide +kernel
theorem dX6_moves_103 : decode cX6_moves 103 = .ok (.aload_n 0, 1) := by decide +kernel
theorem dX6_moves_104 : decode cX6_moves 104 = .ok (.getfield 130, 3) := by decide +kernel
theorem dX6_moves_107 : decode cX6_moves 107 = .ok (.bipush 7, 2) := by decide +kernel
theorem dX6_moves_109 : decode cX6_moves 109 = .ok (.if_icmp .eq 172, 3) := by decide +kernel
theorem dX6_moves_112 : decode cX6_moves 112 = .ok (.aload_n 0, 1) := by decide +kernel
theorem dX6_moves_113 : decode cX6_moves 113 = .ok (.iload_n 1, 1) := by decide +kernel
theorem dX6_moves_114 : decode cX6_moves 114 = .ok (.iload_n 2, 1) := by decide +kernel
theorem dX6_moves_115 : decode cX6_moves 115 = .ok (.invokevirtual 202, 3) := by decide +kernel
theorem dX6_moves_118 : decode cX6_moves 118 = .ok (.goto 163, 3) := by decide +kernel
theorem dX6_moves_121 : decode cX6_moves 121 = .ok (.aload_n 0, 1) := by decide +kernel
theorem dX6_moves_122 : decode cX6_moves 122 = .ok (.bipush 8, 2) := by decide +kernel
theorem dX6_moves_124 : decode cX6_moves 124 = .ok (.aload_n 0, 1) := by decide +kernel
theorem dX6_moves_125 : decode cX6_moves 125 = .ok (.iload_n 1, 1) := by decide +kernel
theorem dX6_moves_126 : decode cX6_moves 126 = .ok (.invokevirtual 199, 3) := by decide +kernel
theorem dX6_moves_129 : decode cX6_moves 129 = .ok (.aload_n 0, 1) := by decide +kernel
theorem dX6_moves_130 : decode cX6_moves 130 = .ok (.aload_n 0, 1) := by decide +kernel
theorem dX6_moves_131 : decode cX6_moves 131 = .ok (.getfield 130, 3) := by decide +kernel
theorem dX6_moves_134 : decode cX6_moves 134 = .ok (.iload_n 1, 1) := by decide +kernel
theorem dX6_moves_135 : decode cX6_moves 135 = .ok (.invokevirtual 105, 3) := by decide +kernel
theorem dX6_moves_138 : decode cX6_moves 138 = .ok (.iload_n 1, 1) := by decide +kernel
theorem dX6_moves_139 : decode cX6_moves 139 = .ok (.invokevirtual 187, 3) := by decide +kernel
theorem dX6_moves_142 : decode cX6_moves 142 = .ok (.istore_n 2, 1) := by decide +kernel
theorem dX6_moves_143 : decode cX6_moves 143 = .ok (.goto 138, 3) := by decide +kernel
theorem dX6_moves_146 : decode cX6_moves 146 = .ok (.aload_n 0, 1) := by decide +kernel
theorem dX6_moves_147 : decode cX6_moves 147 = .ok (.iload_n 1, 1) := by decide +kernel
theorem dX6_moves_148 : decode cX6_moves 148 = .ok (.invokevirtual 199, 3) := by decide +kernel
theorem dX6_moves_151 : decode cX6_moves 151 = .ok (.istore_n 2, 1) := by decide +kernel
theorem dX6_moves_152 : decode cX6_moves 152 = .ok (.aload_n 0, 1) := by decide +kernel
theorem dX6_moves_153 : decode cX6_moves 153 = .ok (.iload_n 1, 1) := by decide +kernel
theorem dX6_moves_154 : decode cX6_moves 154 = .ok (.aload_n 0, 1) := by decide +kernel
theorem dX6_moves_155 : decode cX6_moves 155 = .ok (.aload_n 0, 1) := by decide +kernel
theorem dX6_moves_156 : decode cX6_moves 156 = .ok (.getfield 130, 3) := by decide +kernel
theorem dX6_moves_159 : decode cX6_moves 159 = .ok (.iload_n 1, 1) := by decide +kernel
theorem dX6_moves_160 : decode cX6_moves 160 = .ok (.invokevirtual 105, 3) := by decide +kernel
theorem dX6_moves_163 : decode cX6_moves 163 = .ok (.invokevirtual 202, 3) := by decide +kernel
theorem dX6_moves_166 : decode cX6_moves 166 = .ok (.aload_n 0, 1) := by decide +kernel
theorem dX6_moves_167 : decode cX6_moves 167 = .ok (.aload_n 0, 1) := by decide +kernel
theorem dX6_moves_168 : decode cX6_moves 168 = .ok (.getfield 130, 3) := by decide +kernel
theorem dX6_moves_171 : decode cX6_moves 171 = .ok (.iload_n 1, 1) := by decide +kernel
theorem dX6_moves_172 : decode cX6_moves 172 = .ok (.iload_n 2, 1) := by decide +kernel
theorem dX6_moves_173 : decode cX6_moves 173 = .ok (.invokevirtual 101, 3) := by decide +kernel
theorem dX6_moves_176 : decode cX6_moves 176 = .ok (.goto 105, 3) := by decide +kernel
theorem dX6_moves_179 : decode cX6_moves 179 = .ok (.aload_n 0, 1) := by decide +kernel
theorem dX6_moves_180 : decode cX6_moves 180 = .ok (.iload_n 1, 1) := by decide +kernel
theorem dX6_moves_181 : decode cX6_moves 181 = .ok (.aload_n 0, 1) := by decide +kernel
theorem dX6_moves_182 : decode cX6_moves 182 = .ok (.aload_n 0, 1) := by decide +kernel
theorem dX6_moves_183 : decode cX6_moves 183 = .ok (.getfield 130, 3) := by decide +kernel
theorem dX6_moves_186 : decode cX6_moves 186 = .ok (.iload_n 1, 1) := by decide +kernel
theorem dX6_moves_187 : decode cX6_moves 187 = .ok (.invokevirtual 105, 3) := by decide +kernel
theorem dX6_moves_190 : decode cX6_moves 190 = .ok (.invokevirtual 202, 3) := by decide +kernel
theorem dX6_moves_193 : decode cX6_moves 193 = .ok (.goto 88, 3) := by decide +kernel
theorem dX6_moves_196 : decode cX6_moves 196 = .ok (.aload_n 0, 1) := by decide +kernel
theorem dX6_moves_197 : decode cX6_moves 197 = .ok (.aload_n 0, 1) := by decide +kernel
theorem dX6_moves_198 : decode cX6_moves 198 = .ok (.getfield 130, 3) := by decide +kernel
theorem dX6_moves_201 : decode cX6_moves 201 = .ok (.iload_n 1, 1) := by decide +kernel
theorem dX6_moves_202 : decode cX6_moves 202 = .ok (.aload_n 0, 1) := by decide +kernel
theorem dX6_moves_203 : decode cX6_moves 203 = .ok (.iload_n 1, 1) := by decide +kernel
theorem dX6_moves_204 : decode cX6_moves 204 = .ok (.invokevirtual 199, 3) := by decide +kernel
theorem dX6_moves_207 : decode cX6_moves 207 = .ok (.invokevirtual 101, 3) := by decide +kernel
theorem dX6_moves_210 : decode cX6_moves 210 = .ok (.goto 71, 3) := by decide +kernel
theorem dX6_moves_213 : decode cX6_moves 213 = .ok (.aload_n 0, 1) := by decide +kernel
theorem dX6_moves_214 : decode cX6_moves 214 = .ok (.iconst 1, 1) := by decide +kernel
theorem dX6_moves_215 : decode cX6_moves 215 = .ok (.aload_n 0, 1) := by decide +kernel
theorem dX6_moves_216 : decode cX6_moves 216 = .ok (.getfield 13, 3) := by decide +kernel
theorem dX6_moves_219 : decode cX6_moves 219 = .ok (.aload_n 0, 1) := by decide +kernel
theorem dX6_moves_220 : decode cX6_moves 220 = .ok (.getfield 130, 3) := by decide +kernel
theorem dX6_moves_223 : decode cX6_moves 223 = .ok (.iconst 3, 1) := by decide +kernel
theorem dX6_moves_224 : decode cX6_moves 224 = .ok (.iand, 1) := by decide +kernel
theorem dX6_moves_225 : decode cX6_moves 225 = .ok (.iaload, 1) := by decide +kernel
theorem dX6_moves_226 : decode cX6_moves 226 = .ok (.invokevirtual 202, 3) := by decide +kernel
theorem dX6_moves_229 : decode cX6_moves 229 = .ok (.goto 52, 3) := by decide +kernel
theorem dX6_moves_232 : decode cX6_moves 232 = .ok (.aload_n 0, 1) := by decide +kernel
theorem dX6_moves_233 : decode cX6_moves 233 = .ok (.getfield 7, 3) := by decide +kernel
theorem dX6_moves_236 : decode cX6_moves 236 = .ok (.aload_n 0, 1) := by decide +kernel
theorem dX6_moves_237 : decode cX6_moves 237 = .ok (.getfield 130, 3) := by decide +kernel
theorem dX6_moves_240 : decode cX6_moves 240 = .ok (.aload_n 0, 1) := by decide +kernel
theorem dX6_moves_241 : decode cX6_moves 241 = .ok (.getfield 139, 3) := by decide +kernel
theorem dX6_moves_244 : decode cX6_moves 244 = .ok (.iastore, 1) := by decide +kernel
theorem dX6_moves_245 : decode cX6_moves 245 = .ok (.goto 36, 3) := by decide +kernel
theorem dX6_moves_248 : decode cX6_moves 248 = .ok (.aload_n 0, 1) := by decide +kernel
theorem dX6_moves_249 : decode cX6_moves 249 = .ok (.getfield 13, 3) := by decide +kernel
theorem dX6_moves_252 : decode cX6_moves 252 = .ok (.aload_n 0, 1) := by decide +kernel
theorem dX6_moves_253 : decode cX6_moves 253 = .ok (.getfield 130, 3) := by decide +kernel
theorem dX6_moves_256 : decode cX6_moves 256 = .ok (.iconst 3, 1) := by decide +kernel
theorem dX6_moves_257 : decode cX6_moves 257 = .ok (.iand, 1) := by decide +kernel
theorem dX6_moves_258 : decode cX6_moves 258 = .ok (.aload_n 0, 1) := by decide +kernel
theorem dX6_moves_259 : decode cX6_moves 259 = .ok (.iconst 1, 1) := by decide +kernel
theorem dX6_moves_260 : decode cX6_moves 260 = .ok (.invokevirtual 199, 3) := by decide +kernel
theorem dX6_moves_263 : decode cX6_moves 263 = .ok (.iastore, 1) := by decide +kernel
theorem dX6_moves_264 : decode cX6_moves 264 = .ok (.aload_n 0, 1) := by decide +kernel
theorem dX6_moves_265 : decode cX6_moves 265 = .ok (.iconst 1, 1) := by decide +kernel
theorem dX6_moves_266 : decode cX6_moves 266 = .ok (.putfield 209, 3) := by decide +kernel
theorem dX6_moves_269 : decode cX6_moves 269 = .ok (.goto 12, 3) := by decide +kernel
theorem dX6_moves_272 : decode cX6_moves 272 = .ok (.aload_n 0, 1) := by decide +kernel
theorem dX6_moves_273 : decode cX6_moves 273 = .ok (.iconst 1, 1) := by decide +kernel
theorem dX6_moves_274 : decode cX6_moves 274 = .ok (.aload_n 0, 1) := by decide +kernel
theorem dX6_moves_275 : decode cX6_moves 275 = .ok (.invokevirtual 206, 3) := by decide +kernel
theorem dX6_moves_278 : decode cX6_moves 278 = .ok (.invokevirtual 202, 3) := by decide +kernel
theorem dX6_moves_281 : decode cX6_moves 281 = .ok (.return_, 1) := by decide +kernel
theorem dX6_others_0 : decode cX6_others 0 = .ok (.aload_n 0, 1) := by decide +kernel
theorem dX6_others_1 : decode cX6_others 1 = .ok (.getfield 148, 3) := by decide +kernel
theorem dX6_others_4 : decode cX6_others 4 = .ok (.tableswitch 190 152 159 #[48, 73, 100, 115, 118, 132, 147, 175], 48) := by decide +kernel
theorem dX6_others_52 : decode cX6_others 52 = .ok (.aload_n 0, 1) := by decide +kernel
theorem dX6_others_53 : decode cX6_others 53 = .ok (.getfield 7, 3) := by decide +kernel
theorem dX6_others_56 : decode cX6_others 56 = .ok (.iconst 0, 1) := by decide +kernel
theorem dX6_others_57 : decode cX6_others 57 = .ok (.aload_n 0, 1) := by decide +kernel
theorem dX6_others_58 : decode cX6_others 58 = .ok (.getfield 7, 3) := by decide +kernel
theorem dX6_others_61 : decode cX6_others 61 = .ok (.iconst 0, 1) := by decide +kernel
theorem dX6_others_62 : decode cX6_others 62 = .ok (.iaload, 1) := by decide +kernel
theorem dX6_others_63 : decode cX6_others 63 = .ok (.sipush 255, 3) := by decide +kernel
theorem dX6_others_66 : decode cX6_others 66 = .ok (.iand, 1) := by decide +kernel
theorem dX6_others_67 : decode cX6_others 67 = .ok (.invokestatic 136, 3) := by decide +kernel
theorem dX6_others_70 : decode cX6_others 70 = .ok (.ldc 39, 2) := by decide +kernel
theorem dX6_others_72 : decode cX6_others 72 = .ok (.iand, 1) := by decide +kernel
theorem dX6_others_73 : decode cX6_others 73 = .ok (.iastore, 1) := by decide +kernel
theorem dX6_others_74 : decode cX6_others 74 = .ok (.goto 158, 3) := by decide +kernel
theorem dX6_others_77 : decode cX6_others 77 = .ok (.aload_n 0, 1) := by decide +kernel
theorem dX6_others_78 : decode cX6_others 78 = .ok (.getfield 7, 3) := by decide +kernel
theorem dX6_others_81 : decode cX6_others 81 = .ok (.iconst 2, 1) := by decide +kernel
theorem dX6_others_82 : decode cX6_others 82 = .ok (.aload_n 0, 1) := by decide +kernel
theorem dX6_others_83 : decode cX6_others 83 = .ok (.getfield 7, 3) := by decide +kernel
theorem dX6_others_86 : decode cX6_others 86 = .ok (.iconst 0, 1) := by decide +kernel
theorem dX6_others_87 : decode cX6_others 87 = .ok (.iaload, 1) := by decide +kernel
theorem dX6_others_88 : decode cX6_others 88 = .ok (.sipush 32767, 3) := by decide +kernel
theorem dX6_others_91 : decode cX6_others 91 = .ok (.if_icmp .le 8, 3) := by decide +kernel
theorem dX6_others_94 : decode cX6_others 94 = .ok (.ldc 39, 2) := by decide +kernel
theorem dX6_others_96 : decode cX6_others 96 = .ok (.goto 4, 3) := by decide +kernel
theorem dX6_others_99 : decode cX6_others 99 = .ok (.iconst 0, 1) := by decide +kernel
theorem dX6_others_100 : decode cX6_others 100 = .ok (.iastore, 1) := by decide +kernel
theorem dX6_others_101 : decode cX6_others 101 = .ok (.goto 131, 3) := by decide +kernel
theorem dX6_others_104 : decode cX6_others 104 = .ok (.aload_n 0, 1) := by decide +kernel
theorem dX6_others_105 : decode cX6_others 105 = .ok (.aload_n 0, 1) := by decide +kernel
theorem dX6_others_106 : decode cX6_others 106 = .ok (.getfield 164, 3) := by decide +kernel
theorem dX6_others_109 : decode cX6_others 109 = .ok (.aload_n 0, 1) := by decide +kernel
theorem dX6_others_110 : decode cX6_others 110 = .ok (.getfield 167, 3) := by decide +kernel
theorem dX6_others_113 : decode cX6_others 113 = .ok (.invokevirtual 220, 3) := by decide +kernel
theorem dX6_others_116 : decode cX6_others 116 = .ok (.goto 116, 3) := by decide +kernel
theorem dX6_others_119 : decode cX6_others 119 = .ok (.goto 113, 3) := by decide +kernel
theorem dX6_others_122 : decode cX6_others 122 = .ok (.aload_n 0, 1) := by decide +kernel
theorem dX6_others_123 : decode cX6_others 123 = .ok (.aload_n 0, 1) := by decide +kernel
theorem dX6_others_124 : decode cX6_others 124 = .ok (.getfield 54, 3) := by decide +kernel
theorem dX6_others_127 : decode cX6_others 127 = .ok (.ldc 182, 2) := by decide +kernel
theorem dX6_others_129 : decode cX6_others 129 = .ok (.ior, 1) := by decide +kernel
theorem dX6_others_130 : decode cX6_others 130 = .ok (.invokevirtual 183, 3) := by decide +kernel
theorem dX6_others_133 : decode cX6_others 133 = .ok (.goto 99, 3) := by decide +kernel
theorem dX6_others_136 : decode cX6_others 136 = .ok (.aload_n 0, 1) := by decide +kernel
theorem dX6_others_137 : decode cX6_others 137 = .ok (.aload_n 0, 1) := by decide +kernel
theorem dX6_others_138 : decode cX6_others 138 = .ok (.invokevirtual 206, 3) := by decide +kernel
theorem dX6_others_141 : decode cX6_others 141 = .ok (.sipush 4053, 3) := by decide +kernel
theorem dX6_others_144 : decode cX6_others 144 = .ok (.iand, 1) := by decide +kernel
theorem dX6_others_145 : decode cX6_others 145 = .ok (.putfield 54, 3) := by decide +kernel
theorem dX6_others_148 : decode cX6_others 148 = .ok (.goto 84, 3) := by decide +kernel
theorem dX6_others_151 : decode cX6_others 151 = .ok (.aload_n 0, 1) := by decide +kernel
theorem dX6_others_152 : decode cX6_others 152 = .ok (.aload_n 0, 1) := by decide +kernel
theorem dX6_others_153 : decode cX6_others 153 = .ok (.getfield 54, 3) := by decide +kernel
theorem dX6_others_156 : decode cX6_others 156 = .ok (.ldc 53, 2) := by decide +kernel
theorem dX6_others_158 : decode cX6_others 158 = .ok (.iand, 1) := by decide +kernel
theorem dX6_others_159 : decode cX6_others 159 = .ok (.aload_n 0, 1) := by decide +kernel
theorem dX6_others_160 : decode cX6_others 160 = .ok (.getfield 7, 3) := by decide +kernel
theorem dX6_others_163 : decode cX6_others 163 = .ok (.iconst 0, 1) := by decide +kernel
theorem dX6_others_164 : decode cX6_others 164 = .ok (.iaload, 1) := by decide +kernel
theorem dX6_others_165 : decode cX6_others 165 = .ok (.bipush 8, 2) := by decide +kernel
theorem dX6_others_167 : decode cX6_others 167 = .ok (.ishr, 1) := by decide +kernel
theorem dX6_others_168 : decode cX6_others 168 = .ok (.ior, 1) := by decide +kernel
theorem dX6_others_169 : decode cX6_others 169 = .ok (.sipush 4053, 3) := by decide +kernel
theorem dX6_others_172 : decode cX6_others 172 = .ok (.iand, 1) := by decide +kernel
theorem dX6_others_173 : decode cX6_others 173 = .ok (.putfield 54, 3) := by decide +kernel
theorem dX6_others_176 : decode cX6_others 176 = .ok (.goto 56, 3) := by decide +kernel
theorem dX6_others_179 : decode cX6_others 179 = .ok (.aload_n 0, 1) := by decide +kernel
theorem dX6_others_180 : decode cX6_others 180 = .ok (.iconst 4, 1) := by decide +kernel
theorem dX6_others_181 : decode cX6_others 181 = .ok (.iconst 0, 1) := by decide +kernel
theorem dX6_others_182 : decode cX6_others 182 = .ok (.aload_n 0, 1) := by decide +kernel
theorem dX6_others_183 : decode cX6_others 183 = .ok (.getfield 54, 3) := by decide +kernel
theorem dX6_others_186 : decode cX6_others 186 = .ok (.iconst 2, 1) := by decide +kernel
theorem dX6_others_187 : decode cX6_others 187 = .ok (.ior, 1) := by decide +kernel
theorem dX6_others_188 : decode cX6_others 188 = .ok (.invokevirtual 101, 3) := by decide +kernel
theorem dX6_others_191 : decode cX6_others 191 = .ok (.goto 41, 3) := by decide +kernel
theorem dX6_others_194 : decode cX6_others 194 = .ok (.aload_n 0, 1) := by decide +kernel
theorem dX6_others_195 : decode cX6_others 195 = .ok (.getfield 7, 3) := by decide +kernel
theorem dX6_others_198 : decode cX6_others 198 = .ok (.aload_n 0, 1) := by decide +kernel
theorem dX6_others_199 : decode cX6_others 199 = .ok (.getfield 148, 3) := by decide +kernel
theorem dX6_others_202 : decode cX6_others 202 = .ok (.bipush 7, 2) := by decide +kernel
theorem dX6_others_204 : decode cX6_others 204 = .ok (.iand, 1) := by decide +kernel
theorem dX6_others_205 : decode cX6_others 205 = .ok (.iaload, 1) := by decide +kernel
theorem dX6_others_206 : decode cX6_others 206 = .ok (.istore_n 1, 1) := by decide +kernel
theorem dX6_others_207 : decode cX6_others 207 = .ok (.aload_n 0, 1) := by decide +kernel
theorem dX6_others_208 : decode cX6_others 208 = .ok (.getfield 7, 3) := by decide +kernel
theorem dX6_others_211 : decode cX6_others 211 = .ok (.aload_n 0, 1) := by decide +kernel
theorem dX6_others_212 : decode cX6_others 212 = .ok (.getfield 148, 3) := by decide +kernel
theorem dX6_others_215 : decode cX6_others 215 = .ok (.bipush 7, 2) := by decide +kernel
theorem dX6_others_217 : decode cX6_others 217 = .ok (.iand, 1) := by decide +kernel
theorem dX6_others_218 : decode cX6_others 218 = .ok (.aload_n 0, 1) := by decide +kernel
theorem dX6_others_219 : decode cX6_others 219 = .ok (.getfield 7, 3) := by decide +kernel
theorem dX6_others_222 : decode cX6_others 222 = .ok (.iconst 0, 1) := by decide +kernel
theorem dX6_others_223 : decode cX6_others 223 = .ok (.iaload, 1) := by decide +kernel
theorem dX6_others_224 : decode cX6_others 224 = .ok (.iastore, 1) := by decide +kernel
theorem dX6_others_225 : decode cX6_others 225 = .ok (.aload_n 0, 1) := by decide +kernel
theorem dX6_others_226 : decode cX6_others 226 = .ok (.getfield 7, 3) := by decide +kernel
theorem dX6_others_229 : decode cX6_others 229 = .ok (.iconst 0, 1) := by decide +kernel
theorem dX6_others_230 : decode cX6_others 230 = .ok (.iload_n 1, 1) := by decide +kernel
theorem dX6_others_231 : decode cX6_others 231 = .ok (.iastore, 1) := by decide +kernel
theorem dX6_others_232 : decode cX6_others 232 = .ok (.return_, 1) := by decide +kernel
theorem dX6_memory_0 : decode cX6_memory 0 = .ok (.aload_n 0, 1) := by decide +kernel
theorem dX6_memory_1 : decode cX6_memory 1 = .ok (.invokevirtual 158, 3) := by decide +kernel
theorem dX6_memory_4 : decode cX6_memory 4 = .ok (.istore_n 1, 1) := by decide +kernel
theorem dX6_memory_5 : decode cX6_memory 5 = .ok (.aload_n 0, 1) := by decide +kernel
theorem dX6_memory_6 : decode cX6_memory 6 = .ok (.getfield 148, 3) := by decide +kernel
theorem dX6_memory_9 : decode cX6_memory 9 = .ok (.sipush 176, 3) := by decide +kernel
theorem dX6_memory_12 : decode cX6_memory 12 = .ok (.if_icmp .lt 36, 3) := by decide +kernel
theorem dX6_memory_15 : decode cX6_memory 15 = .ok (.aload_n 0, 1) := by decide +kernel
theorem dX6_memory_16 : decode cX6_memory 16 = .ok (.aload_n 0, 1) := by decide +kernel
theorem dX6_memory_17 : decode cX6_memory 17 = .ok (.getfield 148, 3) := by decide +kernel
theorem dX6_memory_20 : decode cX6_memory 20 = .ok (.bipush 7, 2) := by decide +kernel
theorem dX6_memory_22 : decode cX6_memory 22 = .ok (.iand, 1) := by decide +kernel
theorem dX6_memory_23 : decode cX6_memory 23 = .ok (.aload_n 0, 1) := by decide +kernel
theorem dX6_memory_24 : decode cX6_memory 24 = .ok (.getfield 148, 3) := by decide +kernel
theorem dX6_memory_27 : decode cX6_memory 27 = .ok (.sipush 184, 3) := by decide +kernel
theorem dX6_memory_30 : decode cX6_memory 30 = .ok (.if_icmp .lt 7, 3) := by decide +kernel
theorem dX6_memory_33 : decode cX6_memory 33 = .ok (.iconst 1, 1) := by decide +kernel
theorem dX6_memory_34 : decode cX6_memory 34 = .ok (.goto 4, 3) := by decide +kernel
theorem dX6_memory_37 : decode cX6_memory 37 = .ok (.iconst 0, 1) := by decide +kernel
theorem dX6_memory_38 : decode cX6_memory 38 = .ok (.aload_n 0, 1) := by decide +kernel
theorem dX6_memory_39 : decode cX6_memory 39 = .ok (.getfield 164, 3) := by decide +kernel
theorem dX6_memory_42 : decode cX6_memory 42 = .ok (.invokevirtual 101, 3) := by decide +kernel
theorem dX6_memory_45 : decode cX6_memory 45 = .ok (.goto 101, 3) := by decide +kernel
theorem dX6_memory_48 : decode cX6_memory 48 = .ok (.aload_n 0, 1) := by decide +kernel
theorem dX6_memory_49 : decode cX6_memory 49 = .ok (.getfield 148, 3) := by decide +kernel
theorem dX6_memory_52 : decode cX6_memory 52 = .ok (.sipush 162, 3) := by decide +kernel
theorem dX6_memory_55 : decode cX6_memory 55 = .ok (.if_icmp .ge 26, 3) := by decide +kernel
theorem dX6_memory_58 : decode cX6_memory 58 = .ok (.aload_n 0, 1) := by decide +kernel
theorem dX6_memory_59 : decode cX6_memory 59 = .ok (.iconst 0, 1) := by decide +kernel
theorem dX6_memory_60 : decode cX6_memory 60 = .ok (.iload_n 1, 1) := by decide +kernel
theorem dX6_memory_61 : decode cX6_memory 61 = .ok (.aload_n 0, 1) := by decide +kernel
theorem dX6_memory_62 : decode cX6_memory 62 = .ok (.aload_n 0, 1) := by decide +kernel
theorem dX6_memory_63 : decode cX6_memory 63 = .ok (.iconst 3, 1) := by decide +kernel
theorem dX6_memory_64 : decode cX6_memory 64 = .ok (.invokevirtual 142, 3) := by decide +kernel
theorem dX6_memory_67 : decode cX6_memory 67 = .ok (.aload_n 0, 1) := by decide +kernel
theorem dX6_memory_68 : decode cX6_memory 68 = .ok (.getfield 164, 3) := by decide +kernel
theorem dX6_memory_71 : decode cX6_memory 71 = .ok (.iload_n 1, 1) := by decide +kernel
theorem dX6_memory_72 : decode cX6_memory 72 = .ok (.invokevirtual 61, 3) := by decide +kernel
theorem dX6_memory_75 : decode cX6_memory 75 = .ok (.invokevirtual 101, 3) := by decide +kernel
theorem dX6_memory_78 : decode cX6_memory 78 = .ok (.goto 68, 3) := by decide +kernel
theorem dX6_memory_81 : decode cX6_memory 81 = .ok (.aload_n 0, 1) := by decide +kernel
theorem dX6_memory_82 : decode cX6_memory 82 = .ok (.getfield 148, 3) := by decide +kernel
theorem dX6_memory_85 : decode cX6_memory 85 = .ok (.sipush 164, 3) := by decide +kernel
theorem dX6_memory_88 : decode cX6_memory 88 = .ok (.if_icmp .ge 26, 3) := by decide +kernel
theorem dX6_memory_91 : decode cX6_memory 91 = .ok (.aload_n 0, 1) := by decide +kernel
theorem dX6_memory_92 : decode cX6_memory 92 = .ok (.aload_n 0, 1) := by decide +kernel
theorem dX6_memory_93 : decode cX6_memory 93 = .ok (.iconst 3, 1) := by decide +kernel
theorem dX6_memory_94 : decode cX6_memory 94 = .ok (.invokevirtual 142, 3) := by decide +kernel
theorem dX6_memory_97 : decode cX6_memory 97 = .ok (.aload_n 0, 1) := by decide +kernel
theorem dX6_memory_98 : decode cX6_memory 98 = .ok (.getfield 164, 3) := by decide +kernel
theorem dX6_memory_101 : decode cX6_memory 101 = .ok (.iload_n 1, 1) := by decide +kernel
theorem dX6_memory_102 : decode cX6_memory 102 = .ok (.aload_n 0, 1) := by decide +kernel
theorem dX6_memory_103 : decode cX6_memory 103 = .ok (.iconst 0, 1) := by decide +kernel
theorem dX6_memory_104 : decode cX6_memory 104 = .ok (.iload_n 1, 1) := by decide +kernel
theorem dX6_memory_105 : decode cX6_memory 105 = .ok (.invokevirtual 105, 3) := by decide +kernel
theorem dX6_memory_108 : decode cX6_memory 108 = .ok (.invokevirtual 57, 3) := by decide +kernel
theorem dX6_memory_111 : decode cX6_memory 111 = .ok (.goto 35, 3) := by decide +kernel
theorem dX6_memory_114 : decode cX6_memory 114 = .ok (.aload_n 0, 1) := by decide +kernel
theorem dX6_memory_115 : decode cX6_memory 115 = .ok (.invokevirtual 223, 3) := by decide +kernel
theorem dX6_memory_118 : decode cX6_memory 118 = .ok (.ifCond .eq 10, 3) := by decide +kernel
theorem dX6_memory_121 : decode cX6_memory 121 = .ok (.aload_n 0, 1) := by decide +kernel
theorem dX6_memory_122 : decode cX6_memory 122 = .ok (.invokevirtual 226, 3) := by decide +kernel
theorem dX6_memory_125 : decode cX6_memory 125 = .ok (.goto 21, 3) := by decide +kernel
theorem dX6_memory_128 : decode cX6_memory 128 = .ok (.aload_n 0, 1) := by decide +kernel
theorem dX6_memory_129 : decode cX6_memory 129 = .ok (.bipush 8, 2) := by decide +kernel
theorem dX6_memory_131 : decode cX6_memory 131 = .ok (.aload_n 0, 1) := by decide +kernel
theorem dX6_memory_132 : decode cX6_memory 132 = .ok (.iconst 0, 1) := by decide +kernel
theorem dX6_memory_133 : decode cX6_memory 133 = .ok (.iload_n 1, 1) := by decide +kernel
theorem dX6_memory_134 : decode cX6_memory 134 = .ok (.invokevirtual 105, 3) := by decide +kernel
theorem dX6_memory_137 : decode cX6_memory 137 = .ok (.aload_n 0, 1) := by decide +kernel
theorem dX6_memory_138 : decode cX6_memory 138 = .ok (.getfield 164, 3) := by decide +kernel
theorem dX6_memory_141 : decode cX6_memory 141 = .ok (.iload_n 1, 1) := by decide +kernel
theorem dX6_memory_142 : decode cX6_memory 142 = .ok (.invokevirtual 187, 3) := by decide +kernel
theorem dX6_memory_145 : decode cX6_memory 145 = .ok (.istore_n 2, 1) := by decide +kernel
theorem dX6_memory_146 : decode cX6_memory 146 = .ok (.return_, 1) := by decide +kernel
theorem dX6_returns_0 : decode cX6_returns 0 = .ok (.aload_n 0, 1) := by decide +kernel
theorem dX6_returns_1 : decode cX6_returns 1 = .ok (.aload_n 0, 1) := by decide +kernel
theorem dX6_returns_2 : decode cX6_returns 2 = .ok (.invokevirtual 206, 3) := by decide +kernel
theorem dX6_returns_5 : decode cX6_returns 5 = .ok (.putfield 170, 3) := by decide +kernel
theorem dX6_returns_8 : decode cX6_returns 8 = .ok (.iload_n 1, 1) := by decide +kernel
theorem dX6_returns_9 : decode cX6_returns 9 = .ok (.ifCond .eq 13, 3) := by decide +kernel
theorem dX6_returns_12 : decode cX6_returns 12 = .ok (.aload_n 0, 1) := by decide +kernel
theorem dX6_returns_13 : decode cX6_returns 13 = .ok (.getfield 13, 3) := by decide +kernel
theorem dX6_returns_16 : decode cX6_returns 16 = .ok (.iconst 1, 1) := by decide +kernel
theorem dX6_returns_17 : decode cX6_returns 17 = .ok (.aload_n 0, 1) := by decide +kernel
theorem dX6_returns_18 : decode cX6_returns 18 = .ok (.invokevirtual 206, 3) := by decide +kernel
theorem dX6_returns_21 : decode cX6_returns 21 = .ok (.iastore, 1) := by decide +kernel
theorem dX6_returns_22 : decode cX6_returns 22 = .ok (.aload_n 0, 1) := by decide +kernel
theorem dX6_returns_23 : decode cX6_returns 23 = .ok (.getfield 7, 3) := by decide +kernel
theorem dX6_returns_26 : decode cX6_returns 26 = .ok (.iconst 4, 1) := by decide +kernel
theorem dX6_returns_27 : decode cX6_returns 27 = .ok (.aload_n 0, 1) := by decide +kernel
theorem dX6_returns_28 : decode cX6_returns 28 = .ok (.getfield 7, 3) := by decide +kernel
theorem dX6_returns_31 : decode cX6_returns 31 = .ok (.iconst 4, 1) := by decide +kernel
theorem dX6_returns_32 : decode cX6_returns 32 = .ok (.iaload, 1) := by decide +kernel
theorem dX6_returns_33 : decode cX6_returns 33 = .ok (.iload_n 2, 1) := by decide +kernel
theorem dX6_returns_34 : decode cX6_returns 34 = .ok (.iadd, 1) := by decide +kernel
theorem dX6_returns_35 : decode cX6_returns 35 = .ok (.ldc 39, 2) := by decide +kernel
theorem dX6_returns_37 : decode cX6_returns 37 = .ok (.iand, 1) := by decide +kernel
theorem dX6_returns_38 : decode cX6_returns 38 = .ok (.iastore, 1) := by decide +kernel
theorem dX6_returns_39 : decode cX6_returns 39 = .ok (.return_, 1) := by decide +kernel
theorem dX6_returnsAndMore_0 : decode cX6_returnsAndMore 0 = .ok (.aload_n 0, 1) := by decide +kernel
theorem dX6_returnsAndMore_1 : decode cX6_returnsAndMore 1 = .ok (.getfield 148, 3) := by decide +kernel
theorem dX6_returnsAndMore_4 : decode cX6_returnsAndMore 4 = .ok (.tableswitch 224 192 206 #[76, 88, 76, 88, 118, 118, 172, 172, 97, 109, 97, 109, 187, 195, 206], 76) := by decide +kernel
theorem dX6_returnsAndMore_80 : decode cX6_returnsAndMore 80 = .ok (.aload_n 0, 1) := by decide +kernel
theorem dX6_returnsAndMore_81 : decode cX6_returnsAndMore 81 = .ok (.iconst 0, 1) := by decide +kernel
theorem dX6_returnsAndMore_82 : decode cX6_returnsAndMore 82 = .ok (.aload_n 0, 1) := by decide +kernel
theorem dX6_returnsAndMore_83 : decode cX6_returnsAndMore 83 = .ok (.getfield 164, 3) := by decide +kernel
theorem dX6_returnsAndMore_86 : decode cX6_returnsAndMore 86 = .ok (.invokevirtual 229, 3) := by decide +kernel
theorem dX6_returnsAndMore_89 : decode cX6_returnsAndMore 89 = .ok (.goto 157, 3) := by decide +kernel
theorem dX6_returnsAndMore_92 : decode cX6_returnsAndMore 92 = .ok (.aload_n 0, 1) := by decide +kernel
theorem dX6_returnsAndMore_93 : decode cX6_returnsAndMore 93 = .ok (.iconst 0, 1) := by decide +kernel
theorem dX6_returnsAndMore_94 : decode cX6_returnsAndMore 94 = .ok (.iconst 0, 1) := by decide +kernel
theorem dX6_returnsAndMore_95 : decode cX6_returnsAndMore 95 = .ok (.invokevirtual 229, 3) := by decide +kernel
theorem dX6_returnsAndMore_98 : decode cX6_returnsAndMore 98 = .ok (.goto 148, 3) := by decide +kernel
theorem dX6_returnsAndMore_101 : decode cX6_returnsAndMore 101 = .ok (.aload_n 0, 1) := by decide +kernel
theorem dX6_returnsAndMore_102 : decode cX6_returnsAndMore 102 = .ok (.iconst 1, 1) := by decide +kernel
theorem dX6_returnsAndMore_103 : decode cX6_returnsAndMore 103 = .ok (.aload_n 0, 1) := by decide +kernel
theorem dX6_returnsAndMore_104 : decode cX6_returnsAndMore 104 = .ok (.getfield 164, 3) := by decide +kernel
theorem dX6_returnsAndMore_107 : decode cX6_returnsAndMore 107 = .ok (.invokevirtual 229, 3) := by decide +kernel
theorem dX6_returnsAndMore_110 : decode cX6_returnsAndMore 110 = .ok (.goto 136, 3) := by decide +kernel
theorem dX6_returnsAndMore_113 : decode cX6_returnsAndMore 113 = .ok (.aload_n 0, 1) := by decide +kernel
theorem dX6_returnsAndMore_114 : decode cX6_returnsAndMore 114 = .ok (.iconst 1, 1) := by decide +kernel
theorem dX6_returnsAndMore_115 : decode cX6_returnsAndMore 115 = .ok (.iconst 0, 1) := by decide +kernel
theorem dX6_returnsAndMore_116 : decode cX6_returnsAndMore 116 = .ok (.invokevirtual 229, 3) := by decide +kernel
theorem dX6_returnsAndMore_119 : decode cX6_returnsAndMore 119 = .ok (.goto 127, 3) := by decide +kernel
theorem dX6_returnsAndMore_122 : decode cX6_returnsAndMore 122 = .ok (.aload_n 0, 1) := by decide +kernel
theorem dX6_returnsAndMore_123 : decode cX6_returnsAndMore 123 = .ok (.iconst 1, 1) := by decide +kernel
theorem dX6_returnsAndMore_124 : decode cX6_returnsAndMore 124 = .ok (.invokevirtual 199, 3) := by decide +kernel
theorem dX6_returnsAndMore_127 : decode cX6_returnsAndMore 127 = .ok (.istore_n 1, 1) := by decide +kernel
theorem dX6_returnsAndMore_128 : decode cX6_returnsAndMore 128 = .ok (.aload_n 0, 1) := by decide +kernel
theorem dX6_returnsAndMore_129 : decode cX6_returnsAndMore 129 = .ok (.getfield 13, 3) := by decide +kernel
theorem dX6_returnsAndMore_132 : decode cX6_returnsAndMore 132 = .ok (.aload_n 0, 1) := by decide +kernel
theorem dX6_returnsAndMore_133 : decode cX6_returnsAndMore 133 = .ok (.getfield 148, 3) := by decide +kernel
theorem dX6_returnsAndMore_136 : decode cX6_returnsAndMore 136 = .ok (.sipush 196, 3) := by decide +kernel
theorem dX6_returnsAndMore_139 : decode cX6_returnsAndMore 139 = .ok (.if_icmp .ne 7, 3) := by decide +kernel
theorem dX6_returnsAndMore_142 : decode cX6_returnsAndMore 142 = .ok (.iconst 0, 1) := by decide +kernel
theorem dX6_returnsAndMore_143 : decode cX6_returnsAndMore 143 = .ok (.goto 4, 3) := by decide +kernel
theorem dX6_returnsAndMore_146 : decode cX6_returnsAndMore 146 = .ok (.iconst 3, 1) := by decide +kernel
theorem dX6_returnsAndMore_147 : decode cX6_returnsAndMore 147 = .ok (.aload_n 0, 1) := by decide +kernel
theorem dX6_returnsAndMore_148 : decode cX6_returnsAndMore 148 = .ok (.aload_n 0, 1) := by decide +kernel
theorem dX6_returnsAndMore_149 : decode cX6_returnsAndMore 149 = .ok (.getfield 145, 3) := by decide +kernel
theorem dX6_returnsAndMore_152 : decode cX6_returnsAndMore 152 = .ok (.aload_n 0, 1) := by decide +kernel
theorem dX6_returnsAndMore_153 : decode cX6_returnsAndMore 153 = .ok (.getfield 139, 3) := by decide +kernel
theorem dX6_returnsAndMore_156 : decode cX6_returnsAndMore 156 = .ok (.iconst 2, 1) := by decide +kernel
theorem dX6_returnsAndMore_157 : decode cX6_returnsAndMore 157 = .ok (.iadd, 1) := by decide +kernel
theorem dX6_returnsAndMore_158 : decode cX6_returnsAndMore 158 = .ok (.iconst 1, 1) := by decide +kernel
theorem dX6_returnsAndMore_159 : decode cX6_returnsAndMore 159 = .ok (.invokevirtual 61, 3) := by decide +kernel
theorem dX6_returnsAndMore_162 : decode cX6_returnsAndMore 162 = .ok (.iastore, 1) := by decide +kernel
theorem dX6_returnsAndMore_163 : decode cX6_returnsAndMore 163 = .ok (.aload_n 0, 1) := by decide +kernel
theorem dX6_returnsAndMore_164 : decode cX6_returnsAndMore 164 = .ok (.getfield 7, 3) := by decide +kernel
theorem dX6_returnsAndMore_167 : decode cX6_returnsAndMore 167 = .ok (.aload_n 0, 1) := by decide +kernel
theorem dX6_returnsAndMore_168 : decode cX6_returnsAndMore 168 = .ok (.getfield 130, 3) := by decide +kernel
theorem dX6_returnsAndMore_171 : decode cX6_returnsAndMore 171 = .ok (.iload_n 1, 1) := by decide +kernel
theorem dX6_returnsAndMore_172 : decode cX6_returnsAndMore 172 = .ok (.iastore, 1) := by decide +kernel
theorem dX6_returnsAndMore_173 : decode cX6_returnsAndMore 173 = .ok (.goto 73, 3) := by decide +kernel
theorem dX6_returnsAndMore_176 : decode cX6_returnsAndMore 176 = .ok (.aload_n 0, 1) := by decide +kernel
theorem dX6_returnsAndMore_177 : decode cX6_returnsAndMore 177 = .ok (.aload_n 0, 1) := by decide +kernel
theorem dX6_returnsAndMore_178 : decode cX6_returnsAndMore 178 = .ok (.invokevirtual 158, 3) := by decide +kernel
theorem dX6_returnsAndMore_181 : decode cX6_returnsAndMore 181 = .ok (.aload_n 0, 1) := by decide +kernel
theorem dX6_returnsAndMore_182 : decode cX6_returnsAndMore 182 = .ok (.getfield 164, 3) := by decide +kernel
theorem dX6_returnsAndMore_185 : decode cX6_returnsAndMore 185 = .ok (.invokevirtual 202, 3) := by decide +kernel
theorem dX6_returnsAndMore_188 : decode cX6_returnsAndMore 188 = .ok (.goto 58, 3) := by decide +kernel
theorem dX6_returnsAndMore_191 : decode cX6_returnsAndMore 191 = .ok (.aload_n 0, 1) := by decide +kernel
theorem dX6_returnsAndMore_192 : decode cX6_returnsAndMore 192 = .ok (.iconst 3, 1) := by decide +kernel
theorem dX6_returnsAndMore_193 : decode cX6_returnsAndMore 193 = .ok (.invokevirtual 232, 3) := by decide +kernel
theorem dX6_returnsAndMore_196 : decode cX6_returnsAndMore 196 = .ok (.goto 50, 3) := by decide +kernel
theorem dX6_returnsAndMore_199 : decode cX6_returnsAndMore 199 = .ok (.aload_n 0, 1) := by decide +kernel
theorem dX6_returnsAndMore_200 : decode cX6_returnsAndMore 200 = .ok (.aload_n 0, 1) := by decide +kernel
theorem dX6_returnsAndMore_201 : decode cX6_returnsAndMore 201 = .ok (.getfield 164, 3) := by decide +kernel
theorem dX6_returnsAndMore_204 : decode cX6_returnsAndMore 204 = .ok (.invokevirtual 232, 3) := by decide +kernel
theorem dX6_returnsAndMore_207 : decode cX6_returnsAndMore 207 = .ok (.goto 39, 3) := by decide +kernel
theorem dX6_returnsAndMore_210 : decode cX6_returnsAndMore 210 = .ok (.aload_n 0, 1) := by decide +kernel
theorem dX6_returnsAndMore_211 : decode cX6_returnsAndMore 211 = .ok (.sipush 2048, 3) := by decide +kernel
theorem dX6_returnsAndMore_214 : decode cX6_returnsAndMore 214 = .ok (.invokevirtual 97, 3) := by decide +kernel
theorem dX6_returnsAndMore_217 : decode cX6_returnsAndMore 217 = .ok (.ifCond .eq 29, 3) := by decide +kernel
theorem dX6_returnsAndMore_220 : decode cX6_returnsAndMore 220 = .ok (.aload_n 0, 1) := by decide +kernel
theorem dX6_returnsAndMore_221 : decode cX6_returnsAndMore 221 = .ok (.iconst 4, 1) := by decide +kernel
theorem dX6_returnsAndMore_222 : decode cX6_returnsAndMore 222 = .ok (.invokevirtual 232, 3) := by decide +kernel
theorem dX6_returnsAndMore_225 : decode cX6_returnsAndMore 225 = .ok (.goto 21, 3) := by decide +kernel
theorem dX6_returnsAndMore_228 : decode cX6_returnsAndMore 228 = .ok (.aload_n 0, 1) := by decide +kernel
theorem dX6_returnsAndMore_229 : decode cX6_returnsAndMore 229 = .ok (.iconst 1, 1) := by decide +kernel
theorem dX6_returnsAndMore_230 : decode cX6_returnsAndMore 230 = .ok (.iconst 0, 1) := by decide +kernel
theorem dX6_returnsAndMore_231 : decode cX6_returnsAndMore 231 = .ok (.invokevirtual 229, 3) := by decide +kernel
theorem dX6_returnsAndMore_234 : decode cX6_returnsAndMore 234 = .ok (.aload_n 0, 1) := by decide +kernel
theorem dX6_returnsAndMore_235 : decode cX6_returnsAndMore 235 = .ok (.aload_n 0, 1) := by decide +kernel
theorem dX6_returnsAndMore_236 : decode cX6_returnsAndMore 236 = .ok (.invokevirtual 206, 3) := by decide +kernel
theorem dX6_returnsAndMore_239 : decode cX6_returnsAndMore 239 = .ok (.sipush 4053, 3) := by decide +kernel
theorem dX6_returnsAndMore_242 : decode cX6_returnsAndMore 242 = .ok (.iand, 1) := by decide +kernel
theorem dX6_returnsAndMore_243 : decode cX6_returnsAndMore 243 = .ok (.putfield 54, 3) := by decide +kernel
theorem dX6_returnsAndMore_246 : decode cX6_returnsAndMore 246 = .ok (.return_, 1) := by decide +kernel
theorem dX6_shiftsAndMore_0 : decode cX6_shiftsAndMore 0 = .ok (.aload_n 0, 1) := by decide +kernel
theorem dX6_shiftsAndMore_1 : decode cX6_shiftsAndMore 1 = .ok (.invokevirtual 158, 3) := by decide +kernel
theorem dX6_shiftsAndMore_4 : decode cX6_shiftsAndMore 4 = .ok (.istore_n 1, 1) := by decide +kernel
theorem dX6_shiftsAndMore_5 : decode cX6_shiftsAndMore 5 = .ok (.aload_n 0, 1) := by decide +kernel
theorem dX6_shiftsAndMore_6 : decode cX6_shiftsAndMore 6 = .ok (.getfield 7, 3) := by decide +kernel
theorem dX6_shiftsAndMore_9 : decode cX6_shiftsAndMore 9 = .ok (.iconst 0, 1) := by decide +kernel
theorem dX6_shiftsAndMore_10 : decode cX6_shiftsAndMore 10 = .ok (.iaload, 1) := by decide +kernel
theorem dX6_shiftsAndMore_11 : decode cX6_shiftsAndMore 11 = .ok (.sipush 255, 3) := by decide +kernel
theorem dX6_shiftsAndMore_14 : decode cX6_shiftsAndMore 14 = .ok (.iand, 1) := by decide +kernel
theorem dX6_shiftsAndMore_15 : decode cX6_shiftsAndMore 15 = .ok (.istore_n 2, 1) := by decide +kernel
theorem dX6_shiftsAndMore_16 : decode cX6_shiftsAndMore 16 = .ok (.aload_n 0, 1) := by decide +kernel
theorem dX6_shiftsAndMore_17 : decode cX6_shiftsAndMore 17 = .ok (.getfield 148, 3) := by decide +kernel
theorem dX6_shiftsAndMore_20 : decode cX6_shiftsAndMore 20 = .ok (.sipush 212, 3) := by decide +kernel
theorem dX6_shiftsAndMore_23 : decode cX6_shiftsAndMore 23 = .ok (.if_icmp .ge 49, 3) := by decide +kernel
theorem dX6_shiftsAndMore_26 : decode cX6_shiftsAndMore 26 = .ok (.aload_n 0, 1) := by decide +kernel
theorem dX6_shiftsAndMore_27 : decode cX6_shiftsAndMore 27 = .ok (.iload_n 1, 1) := by decide +kernel
theorem dX6_shiftsAndMore_28 : decode cX6_shiftsAndMore 28 = .ok (.aload_n 0, 1) := by decide +kernel
theorem dX6_shiftsAndMore_29 : decode cX6_shiftsAndMore 29 = .ok (.aload_n 0, 1) := by decide +kernel
theorem dX6_shiftsAndMore_30 : decode cX6_shiftsAndMore 30 = .ok (.getfield 130, 3) := by decide +kernel
theorem dX6_shiftsAndMore_33 : decode cX6_shiftsAndMore 33 = .ok (.aload_n 0, 1) := by decide +kernel
theorem dX6_shiftsAndMore_34 : decode cX6_shiftsAndMore 34 = .ok (.iload_n 1, 1) := by decide +kernel
theorem dX6_shiftsAndMore_35 : decode cX6_shiftsAndMore 35 = .ok (.invokevirtual 199, 3) := by decide +kernel
theorem dX6_shiftsAndMore_38 : decode cX6_shiftsAndMore 38 = .ok (.aload_n 0, 1) := by decide +kernel
theorem dX6_shiftsAndMore_39 : decode cX6_shiftsAndMore 39 = .ok (.getfield 148, 3) := by decide +kernel
theorem dX6_shiftsAndMore_42 : decode cX6_shiftsAndMore 42 = .ok (.sipush 210, 3) := by decide +kernel
theorem dX6_shiftsAndMore_45 : decode cX6_shiftsAndMore 45 = .ok (.if_icmp .ge 7, 3) := by decide +kernel
theorem dX6_shiftsAndMore_48 : decode cX6_shiftsAndMore 48 = .ok (.iconst 1, 1) := by decide +kernel
theorem dX6_shiftsAndMore_49 : decode cX6_shiftsAndMore 49 = .ok (.goto 13, 3) := by decide +kernel
theorem dX6_shiftsAndMore_52 : decode cX6_shiftsAndMore 52 = .ok (.aload_n 0, 1) := by decide +kernel
theorem dX6_shiftsAndMore_53 : decode cX6_shiftsAndMore 53 = .ok (.getfield 7, 3) := by decide +kernel
theorem dX6_shiftsAndMore_56 : decode cX6_shiftsAndMore 56 = .ok (.iconst 1, 1) := by decide +kernel
theorem dX6_shiftsAndMore_57 : decode cX6_shiftsAndMore 57 = .ok (.iaload, 1) := by decide +kernel
theorem dX6_shiftsAndMore_58 : decode cX6_shiftsAndMore 58 = .ok (.sipush 255, 3) := by decide +kernel
theorem dX6_shiftsAndMore_61 : decode cX6_shiftsAndMore 61 = .ok (.iand, 1) := by decide +kernel
theorem dX6_shiftsAndMore_62 : decode cX6_shiftsAndMore 62 = .ok (.iload_n 1, 1) := by decide +kernel
theorem dX6_shiftsAndMore_63 : decode cX6_shiftsAndMore 63 = .ok (.invokevirtual 235, 3) := by decide +kernel
theorem dX6_shiftsAndMore_66 : decode cX6_shiftsAndMore 66 = .ok (.invokevirtual 202, 3) := by decide +kernel
theorem dX6_shiftsAndMore_69 : decode cX6_shiftsAndMore 69 = .ok (.goto 189, 3) := by decide +kernel
theorem dX6_shiftsAndMore_72 : decode cX6_shiftsAndMore 72 = .ok (.aload_n 0, 1) := by decide +kernel
theorem dX6_shiftsAndMore_73 : decode cX6_shiftsAndMore 73 = .ok (.getfield 148, 3) := by decide +kernel
theorem dX6_shiftsAndMore_76 : decode cX6_shiftsAndMore 76 = .ok (.sipush 212, 3) := by decide +kernel
theorem dX6_shiftsAndMore_79 : decode cX6_shiftsAndMore 79 = .ok (.if_icmp .ne 18, 3) := by decide +kernel
theorem dX6_shiftsAndMore_82 : decode cX6_shiftsAndMore 82 = .ok (.aload_n 0, 1) := by decide +kernel
theorem dX6_shiftsAndMore_83 : decode cX6_shiftsAndMore 83 = .ok (.getfield 164, 3) := by decide +kernel
theorem dX6_shiftsAndMore_86 : decode cX6_shiftsAndMore 86 = .ok (.ifCond .ne 11, 3) := by decide +kernel
theorem dX6_shiftsAndMore_89 : decode cX6_shiftsAndMore 89 = .ok (.aload_n 0, 1) := by decide +kernel
theorem dX6_shiftsAndMore_90 : decode cX6_shiftsAndMore 90 = .ok (.iconst 0, 1) := by decide +kernel
theorem dX6_shiftsAndMore_91 : decode cX6_shiftsAndMore 91 = .ok (.invokevirtual 232, 3) := by decide +kernel
theorem dX6_shiftsAndMore_94 : decode cX6_shiftsAndMore 94 = .ok (.goto 164, 3) := by decide +kernel
theorem dX6_shiftsAndMore_97 : decode cX6_shiftsAndMore 97 = .ok (.aload_n 0, 1) := by decide +kernel
theorem dX6_shiftsAndMore_98 : decode cX6_shiftsAndMore 98 = .ok (.getfield 148, 3) := by decide +kernel
theorem dX6_shiftsAndMore_101 : decode cX6_shiftsAndMore 101 = .ok (.sipush 212, 3) := by decide +kernel
theorem dX6_shiftsAndMore_104 : decode cX6_shiftsAndMore 104 = .ok (.if_icmp .ne 39, 3) := by decide +kernel
theorem dX6_shiftsAndMore_107 : decode cX6_shiftsAndMore 107 = .ok (.aload_n 0, 1) := by decide +kernel
theorem dX6_shiftsAndMore_108 : decode cX6_shiftsAndMore 108 = .ok (.getfield 7, 3) := by decide +kernel
theorem dX6_shiftsAndMore_111 : decode cX6_shiftsAndMore 111 = .ok (.iconst 0, 1) := by decide +kernel
theorem dX6_shiftsAndMore_112 : decode cX6_shiftsAndMore 112 = .ok (.iload_n 2, 1) := by decide +kernel
theorem dX6_shiftsAndMore_113 : decode cX6_shiftsAndMore 113 = .ok (.aload_n 0, 1) := by decide +kernel
theorem dX6_shiftsAndMore_114 : decode cX6_shiftsAndMore 114 = .ok (.getfield 164, 3) := by decide +kernel
theorem dX6_shiftsAndMore_117 : decode cX6_shiftsAndMore 117 = .ok (.irem, 1) := by decide +kernel
theorem dX6_shiftsAndMore_118 : decode cX6_shiftsAndMore 118 = .ok (.iload_n 2, 1) := by decide +kernel
theorem dX6_shiftsAndMore_119 : decode cX6_shiftsAndMore 119 = .ok (.aload_n 0, 1) := by decide +kernel
theorem dX6_shiftsAndMore_120 : decode cX6_shiftsAndMore 120 = .ok (.getfield 164, 3) := by decide +kernel
theorem dX6_shiftsAndMore_123 : decode cX6_shiftsAndMore 123 = .ok (.idiv, 1) := by decide +kernel
theorem dX6_shiftsAndMore_124 : decode cX6_shiftsAndMore 124 = .ok (.bipush 8, 2) := by decide +kernel
theorem dX6_shiftsAndMore_126 : decode cX6_shiftsAndMore 126 = .ok (.ishl, 1) := by decide +kernel
theorem dX6_shiftsAndMore_127 : decode cX6_shiftsAndMore 127 = .ok (.ior, 1) := by decide +kernel
theorem dX6_shiftsAndMore_128 : decode cX6_shiftsAndMore 128 = .ok (.iastore, 1) := by decide +kernel
theorem dX6_shiftsAndMore_129 : decode cX6_shiftsAndMore 129 = .ok (.aload_n 0, 1) := by decide +kernel
theorem dX6_shiftsAndMore_130 : decode cX6_shiftsAndMore 130 = .ok (.iload_n 2, 1) := by decide +kernel
theorem dX6_shiftsAndMore_131 : decode cX6_shiftsAndMore 131 = .ok (.aload_n 0, 1) := by decide +kernel
theorem dX6_shiftsAndMore_132 : decode cX6_shiftsAndMore 132 = .ok (.getfield 164, 3) := by decide +kernel
theorem dX6_shiftsAndMore_135 : decode cX6_shiftsAndMore 135 = .ok (.irem, 1) := by decide +kernel
theorem dX6_shiftsAndMore_136 : decode cX6_shiftsAndMore 136 = .ok (.iconst 0, 1) := by decide +kernel
theorem dX6_shiftsAndMore_137 : decode cX6_shiftsAndMore 137 = .ok (.invokevirtual 81, 3) := by decide +kernel
theorem dX6_shiftsAndMore_140 : decode cX6_shiftsAndMore 140 = .ok (.goto 118, 3) := by decide +kernel
theorem dX6_shiftsAndMore_143 : decode cX6_shiftsAndMore 143 = .ok (.aload_n 0, 1) := by decide +kernel
theorem dX6_shiftsAndMore_144 : decode cX6_shiftsAndMore 144 = .ok (.getfield 148, 3) := by decide +kernel
theorem dX6_shiftsAndMore_147 : decode cX6_shiftsAndMore 147 = .ok (.sipush 213, 3) := by decide +kernel
theorem dX6_shiftsAndMore_150 : decode cX6_shiftsAndMore 150 = .ok (.if_icmp .ne 40, 3) := by decide +kernel
theorem dX6_shiftsAndMore_153 : decode cX6_shiftsAndMore 153 = .ok (.aload_n 0, 1) := by decide +kernel
theorem dX6_shiftsAndMore_154 : decode cX6_shiftsAndMore 154 = .ok (.getfield 7, 3) := by decide +kernel
theorem dX6_shiftsAndMore_157 : decode cX6_shiftsAndMore 157 = .ok (.iconst 0, 1) := by decide +kernel
theorem dX6_shiftsAndMore_158 : decode cX6_shiftsAndMore 158 = .ok (.iaload, 1) := by decide +kernel
theorem dX6_shiftsAndMore_159 : decode cX6_shiftsAndMore 159 = .ok (.bipush 8, 2) := by decide +kernel
theorem dX6_shiftsAndMore_161 : decode cX6_shiftsAndMore 161 = .ok (.ishr, 1) := by decide +kernel
theorem dX6_shiftsAndMore_162 : decode cX6_shiftsAndMore 162 = .ok (.aload_n 0, 1) := by decide +kernel
theorem dX6_shiftsAndMore_163 : decode cX6_shiftsAndMore 163 = .ok (.getfield 164, 3) := by decide +kernel
theorem dX6_shiftsAndMore_166 : decode cX6_shiftsAndMore 166 = .ok (.imul, 1) := by decide +kernel
theorem dX6_shiftsAndMore_167 : decode cX6_shiftsAndMore 167 = .ok (.iload_n 2, 1) := by decide +kernel
theorem dX6_shiftsAndMore_168 : decode cX6_shiftsAndMore 168 = .ok (.iadd, 1) := by decide +kernel
theorem dX6_shiftsAndMore_169 : decode cX6_shiftsAndMore 169 = .ok (.sipush 255, 3) := by decide +kernel
theorem dX6_shiftsAndMore_172 : decode cX6_shiftsAndMore 172 = .ok (.iand, 1) := by decide +kernel
theorem dX6_shiftsAndMore_173 : decode cX6_shiftsAndMore 173 = .ok (.istore_n 3, 1) := by decide +kernel
theorem dX6_shiftsAndMore_174 : decode cX6_shiftsAndMore 174 = .ok (.aload_n 0, 1) := by decide +kernel
theorem dX6_shiftsAndMore_175 : decode cX6_shiftsAndMore 175 = .ok (.getfield 7, 3) := by decide +kernel
theorem dX6_shiftsAndMore_178 : decode cX6_shiftsAndMore 178 = .ok (.iconst 0, 1) := by decide +kernel
theorem dX6_shiftsAndMore_179 : decode cX6_shiftsAndMore 179 = .ok (.iload_n 3, 1) := by decide +kernel
theorem dX6_shiftsAndMore_180 : decode cX6_shiftsAndMore 180 = .ok (.iastore, 1) := by decide +kernel
theorem dX6_shiftsAndMore_181 : decode cX6_shiftsAndMore 181 = .ok (.aload_n 0, 1) := by decide +kernel
theorem dX6_shiftsAndMore_182 : decode cX6_shiftsAndMore 182 = .ok (.iload_n 3, 1) := by decide +kernel
theorem dX6_shiftsAndMore_183 : decode cX6_shiftsAndMore 183 = .ok (.iconst 0, 1) := by decide +kernel
theorem dX6_shiftsAndMore_184 : decode cX6_shiftsAndMore 184 = .ok (.invokevirtual 81, 3) := by decide +kernel
theorem dX6_shiftsAndMore_187 : decode cX6_shiftsAndMore 187 = .ok (.goto 71, 3) := by decide +kernel
theorem dX6_shiftsAndMore_190 : decode cX6_shiftsAndMore 190 = .ok (.aload_n 0, 1) := by decide +kernel
theorem dX6_shiftsAndMore_191 : decode cX6_shiftsAndMore 191 = .ok (.getfield 148, 3) := by decide +kernel
theorem dX6_shiftsAndMore_194 : decode cX6_shiftsAndMore 194 = .ok (.sipush 214, 3) := by decide +kernel
theorem dX6_shiftsAndMore_197 : decode cX6_shiftsAndMore 197 = .ok (.if_icmp .ne 27, 3) := by decide +kernel
theorem dX6_shiftsAndMore_200 : decode cX6_shiftsAndMore 200 = .ok (.aload_n 0, 1) := by decide +kernel
theorem dX6_shiftsAndMore_201 : decode cX6_shiftsAndMore 201 = .ok (.iconst 0, 1) := by decide +kernel
theorem dX6_shiftsAndMore_202 : decode cX6_shiftsAndMore 202 = .ok (.iconst 0, 1) := by decide +kernel
theorem dX6_shiftsAndMore_203 : decode cX6_shiftsAndMore 203 = .ok (.aload_n 0, 1) := by decide +kernel
theorem dX6_shiftsAndMore_204 : decode cX6_shiftsAndMore 204 = .ok (.iconst 1, 1) := by decide +kernel
theorem dX6_shiftsAndMore_205 : decode cX6_shiftsAndMore 205 = .ok (.invokevirtual 97, 3) := by decide +kernel
theorem dX6_shiftsAndMore_208 : decode cX6_shiftsAndMore 208 = .ok (.ifCond .eq 9, 3) := by decide +kernel
theorem dX6_shiftsAndMore_211 : decode cX6_shiftsAndMore 211 = .ok (.sipush 255, 3) := by decide +kernel
theorem dX6_shiftsAndMore_214 : decode cX6_shiftsAndMore 214 = .ok (.goto 4, 3) := by decide +kernel
theorem dX6_shiftsAndMore_217 : decode cX6_shiftsAndMore 217 = .ok (.iconst 0, 1) := by decide +kernel
theorem dX6_shiftsAndMore_218 : decode cX6_shiftsAndMore 218 = .ok (.invokevirtual 101, 3) := by decide +kernel
theorem dX6_shiftsAndMore_221 : decode cX6_shiftsAndMore 221 = .ok (.goto 37, 3) := by decide +kernel
theorem dX6_shiftsAndMore_224 : decode cX6_shiftsAndMore 224 = .ok (.aload_n 0, 1) := by decide +kernel
theorem dX6_shiftsAndMore_225 : decode cX6_shiftsAndMore 225 = .ok (.getfield 148, 3) := by decide +kernel
theorem dX6_shiftsAndMore_228 : decode cX6_shiftsAndMore 228 = .ok (.sipush 215, 3) := by decide +kernel
theorem dX6_shiftsAndMore_231 : decode cX6_shiftsAndMore 231 = .ok (.if_icmp .ne 27, 3) := by decide +kernel
theorem dX6_shiftsAndMore_234 : decode cX6_shiftsAndMore 234 = .ok (.aload_n 0, 1) := by decide +kernel
theorem dX6_shiftsAndMore_235 : decode cX6_shiftsAndMore 235 = .ok (.iconst 0, 1) := by decide +kernel
theorem dX6_shiftsAndMore_236 : decode cX6_shiftsAndMore 236 = .ok (.iconst 0, 1) := by decide +kernel
theorem dX6_shiftsAndMore_237 : decode cX6_shiftsAndMore 237 = .ok (.aload_n 0, 1) := by decide +kernel
theorem dX6_shiftsAndMore_238 : decode cX6_shiftsAndMore 238 = .ok (.aload_n 0, 1) := by decide +kernel
theorem dX6_shiftsAndMore_239 : decode cX6_shiftsAndMore 239 = .ok (.iconst 3, 1) := by decide +kernel
theorem dX6_shiftsAndMore_240 : decode cX6_shiftsAndMore 240 = .ok (.invokevirtual 142, 3) := by decide +kernel
theorem dX6_shiftsAndMore_243 : decode cX6_shiftsAndMore 243 = .ok (.aload_n 0, 1) := by decide +kernel
theorem dX6_shiftsAndMore_244 : decode cX6_shiftsAndMore 244 = .ok (.getfield 7, 3) := by decide +kernel
theorem dX6_shiftsAndMore_247 : decode cX6_shiftsAndMore 247 = .ok (.iconst 3, 1) := by decide +kernel
theorem dX6_shiftsAndMore_248 : decode cX6_shiftsAndMore 248 = .ok (.iaload, 1) := by decide +kernel
theorem dX6_shiftsAndMore_249 : decode cX6_shiftsAndMore 249 = .ok (.iload_n 2, 1) := by decide +kernel
theorem dX6_shiftsAndMore_250 : decode cX6_shiftsAndMore 250 = .ok (.iadd, 1) := by decide +kernel
theorem dX6_shiftsAndMore_251 : decode cX6_shiftsAndMore 251 = .ok (.iconst 0, 1) := by decide +kernel
theorem dX6_shiftsAndMore_252 : decode cX6_shiftsAndMore 252 = .ok (.invokevirtual 61, 3) := by decide +kernel
theorem dX6_shiftsAndMore_255 : decode cX6_shiftsAndMore 255 = .ok (.invokevirtual 101, 3) := by decide +kernel
theorem dX6_shiftsAndMore_258 : decode cX6_shiftsAndMore 258 = .ok (.return_, 1) := by decide +kernel
theorem dX6_inPort_0 : decode cX6_inPort 0 = .ok (.iload_n 2, 1) := by decide +kernel
theorem dX6_inPort_1 : decode cX6_inPort 1 = .ok (.ifCond .eq 32, 3) := by decide +kernel
theorem dX6_inPort_4 : decode cX6_inPort 4 = .ok (.aload_n 0, 1) := by decide +kernel
theorem dX6_inPort_5 : decode cX6_inPort 5 = .ok (.getfield 23, 3) := by decide +kernel
theorem dX6_inPort_8 : decode cX6_inPort 8 = .ok (.iload_n 1, 1) := by decide +kernel
theorem dX6_inPort_9 : decode cX6_inPort 9 = .ok (.sipush 255, 3) := by decide +kernel
theorem dX6_inPort_12 : decode cX6_inPort 12 = .ok (.iand, 1) := by decide +kernel
theorem dX6_inPort_13 : decode cX6_inPort 13 = .ok (.iaload, 1) := by decide +kernel
theorem dX6_inPort_14 : decode cX6_inPort 14 = .ok (.aload_n 0, 1) := by decide +kernel
theorem dX6_inPort_15 : decode cX6_inPort 15 = .ok (.getfield 23, 3) := by decide +kernel
theorem dX6_inPort_18 : decode cX6_inPort 18 = .ok (.iload_n 1, 1) := by decide +kernel
theorem dX6_inPort_19 : decode cX6_inPort 19 = .ok (.iconst 1, 1) := by decide +kernel
theorem dX6_inPort_20 : decode cX6_inPort 20 = .ok (.iadd, 1) := by decide +kernel
theorem dX6_inPort_21 : decode cX6_inPort 21 = .ok (.sipush 255, 3) := by decide +kernel
theorem dX6_inPort_24 : decode cX6_inPort 24 = .ok (.iand, 1) := by decide +kernel
theorem dX6_inPort_25 : decode cX6_inPort 25 = .ok (.iaload, 1) := by decide +kernel
theorem dX6_inPort_26 : decode cX6_inPort 26 = .ok (.bipush 8, 2) := by decide +kernel
theorem dX6_inPort_28 : decode cX6_inPort 28 = .ok (.ishl, 1) := by decide +kernel
theorem dX6_inPort_29 : decode cX6_inPort 29 = .ok (.ior, 1) := by decide +kernel
theorem dX6_inPort_30 : decode cX6_inPort 30 = .ok (.goto 13, 3) := by decide +kernel
theorem dX6_inPort_33 : decode cX6_inPort 33 = .ok (.aload_n 0, 1) := by decide +kernel
theorem dX6_inPort_34 : decode cX6_inPort 34 = .ok (.getfield 23, 3) := by decide +kernel
theorem dX6_inPort_37 : decode cX6_inPort 37 = .ok (.iload_n 1, 1) := by decide +kernel
theorem dX6_inPort_38 : decode cX6_inPort 38 = .ok (.sipush 255, 3) := by decide +kernel
theorem dX6_inPort_41 : decode cX6_inPort 41 = .ok (.iand, 1) := by decide +kernel
theorem dX6_inPort_42 : decode cX6_inPort 42 = .ok (.iaload, 1) := by decide +kernel
theorem dX6_inPort_43 : decode cX6_inPort 43 = .ok (.ireturn, 1) := by decide +kernel
theorem dX6_outPort_0 : decode cX6_outPort 0 = .ok (.aload_n 0, 1) := by decide +kernel
theorem dX6_outPort_1 : decode cX6_outPort 1 = .ok (.getfield 23, 3) := by decide +kernel
theorem dX6_outPort_4 : decode cX6_outPort 4 = .ok (.iload_n 1, 1) := by decide +kernel
theorem dX6_outPort_5 : decode cX6_outPort 5 = .ok (.sipush 255, 3) := by decide +kernel
theorem dX6_outPort_8 : decode cX6_outPort 8 = .ok (.iand, 1) := by decide +kernel
theorem dX6_outPort_9 : decode cX6_outPort 9 = .ok (.aload_n 0, 1) := by decide +kernel
theorem dX6_outPort_10 : decode cX6_outPort 10 = .ok (.getfield 7, 3) := by decide +kernel
theorem dX6_outPort_13 : decode cX6_outPort 13 = .ok (.iconst 0, 1) := by decide +kernel
theorem dX6_outPort_14 : decode cX6_outPort 14 = .ok (.iaload, 1) := by decide +kernel
theorem dX6_outPort_15 : decode cX6_outPort 15 = .ok (.sipush 255, 3) := by decide +kernel
theorem dX6_outPort_18 : decode cX6_outPort 18 = .ok (.iand, 1) := by decide +kernel
theorem dX6_outPort_19 : decode cX6_outPort 19 = .ok (.iastore, 1) := by decide +kernel
theorem dX6_outPort_20 : decode cX6_outPort 20 = .ok (.iload_n 2, 1) := by decide +kernel
theorem dX6_outPort_21 : decode cX6_outPort 21 = .ok (.ifCond .eq 24, 3) := by decide +kernel
theorem dX6_outPort_24 : decode cX6_outPort 24 = .ok (.aload_n 0, 1) := by decide +kernel
theorem dX6_outPort_25 : decode cX6_outPort 25 = .ok (.getfield 23, 3) := by decide +kernel
theorem dX6_outPort_28 : decode cX6_outPort 28 = .ok (.iload_n 1, 1) := by decide +kernel
theorem dX6_outPort_29 : decode cX6_outPort 29 = .ok (.iconst 1, 1) := by decide +kernel
theorem dX6_outPort_30 : decode cX6_outPort 30 = .ok (.iadd, 1) := by decide +kernel
theorem dX6_outPort_31 : decode cX6_outPort 31 = .ok (.sipush 255, 3) := by decide +kernel
theorem dX6_outPort_34 : decode cX6_outPort 34 = .ok (.iand, 1) := by decide +kernel
theorem dX6_outPort_35 : decode cX6_outPort 35 = .ok (.aload_n 0, 1) := by decide +kernel
theorem dX6_outPort_36 : decode cX6_outPort 36 = .ok (.getfield 7, 3) := by decide +kernel
theorem dX6_outPort_39 : decode cX6_outPort 39 = .ok (.iconst 0, 1) := by decide +kernel
theorem dX6_outPort_40 : decode cX6_outPort 40 = .ok (.iaload, 1) := by decide +kernel
theorem dX6_outPort_41 : decode cX6_outPort 41 = .ok (.bipush 8, 2) := by decide +kernel
theorem dX6_outPort_43 : decode cX6_outPort 43 = .ok (.ishr, 1) := by decide +kernel
theorem dX6_outPort_44 : decode cX6_outPort 44 = .ok (.iastore, 1) := by decide +kernel
theorem dX6_outPort_45 : decode cX6_outPort 45 = .ok (.return_, 1) := by decide +kernel
theorem dX6_loopsAndPorts_0 : decode cX6_loopsAndPorts 0 = .ok (.aload_n 0, 1) := by decide +kernel
theorem dX6_loopsAndPorts_1 : decode cX6_loopsAndPorts 1 = .ok (.invokevirtual 158, 3) := by decide +kernel
theorem dX6_loopsAndPorts_4 : decode cX6_loopsAndPorts 4 = .ok (.istore_n 1, 1) := by decide +kernel
theorem dX6_loopsAndPorts_5 : decode cX6_loopsAndPorts 5 = .ok (.aload_n 0, 1) := by decide +kernel
theorem dX6_loopsAndPorts_6 : decode cX6_loopsAndPorts 6 = .ok (.getfield 148, 3) := by decide +kernel
theorem dX6_loopsAndPorts_9 : decode cX6_loopsAndPorts 9 = .ok (.sipush 232, 3) := by decide +kernel
theorem dX6_loopsAndPorts_12 : decode cX6_loopsAndPorts 12 = .ok (.if_icmp .ge 10, 3) := by decide +kernel
theorem dX6_loopsAndPorts_15 : decode cX6_loopsAndPorts 15 = .ok (.aload_n 0, 1) := by decide +kernel
theorem dX6_loopsAndPorts_16 : decode cX6_loopsAndPorts 16 = .ok (.getfield 164, 3) := by decide +kernel
theorem dX6_loopsAndPorts_19 : decode cX6_loopsAndPorts 19 = .ok (.goto 9, 3) := by decide +kernel
theorem dX6_loopsAndPorts_22 : decode cX6_loopsAndPorts 22 = .ok (.aload_n 0, 1) := by decide +kernel
theorem dX6_loopsAndPorts_23 : decode cX6_loopsAndPorts 23 = .ok (.getfield 7, 3) := by decide +kernel
theorem dX6_loopsAndPorts_26 : decode cX6_loopsAndPorts 26 = .ok (.iconst 2, 1) := by decide +kernel
theorem dX6_loopsAndPorts_27 : decode cX6_loopsAndPorts 27 = .ok (.iaload, 1) := by decide +kernel
theorem dX6_loopsAndPorts_28 : decode cX6_loopsAndPorts 28 = .ok (.istore_n 2, 1) := by decide +kernel
theorem dX6_loopsAndPorts_29 : decode cX6_loopsAndPorts 29 = .ok (.aload_n 0, 1) := by decide +kernel
theorem dX6_loopsAndPorts_30 : decode cX6_loopsAndPorts 30 = .ok (.getfield 148, 3) := by decide +kernel
theorem dX6_loopsAndPorts_33 : decode cX6_loopsAndPorts 33 = .ok (.sipush 227, 3) := by decide +kernel
theorem dX6_loopsAndPorts_36 : decode cX6_loopsAndPorts 36 = .ok (.if_icmp .ge 88, 3) := by decide +kernel
theorem dX6_loopsAndPorts_39 : decode cX6_loopsAndPorts 39 = .ok (.aload_n 0, 1) := by decide +kernel
theorem dX6_loopsAndPorts_40 : decode cX6_loopsAndPorts 40 = .ok (.getfield 7, 3) := by decide +kernel
theorem dX6_loopsAndPorts_43 : decode cX6_loopsAndPorts 43 = .ok (.iconst 1, 1) := by decide +kernel
theorem dX6_loopsAndPorts_44 : decode cX6_loopsAndPorts 44 = .ok (.aload_n 0, 1) := by decide +kernel
theorem dX6_loopsAndPorts_45 : decode cX6_loopsAndPorts 45 = .ok (.getfield 7, 3) := by decide +kernel
theorem dX6_loopsAndPorts_48 : decode cX6_loopsAndPorts 48 = .ok (.iconst 1, 1) := by decide +kernel
theorem dX6_loopsAndPorts_49 : decode cX6_loopsAndPorts 49 = .ok (.iaload, 1) := by decide +kernel
theorem dX6_loopsAndPorts_50 : decode cX6_loopsAndPorts 50 = .ok (.iconst 1, 1) := by decide +kernel
theorem dX6_loopsAndPorts_51 : decode cX6_loopsAndPorts 51 = .ok (.isub, 1) := by decide +kernel
theorem dX6_loopsAndPorts_52 : decode cX6_loopsAndPorts 52 = .ok (.ldc 39, 2) := by decide +kernel
theorem dX6_loopsAndPorts_54 : decode cX6_loopsAndPorts 54 = .ok (.iand, 1) := by decide +kernel
theorem dX6_loopsAndPorts_55 : decode cX6_loopsAndPorts 55 = .ok (.iastore, 1) := by decide +kernel
theorem dX6_loopsAndPorts_56 : decode cX6_loopsAndPorts 56 = .ok (.aload_n 0, 1) := by decide +kernel
theorem dX6_loopsAndPorts_57 : decode cX6_loopsAndPorts 57 = .ok (.getfield 148, 3) := by decide +kernel
theorem dX6_loopsAndPorts_60 : decode cX6_loopsAndPorts 60 = .ok (.sipush 226, 3) := by decide +kernel
theorem dX6_loopsAndPorts_63 : decode cX6_loopsAndPorts 63 = .ok (.if_icmp .eq 27, 3) := by decide +kernel
theorem dX6_loopsAndPorts_66 : decode cX6_loopsAndPorts 66 = .ok (.aload_n 0, 1) := by decide +kernel
theorem dX6_loopsAndPorts_67 : decode cX6_loopsAndPorts 67 = .ok (.bipush 64, 2) := by decide +kernel
theorem dX6_loopsAndPorts_69 : decode cX6_loopsAndPorts 69 = .ok (.invokevirtual 97, 3) := by decide +kernel
theorem dX6_loopsAndPorts_72 : decode cX6_loopsAndPorts 72 = .ok (.aload_n 0, 1) := by decide +kernel
theorem dX6_loopsAndPorts_73 : decode cX6_loopsAndPorts 73 = .ok (.getfield 148, 3) := by decide +kernel
theorem dX6_loopsAndPorts_76 : decode cX6_loopsAndPorts 76 = .ok (.sipush 225, 3) := by decide +kernel
theorem dX6_loopsAndPorts_79 : decode cX6_loopsAndPorts 79 = .ok (.if_icmp .ne 7, 3) := by decide +kernel
theorem dX6_loopsAndPorts_82 : decode cX6_loopsAndPorts 82 = .ok (.iconst 1, 1) := by decide +kernel
theorem dX6_loopsAndPorts_83 : decode cX6_loopsAndPorts 83 = .ok (.goto 4, 3) := by decide +kernel
theorem dX6_loopsAndPorts_86 : decode cX6_loopsAndPorts 86 = .ok (.iconst 0, 1) := by decide +kernel
theorem dX6_loopsAndPorts_87 : decode cX6_loopsAndPorts 87 = .ok (.if_icmp .ne 7, 3) := by decide +kernel
theorem dX6_loopsAndPorts_90 : decode cX6_loopsAndPorts 90 = .ok (.iconst 1, 1) := by decide +kernel
theorem dX6_loopsAndPorts_91 : decode cX6_loopsAndPorts 91 = .ok (.goto 4, 3) := by decide +kernel
theorem dX6_loopsAndPorts_94 : decode cX6_loopsAndPorts 94 = .ok (.iconst 0, 1) := by decide +kernel
theorem dX6_loopsAndPorts_95 : decode cX6_loopsAndPorts 95 = .ok (.istore_n 3, 1) := by decide +kernel
theorem dX6_loopsAndPorts_96 : decode cX6_loopsAndPorts 96 = .ok (.aload_n 0, 1) := by decide +kernel
theorem dX6_loopsAndPorts_97 : decode cX6_loopsAndPorts 97 = .ok (.aload_n 0, 1) := by decide +kernel
theorem dX6_loopsAndPorts_98 : decode cX6_loopsAndPorts 98 = .ok (.getfield 7, 3) := by decide +kernel
theorem dX6_loopsAndPorts_101 : decode cX6_loopsAndPorts 101 = .ok (.iconst 1, 1) := by decide +kernel
theorem dX6_loopsAndPorts_102 : decode cX6_loopsAndPorts 102 = .ok (.iaload, 1) := by decide +kernel
theorem dX6_loopsAndPorts_103 : decode cX6_loopsAndPorts 103 = .ok (.ifCond .eq 14, 3) := by decide +kernel
theorem dX6_loopsAndPorts_106 : decode cX6_loopsAndPorts 106 = .ok (.iload_n 3, 1) := by decide +kernel
theorem dX6_loopsAndPorts_107 : decode cX6_loopsAndPorts 107 = .ok (.ifCond .eq 10, 3) := by decide +kernel
theorem dX6_loopsAndPorts_110 : decode cX6_loopsAndPorts 110 = .ok (.aload_n 0, 1) := by decide +kernel
theorem dX6_loopsAndPorts_111 : decode cX6_loopsAndPorts 111 = .ok (.getfield 164, 3) := by decide +kernel
theorem dX6_loopsAndPorts_114 : decode cX6_loopsAndPorts 114 = .ok (.goto 4, 3) := by decide +kernel
theorem dX6_loopsAndPorts_117 : decode cX6_loopsAndPorts 117 = .ok (.iconst 0, 1) := by decide +kernel
theorem dX6_loopsAndPorts_118 : decode cX6_loopsAndPorts 118 = .ok (.invokevirtual 238, 3) := by decide +kernel
theorem dX6_loopsAndPorts_121 : decode cX6_loopsAndPorts 121 = .ok (.goto 168, 3) := by decide +kernel
theorem dX6_loopsAndPorts_124 : decode cX6_loopsAndPorts 124 = .ok (.aload_n 0, 1) := by decide +kernel
theorem dX6_loopsAndPorts_125 : decode cX6_loopsAndPorts 125 = .ok (.getfield 148, 3) := by decide +kernel
theorem dX6_loopsAndPorts_128 : decode cX6_loopsAndPorts 128 = .ok (.sipush 227, 3) := by decide +kernel
theorem dX6_loopsAndPorts_131 : decode cX6_loopsAndPorts 131 = .ok (.if_icmp .ne 27, 3) := by decide +kernel
theorem dX6_loopsAndPorts_134 : decode cX6_loopsAndPorts 134 = .ok (.aload_n 0, 1) := by decide +kernel
theorem dX6_loopsAndPorts_135 : decode cX6_loopsAndPorts 135 = .ok (.aload_n 0, 1) := by decide +kernel
theorem dX6_loopsAndPorts_136 : decode cX6_loopsAndPorts 136 = .ok (.getfield 7, 3) := by decide +kernel
theorem dX6_loopsAndPorts_139 : decode cX6_loopsAndPorts 139 = .ok (.iconst 1, 1) := by decide +kernel
theorem dX6_loopsAndPorts_140 : decode cX6_loopsAndPorts 140 = .ok (.iaload, 1) := by decide +kernel
theorem dX6_loopsAndPorts_141 : decode cX6_loopsAndPorts 141 = .ok (.ifCond .ne 10, 3) := by decide +kernel
theorem dX6_loopsAndPorts_144 : decode cX6_loopsAndPorts 144 = .ok (.aload_n 0, 1) := by decide +kernel
theorem dX6_loopsAndPorts_145 : decode cX6_loopsAndPorts 145 = .ok (.getfield 164, 3) := by decide +kernel
theorem dX6_loopsAndPorts_148 : decode cX6_loopsAndPorts 148 = .ok (.goto 4, 3) := by decide +kernel
theorem dX6_loopsAndPorts_151 : decode cX6_loopsAndPorts 151 = .ok (.iconst 0, 1) := by decide +kernel
theorem dX6_loopsAndPorts_152 : decode cX6_loopsAndPorts 152 = .ok (.invokevirtual 238, 3) := by decide +kernel
theorem dX6_loopsAndPorts_155 : decode cX6_loopsAndPorts 155 = .ok (.goto 134, 3) := by decide +kernel
theorem dX6_loopsAndPorts_158 : decode cX6_loopsAndPorts 158 = .ok (.aload_n 0, 1) := by decide +kernel
theorem dX6_loopsAndPorts_159 : decode cX6_loopsAndPorts 159 = .ok (.getfield 148, 3) := by decide +kernel
theorem dX6_loopsAndPorts_162 : decode cX6_loopsAndPorts 162 = .ok (.sipush 230, 3) := by decide +kernel
theorem dX6_loopsAndPorts_165 : decode cX6_loopsAndPorts 165 = .ok (.if_icmp .lt 23, 3) := by decide +kernel
theorem dX6_loopsAndPorts_168 : decode cX6_loopsAndPorts 168 = .ok (.aload_n 0, 1) := by decide +kernel
theorem dX6_loopsAndPorts_169 : decode cX6_loopsAndPorts 169 = .ok (.getfield 148, 3) := by decide +kernel
theorem dX6_loopsAndPorts_172 : decode cX6_loopsAndPorts 172 = .ok (.sipush 236, 3) := by decide +kernel
theorem dX6_loopsAndPorts_175 : decode cX6_loopsAndPorts 175 = .ok (.if_icmp .eq 13, 3) := by decide +kernel
theorem dX6_loopsAndPorts_178 : decode cX6_loopsAndPorts 178 = .ok (.aload_n 0, 1) := by decide +kernel
theorem dX6_loopsAndPorts_179 : decode cX6_loopsAndPorts 179 = .ok (.getfield 148, 3) := by decide +kernel
theorem dX6_loopsAndPorts_182 : decode cX6_loopsAndPorts 182 = .ok (.sipush 237, 3) := by decide +kernel
theorem dX6_loopsAndPorts_185 : decode cX6_loopsAndPorts 185 = .ok (.if_icmp .ne 18, 3) := by decide +kernel
theorem dX6_loopsAndPorts_188 : decode cX6_loopsAndPorts 188 = .ok (.aload_n 0, 1) := by decide +kernel
theorem dX6_loopsAndPorts_189 : decode cX6_loopsAndPorts 189 = .ok (.iconst 0, 1) := by decide +kernel
theorem dX6_loopsAndPorts_190 : decode cX6_loopsAndPorts 190 = .ok (.iload_n 1, 1) := by decide +kernel
theorem dX6_loopsAndPorts_191 : decode cX6_loopsAndPorts 191 = .ok (.aload_n 0, 1) := by decide +kernel
theorem dX6_loopsAndPorts_192 : decode cX6_loopsAndPorts 192 = .ok (.iload_n 2, 1) := by decide +kernel
theorem dX6_loopsAndPorts_193 : decode cX6_loopsAndPorts 193 = .ok (.iload_n 1, 1) := by decide +kernel
theorem dX6_loopsAndPorts_194 : decode cX6_loopsAndPorts 194 = .ok (.invokevirtual 241, 3) := by decide +kernel
theorem dX6_loopsAndPorts_197 : decode cX6_loopsAndPorts 197 = .ok (.invokevirtual 101, 3) := by decide +kernel
theorem dX6_loopsAndPorts_200 : decode cX6_loopsAndPorts 200 = .ok (.goto 89, 3) := by decide +kernel
theorem dX6_loopsAndPorts_203 : decode cX6_loopsAndPorts 203 = .ok (.aload_n 0, 1) := by decide +kernel
theorem dX6_loopsAndPorts_204 : decode cX6_loopsAndPorts 204 = .ok (.getfield 148, 3) := by decide +kernel
theorem dX6_loopsAndPorts_207 : decode cX6_loopsAndPorts 207 = .ok (.sipush 232, 3) := by decide +kernel
theorem dX6_loopsAndPorts_210 : decode cX6_loopsAndPorts 210 = .ok (.if_icmp .lt 13, 3) := by decide +kernel
theorem dX6_loopsAndPorts_213 : decode cX6_loopsAndPorts 213 = .ok (.aload_n 0, 1) := by decide +kernel
theorem dX6_loopsAndPorts_214 : decode cX6_loopsAndPorts 214 = .ok (.getfield 148, 3) := by decide +kernel
theorem dX6_loopsAndPorts_217 : decode cX6_loopsAndPorts 217 = .ok (.sipush 237, 3) := by decide +kernel
theorem dX6_loopsAndPorts_220 : decode cX6_loopsAndPorts 220 = .ok (.if_icmp .le 12, 3) := by decide +kernel
theorem dX6_loopsAndPorts_223 : decode cX6_loopsAndPorts 223 = .ok (.aload_n 0, 1) := by decide +kernel
theorem dX6_loopsAndPorts_224 : decode cX6_loopsAndPorts 224 = .ok (.iload_n 2, 1) := by decide +kernel
theorem dX6_loopsAndPorts_225 : decode cX6_loopsAndPorts 225 = .ok (.iload_n 1, 1) := by decide +kernel
theorem dX6_loopsAndPorts_226 : decode cX6_loopsAndPorts 226 = .ok (.invokevirtual 244, 3) := by decide +kernel
theorem dX6_loopsAndPorts_229 : decode cX6_loopsAndPorts 229 = .ok (.goto 60, 3) := by decide +kernel
theorem dX6_loopsAndPorts_232 : decode cX6_loopsAndPorts 232 = .ok (.aload_n 0, 1) := by decide +kernel
theorem dX6_loopsAndPorts_233 : decode cX6_loopsAndPorts 233 = .ok (.getfield 148, 3) := by decide +kernel
theorem dX6_loopsAndPorts_236 : decode cX6_loopsAndPorts 236 = .ok (.sipush 234, 3) := by decide +kernel
theorem dX6_loopsAndPorts_239 : decode cX6_loopsAndPorts 239 = .ok (.if_icmp .ne 24, 3) := by decide +kernel
theorem dX6_loopsAndPorts_242 : decode cX6_loopsAndPorts 242 = .ok (.aload_n 0, 1) := by decide +kernel
theorem dX6_loopsAndPorts_243 : decode cX6_loopsAndPorts 243 = .ok (.aload_n 0, 1) := by decide +kernel
theorem dX6_loopsAndPorts_244 : decode cX6_loopsAndPorts 244 = .ok (.getfield 164, 3) := by decide +kernel
theorem dX6_loopsAndPorts_247 : decode cX6_loopsAndPorts 247 = .ok (.putfield 170, 3) := by decide +kernel
theorem dX6_loopsAndPorts_250 : decode cX6_loopsAndPorts 250 = .ok (.aload_n 0, 1) := by decide +kernel
theorem dX6_loopsAndPorts_251 : decode cX6_loopsAndPorts 251 = .ok (.getfield 13, 3) := by decide +kernel
theorem dX6_loopsAndPorts_254 : decode cX6_loopsAndPorts 254 = .ok (.iconst 1, 1) := by decide +kernel
theorem dX6_loopsAndPorts_255 : decode cX6_loopsAndPorts 255 = .ok (.aload_n 0, 1) := by decide +kernel
theorem dX6_loopsAndPorts_256 : decode cX6_loopsAndPorts 256 = .ok (.getfield 167, 3) := by decide +kernel
theorem dX6_loopsAndPorts_259 : decode cX6_loopsAndPorts 259 = .ok (.iastore, 1) := by decide +kernel
theorem dX6_loopsAndPorts_260 : decode cX6_loopsAndPorts 260 = .ok (.goto 29, 3) := by decide +kernel
theorem dX6_loopsAndPorts_263 : decode cX6_loopsAndPorts 263 = .ok (.aload_n 0, 1) := by decide +kernel
theorem dX6_loopsAndPorts_264 : decode cX6_loopsAndPorts 264 = .ok (.getfield 148, 3) := by decide +kernel
theorem dX6_loopsAndPorts_267 : decode cX6_loopsAndPorts 267 = .ok (.sipush 232, 3) := by decide +kernel
theorem dX6_loopsAndPorts_270 : decode cX6_loopsAndPorts 270 = .ok (.if_icmp .ne 11, 3) := by decide +kernel
theorem dX6_loopsAndPorts_273 : decode cX6_loopsAndPorts 273 = .ok (.aload_n 0, 1) := by decide +kernel
theorem dX6_loopsAndPorts_274 : decode cX6_loopsAndPorts 274 = .ok (.aload_n 0, 1) := by decide +kernel
theorem dX6_loopsAndPorts_275 : decode cX6_loopsAndPorts 275 = .ok (.getfield 170, 3) := by decide +kernel
theorem dX6_loopsAndPorts_278 : decode cX6_loopsAndPorts 278 = .ok (.invokevirtual 183, 3) := by decide +kernel
theorem dX6_loopsAndPorts_281 : decode cX6_loopsAndPorts 281 = .ok (.aload_n 0, 1) := by decide +kernel
theorem dX6_loopsAndPorts_282 : decode cX6_loopsAndPorts 282 = .ok (.aload_n 0, 1) := by decide +kernel
theorem dX6_loopsAndPorts_283 : decode cX6_loopsAndPorts 283 = .ok (.getfield 164, 3) := by decide +kernel
theorem dX6_loopsAndPorts_286 : decode cX6_loopsAndPorts 286 = .ok (.invokevirtual 238, 3) := by decide +kernel
theorem dX6_loopsAndPorts_289 : decode cX6_loopsAndPorts 289 = .ok (.return_, 1) := by decide +kernel
theorem dX6_byOne_0 : decode cX6_byOne 0 = .ok (.aload_n 0, 1) := by decide +kernel
theorem dX6_byOne_1 : decode cX6_byOne 1 = .ok (.invokevirtual 158, 3) := by decide +kernel
theorem dX6_byOne_4 : decode cX6_byOne 4 = .ok (.istore_n 1, 1) := by decide +kernel
theorem dX6_byOne_5 : decode cX6_byOne 5 = .ok (.aload_n 0, 1) := by decide +kernel
theorem dX6_byOne_6 : decode cX6_byOne 6 = .ok (.iload_n 1, 1) := by decide +kernel
theorem dX6_byOne_7 : decode cX6_byOne 7 = .ok (.invokevirtual 199, 3) := by decide +kernel
theorem dX6_byOne_10 : decode cX6_byOne 10 = .ok (.istore_n 2, 1) := by decide +kernel
theorem dX6_byOne_11 : decode cX6_byOne 11 = .ok (.aload_n 0, 1) := by decide +kernel
theorem dX6_byOne_12 : decode cX6_byOne 12 = .ok (.getfield 130, 3) := by decide +kernel
theorem dX6_byOne_15 : decode cX6_byOne 15 = .ok (.tableswitch 109 0 5 #[37, 37, 53, 70, 87, 87], 37) := by decide +kernel
theorem dX6_byOne_52 : decode cX6_byOne 52 = .ok (.aload_n 0, 1) := by decide +kernel
theorem dX6_byOne_53 : decode cX6_byOne 53 = .ok (.bipush 8, 2) := by decide +kernel
theorem dX6_byOne_55 : decode cX6_byOne 55 = .ok (.iload_n 2, 1) := by decide +kernel
theorem dX6_byOne_56 : decode cX6_byOne 56 = .ok (.aload_n 0, 1) := by decide +kernel
theorem dX6_byOne_57 : decode cX6_byOne 57 = .ok (.getfield 164, 3) := by decide +kernel
theorem dX6_byOne_60 : decode cX6_byOne 60 = .ok (.iload_n 1, 1) := by decide +kernel
theorem dX6_byOne_61 : decode cX6_byOne 61 = .ok (.invokevirtual 187, 3) := by decide +kernel
theorem dX6_byOne_64 : decode cX6_byOne 64 = .ok (.istore_n 3, 1) := by decide +kernel
theorem dX6_byOne_65 : decode cX6_byOne 65 = .ok (.goto 87, 3) := by decide +kernel
theorem dX6_byOne_68 : decode cX6_byOne 68 = .ok (.aload_n 0, 1) := by decide +kernel
theorem dX6_byOne_69 : decode cX6_byOne 69 = .ok (.iload_n 1, 1) := by decide +kernel
theorem dX6_byOne_70 : decode cX6_byOne 70 = .ok (.aload_n 0, 1) := by decide +kernel
theorem dX6_byOne_71 : decode cX6_byOne 71 = .ok (.bipush 12, 2) := by decide +kernel
theorem dX6_byOne_73 : decode cX6_byOne 73 = .ok (.iload_n 2, 1) := by decide +kernel
theorem dX6_byOne_74 : decode cX6_byOne 74 = .ok (.iconst 0, 1) := by decide +kernel
theorem dX6_byOne_75 : decode cX6_byOne 75 = .ok (.iload_n 1, 1) := by decide +kernel
theorem dX6_byOne_76 : decode cX6_byOne 76 = .ok (.invokevirtual 187, 3) := by decide +kernel
theorem dX6_byOne_79 : decode cX6_byOne 79 = .ok (.invokevirtual 202, 3) := by decide +kernel
theorem dX6_byOne_82 : decode cX6_byOne 82 = .ok (.goto 70, 3) := by decide +kernel
theorem dX6_byOne_85 : decode cX6_byOne 85 = .ok (.aload_n 0, 1) := by decide +kernel
theorem dX6_byOne_86 : decode cX6_byOne 86 = .ok (.iload_n 1, 1) := by decide +kernel
theorem dX6_byOne_87 : decode cX6_byOne 87 = .ok (.aload_n 0, 1) := by decide +kernel
theorem dX6_byOne_88 : decode cX6_byOne 88 = .ok (.bipush 11, 2) := by decide +kernel
theorem dX6_byOne_90 : decode cX6_byOne 90 = .ok (.iload_n 2, 1) := by decide +kernel
theorem dX6_byOne_91 : decode cX6_byOne 91 = .ok (.iconst 0, 1) := by decide +kernel
theorem dX6_byOne_92 : decode cX6_byOne 92 = .ok (.iload_n 1, 1) := by decide +kernel
theorem dX6_byOne_93 : decode cX6_byOne 93 = .ok (.invokevirtual 187, 3) := by decide +kernel
theorem dX6_byOne_96 : decode cX6_byOne 96 = .ok (.invokevirtual 202, 3) := by decide +kernel
theorem dX6_byOne_99 : decode cX6_byOne 99 = .ok (.goto 53, 3) := by decide +kernel
theorem dX6_byOne_102 : decode cX6_byOne 102 = .ok (.aload_n 0, 1) := by decide +kernel
theorem dX6_byOne_103 : decode cX6_byOne 103 = .ok (.iload_n 2, 1) := by decide +kernel
theorem dX6_byOne_104 : decode cX6_byOne 104 = .ok (.aload_n 0, 1) := by decide +kernel
theorem dX6_byOne_105 : decode cX6_byOne 105 = .ok (.getfield 130, 3) := by decide +kernel
theorem dX6_byOne_108 : decode cX6_byOne 108 = .ok (.iconst 5, 1) := by decide +kernel
theorem dX6_byOne_109 : decode cX6_byOne 109 = .ok (.if_icmp .ne 7, 3) := by decide +kernel
theorem dX6_byOne_112 : decode cX6_byOne 112 = .ok (.iconst 1, 1) := by decide +kernel
theorem dX6_byOne_113 : decode cX6_byOne 113 = .ok (.goto 4, 3) := by decide +kernel
theorem dX6_byOne_116 : decode cX6_byOne 116 = .ok (.iconst 0, 1) := by decide +kernel
theorem dX6_byOne_117 : decode cX6_byOne 117 = .ok (.iload_n 1, 1) := by decide +kernel
theorem dX6_byOne_118 : decode cX6_byOne 118 = .ok (.invokevirtual 247, 3) := by decide +kernel
theorem dX6_byOne_121 : decode cX6_byOne 121 = .ok (.goto 31, 3) := by decide +kernel
theorem dX6_byOne_124 : decode cX6_byOne 124 = .ok (.aload_n 0, 1) := by decide +kernel
theorem dX6_byOne_125 : decode cX6_byOne 125 = .ok (.iload_n 2, 1) := by decide +kernel
theorem dX6_byOne_126 : decode cX6_byOne 126 = .ok (.aload_n 0, 1) := by decide +kernel
theorem dX6_byOne_127 : decode cX6_byOne 127 = .ok (.getfield 130, 3) := by decide +kernel
theorem dX6_byOne_130 : decode cX6_byOne 130 = .ok (.bipush 7, 2) := by decide +kernel
theorem dX6_byOne_132 : decode cX6_byOne 132 = .ok (.if_icmp .ne 7, 3) := by decide +kernel
theorem dX6_byOne_135 : decode cX6_byOne 135 = .ok (.iconst 1, 1) := by decide +kernel
theorem dX6_byOne_136 : decode cX6_byOne 136 = .ok (.goto 4, 3) := by decide +kernel
theorem dX6_byOne_139 : decode cX6_byOne 139 = .ok (.iconst 0, 1) := by decide +kernel
theorem dX6_byOne_140 : decode cX6_byOne 140 = .ok (.iload_n 1, 1) := by decide +kernel
theorem dX6_byOne_141 : decode cX6_byOne 141 = .ok (.invokevirtual 251, 3) := by decide +kernel
theorem dX6_byOne_144 : decode cX6_byOne 144 = .ok (.ifCond .ne 8, 3) := by decide +kernel
theorem dX6_byOne_147 : decode cX6_byOne 147 = .ok (.aload_n 0, 1) := by decide +kernel
theorem dX6_byOne_148 : decode cX6_byOne 148 = .ok (.iconst 0, 1) := by decide +kernel
theorem dX6_byOne_149 : decode cX6_byOne 149 = .ok (.invokevirtual 232, 3) := by decide +kernel
theorem dX6_byOne_152 : decode cX6_byOne 152 = .ok (.return_, 1) := by decide +kernel
theorem dX6_last_0 : decode cX6_last 0 = .ok (.aload_n 0, 1) := by decide +kernel
theorem dX6_last_1 : decode cX6_last 1 = .ok (.invokevirtual 158, 3) := by decide +kernel
theorem dX6_last_4 : decode cX6_last 4 = .ok (.istore_n 1, 1) := by decide +kernel
theorem dX6_last_5 : decode cX6_last 5 = .ok (.aload_n 0, 1) := by decide +kernel
theorem dX6_last_6 : decode cX6_last 6 = .ok (.iload_n 1, 1) := by decide +kernel
theorem dX6_last_7 : decode cX6_last 7 = .ok (.invokevirtual 199, 3) := by decide +kernel
theorem dX6_last_10 : decode cX6_last 10 = .ok (.istore_n 2, 1) := by decide +kernel
theorem dX6_last_11 : decode cX6_last 11 = .ok (.aload_n 0, 1) := by decide +kernel
theorem dX6_last_12 : decode cX6_last 12 = .ok (.getfield 127, 3) := by decide +kernel
theorem dX6_last_15 : decode cX6_last 15 = .ok (.iconst 3, 1) := by decide +kernel
theorem dX6_last_16 : decode cX6_last 16 = .ok (.if_icmp .ne 7, 3) := by decide +kernel
theorem dX6_last_19 : decode cX6_last 19 = .ok (.iconst 0, 1) := by decide +kernel
theorem dX6_last_20 : decode cX6_last 20 = .ok (.goto 18, 3) := by decide +kernel
theorem dX6_last_23 : decode cX6_last 23 = .ok (.aload_n 0, 1) := by decide +kernel
theorem dX6_last_24 : decode cX6_last 24 = .ok (.aload_n 0, 1) := by decide +kernel
theorem dX6_last_25 : decode cX6_last 25 = .ok (.getfield 145, 3) := by decide +kernel
theorem dX6_last_28 : decode cX6_last 28 = .ok (.aload_n 0, 1) := by decide +kernel
theorem dX6_last_29 : decode cX6_last 29 = .ok (.getfield 139, 3) := by decide +kernel
theorem dX6_last_32 : decode cX6_last 32 = .ok (.iconst 2, 1) := by decide +kernel
theorem dX6_last_33 : decode cX6_last 33 = .ok (.iadd, 1) := by decide +kernel
theorem dX6_last_34 : decode cX6_last 34 = .ok (.iconst 1, 1) := by decide +kernel
theorem dX6_last_35 : decode cX6_last 35 = .ok (.invokevirtual 61, 3) := by decide +kernel
theorem dX6_last_38 : decode cX6_last 38 = .ok (.istore_n 3, 1) := by decide +kernel
theorem dX6_last_39 : decode cX6_last 39 = .ok (.aload_n 0, 1) := by decide +kernel
theorem dX6_last_40 : decode cX6_last 40 = .ok (.getfield 130, 3) := by decide +kernel
theorem dX6_last_43 : decode cX6_last 43 = .ok (.tableswitch 107 0 5 #[37, 37, 59, 75, 84, 92], 37) := by decide +kernel
theorem dX6_last_80 : decode cX6_last 80 = .ok (.aload_n 0, 1) := by decide +kernel
theorem dX6_last_81 : decode cX6_last 81 = .ok (.iload_n 1, 1) := by decide +kernel
theorem dX6_last_82 : decode cX6_last 82 = .ok (.aload_n 0, 1) := by decide +kernel
theorem dX6_last_83 : decode cX6_last 83 = .ok (.bipush 9, 2) := by decide +kernel
theorem dX6_last_85 : decode cX6_last 85 = .ok (.aload_n 0, 1) := by decide +kernel
theorem dX6_last_86 : decode cX6_last 86 = .ok (.getfield 130, 3) := by decide +kernel
theorem dX6_last_89 : decode cX6_last 89 = .ok (.iadd, 1) := by decide +kernel
theorem dX6_last_90 : decode cX6_last 90 = .ok (.iload_n 2, 1) := by decide +kernel
theorem dX6_last_91 : decode cX6_last 91 = .ok (.iconst 0, 1) := by decide +kernel
theorem dX6_last_92 : decode cX6_last 92 = .ok (.iload_n 1, 1) := by decide +kernel
theorem dX6_last_93 : decode cX6_last 93 = .ok (.invokevirtual 187, 3) := by decide +kernel
theorem dX6_last_96 : decode cX6_last 96 = .ok (.invokevirtual 202, 3) := by decide +kernel
theorem dX6_last_99 : decode cX6_last 99 = .ok (.goto 106, 3) := by decide +kernel
theorem dX6_last_102 : decode cX6_last 102 = .ok (.aload_n 0, 1) := by decide +kernel
theorem dX6_last_103 : decode cX6_last 103 = .ok (.aload_n 0, 1) := by decide +kernel
theorem dX6_last_104 : decode cX6_last 104 = .ok (.getfield 170, 3) := by decide +kernel
theorem dX6_last_107 : decode cX6_last 107 = .ok (.invokevirtual 183, 3) := by decide +kernel
theorem dX6_last_110 : decode cX6_last 110 = .ok (.aload_n 0, 1) := by decide +kernel
theorem dX6_last_111 : decode cX6_last 111 = .ok (.iload_n 2, 1) := by decide +kernel
theorem dX6_last_112 : decode cX6_last 112 = .ok (.putfield 170, 3) := by decide +kernel
theorem dX6_last_115 : decode cX6_last 115 = .ok (.goto 90, 3) := by decide +kernel
theorem dX6_last_118 : decode cX6_last 118 = .ok (.aload_n 0, 1) := by decide +kernel
theorem dX6_last_119 : decode cX6_last 119 = .ok (.iload_n 2, 1) := by decide +kernel
theorem dX6_last_120 : decode cX6_last 120 = .ok (.iload_n 3, 1) := by decide +kernel
theorem dX6_last_121 : decode cX6_last 121 = .ok (.invokevirtual 220, 3) := by decide +kernel
theorem dX6_last_124 : decode cX6_last 124 = .ok (.goto 81, 3) := by decide +kernel
theorem dX6_last_127 : decode cX6_last 127 = .ok (.aload_n 0, 1) := by decide +kernel
theorem dX6_last_128 : decode cX6_last 128 = .ok (.iload_n 2, 1) := by decide +kernel
theorem dX6_last_129 : decode cX6_last 129 = .ok (.putfield 170, 3) := by decide +kernel
theorem dX6_last_132 : decode cX6_last 132 = .ok (.goto 73, 3) := by decide +kernel
theorem dX6_last_135 : decode cX6_last 135 = .ok (.aload_n 0, 1) := by decide +kernel
theorem dX6_last_136 : decode cX6_last 136 = .ok (.iload_n 2, 1) := by decide +kernel
theorem dX6_last_137 : decode cX6_last 137 = .ok (.putfield 170, 3) := by decide +kernel
theorem dX6_last_140 : decode cX6_last 140 = .ok (.aload_n 0, 1) := by decide +kernel
theorem dX6_last_141 : decode cX6_last 141 = .ok (.getfield 13, 3) := by decide +kernel
theorem dX6_last_144 : decode cX6_last 144 = .ok (.iconst 1, 1) := by decide +kernel
theorem dX6_last_145 : decode cX6_last 145 = .ok (.iload_n 3, 1) := by decide +kernel
theorem dX6_last_146 : decode cX6_last 146 = .ok (.iastore, 1) := by decide +kernel
theorem dX6_last_147 : decode cX6_last 147 = .ok (.goto 58, 3) := by decide +kernel
theorem dX6_last_150 : decode cX6_last 150 = .ok (.aload_n 0, 1) := by decide +kernel
theorem dX6_last_151 : decode cX6_last 151 = .ok (.getfield 7, 3) := by decide +kernel
theorem dX6_last_154 : decode cX6_last 154 = .ok (.iconst 4, 1) := by decide +kernel
theorem dX6_last_155 : decode cX6_last 155 = .ok (.aload_n 0, 1) := by decide +kernel
theorem dX6_last_156 : decode cX6_last 156 = .ok (.getfield 7, 3) := by decide +kernel
theorem dX6_last_159 : decode cX6_last 159 = .ok (.iconst 4, 1) := by decide +kernel
theorem dX6_last_160 : decode cX6_last 160 = .ok (.iaload, 1) := by decide +kernel
theorem dX6_last_161 : decode cX6_last 161 = .ok (.iconst 2, 1) := by decide +kernel
theorem dX6_last_162 : decode cX6_last 162 = .ok (.isub, 1) := by decide +kernel
theorem dX6_last_163 : decode cX6_last 163 = .ok (.ldc 39, 2) := by decide +kernel
theorem dX6_last_165 : decode cX6_last 165 = .ok (.iand, 1) := by decide +kernel
theorem dX6_last_166 : decode cX6_last 166 = .ok (.iastore, 1) := by decide +kernel
theorem dX6_last_167 : decode cX6_last 167 = .ok (.aload_n 0, 1) := by decide +kernel
theorem dX6_last_168 : decode cX6_last 168 = .ok (.aload_n 0, 1) := by decide +kernel
theorem dX6_last_169 : decode cX6_last 169 = .ok (.getfield 13, 3) := by decide +kernel
theorem dX6_last_172 : decode cX6_last 172 = .ok (.iconst 2, 1) := by decide +kernel
theorem dX6_last_173 : decode cX6_last 173 = .ok (.iaload, 1) := by decide +kernel
theorem dX6_last_174 : decode cX6_last 174 = .ok (.aload_n 0, 1) := by decide +kernel
theorem dX6_last_175 : decode cX6_last 175 = .ok (.getfield 7, 3) := by decide +kernel
theorem dX6_last_178 : decode cX6_last 178 = .ok (.iconst 4, 1) := by decide +kernel
theorem dX6_last_179 : decode cX6_last 179 = .ok (.iaload, 1) := by decide +kernel
theorem dX6_last_180 : decode cX6_last 180 = .ok (.iconst 1, 1) := by decide +kernel
theorem dX6_last_181 : decode cX6_last 181 = .ok (.aload_n 0, 1) := by decide +kernel
theorem dX6_last_182 : decode cX6_last 182 = .ok (.getfield 127, 3) := by decide +kernel
theorem dX6_last_185 : decode cX6_last 185 = .ok (.iconst 3, 1) := by decide +kernel
theorem dX6_last_186 : decode cX6_last 186 = .ok (.if_icmp .ne 15, 3) := by decide +kernel
theorem dX6_last_189 : decode cX6_last 189 = .ok (.aload_n 0, 1) := by decide +kernel
theorem dX6_last_190 : decode cX6_last 190 = .ok (.getfield 7, 3) := by decide +kernel
theorem dX6_last_193 : decode cX6_last 193 = .ok (.aload_n 0, 1) := by decide +kernel
theorem dX6_last_194 : decode cX6_last 194 = .ok (.getfield 133, 3) := by decide +kernel
theorem dX6_last_197 : decode cX6_last 197 = .ok (.iaload, 1) := by decide +kernel
theorem dX6_last_198 : decode cX6_last 198 = .ok (.goto 4, 3) := by decide +kernel
theorem dX6_last_201 : decode cX6_last 201 = .ok (.iload_n 2, 1) := by decide +kernel
theorem dX6_last_202 : decode cX6_last 202 = .ok (.invokevirtual 57, 3) := by decide +kernel
theorem dX6_last_205 : decode cX6_last 205 = .ok (.return_, 1) := by decide +kernel
theorem dX6_flagsAndMore_0 : decode cX6_flagsAndMore 0 = .ok (.aload_n 0, 1) := by decide +kernel
theorem dX6_flagsAndMore_1 : decode cX6_flagsAndMore 1 = .ok (.getfield 148, 3) := by decide +kernel
theorem dX6_flagsAndMore_4 : decode cX6_flagsAndMore 4 = .ok (.tableswitch 124 244 253 #[56, 64, 77, 77, 84, 84, 96, 96, 110, 110], 56) := by decide +kernel
theorem dX6_flagsAndMore_60 : decode cX6_flagsAndMore 60 = .ok (.aload_n 0, 1) := by decide +kernel
theorem dX6_flagsAndMore_61 : decode cX6_flagsAndMore 61 = .ok (.iconst 1, 1) := by decide +kernel
theorem dX6_flagsAndMore_62 : decode cX6_flagsAndMore 62 = .ok (.putfield 255, 3) := by decide +kernel
theorem dX6_flagsAndMore_65 : decode cX6_flagsAndMore 65 = .ok (.goto 67, 3) := by decide +kernel
theorem dX6_flagsAndMore_68 : decode cX6_flagsAndMore 68 = .ok (.aload_n 0, 1) := by decide +kernel
theorem dX6_flagsAndMore_69 : decode cX6_flagsAndMore 69 = .ok (.aload_n 0, 1) := by decide +kernel
theorem dX6_flagsAndMore_70 : decode cX6_flagsAndMore 70 = .ok (.getfield 54, 3) := by decide +kernel
theorem dX6_flagsAndMore_73 : decode cX6_flagsAndMore 73 = .ok (.iconst 1, 1) := by decide +kernel
theorem dX6_flagsAndMore_74 : decode cX6_flagsAndMore 74 = .ok (.ixor, 1) := by decide +kernel
theorem dX6_flagsAndMore_75 : decode cX6_flagsAndMore 75 = .ok (.putfield 54, 3) := by decide +kernel
theorem dX6_flagsAndMore_78 : decode cX6_flagsAndMore 78 = .ok (.goto 54, 3) := by decide +kernel
theorem dX6_flagsAndMore_81 : decode cX6_flagsAndMore 81 = .ok (.aload_n 0, 1) := by decide +kernel
theorem dX6_flagsAndMore_82 : decode cX6_flagsAndMore 82 = .ok (.invokevirtual 258, 3) := by decide +kernel
theorem dX6_flagsAndMore_85 : decode cX6_flagsAndMore 85 = .ok (.goto 47, 3) := by decide +kernel
theorem dX6_flagsAndMore_88 : decode cX6_flagsAndMore 88 = .ok (.aload_n 0, 1) := by decide +kernel
theorem dX6_flagsAndMore_89 : decode cX6_flagsAndMore 89 = .ok (.iconst 1, 1) := by decide +kernel
theorem dX6_flagsAndMore_90 : decode cX6_flagsAndMore 90 = .ok (.aload_n 0, 1) := by decide +kernel
theorem dX6_flagsAndMore_91 : decode cX6_flagsAndMore 91 = .ok (.invokevirtual 158, 3) := by decide +kernel
theorem dX6_flagsAndMore_94 : decode cX6_flagsAndMore 94 = .ok (.invokevirtual 73, 3) := by decide +kernel
theorem dX6_flagsAndMore_97 : decode cX6_flagsAndMore 97 = .ok (.goto 35, 3) := by decide +kernel
theorem dX6_flagsAndMore_100 : decode cX6_flagsAndMore 100 = .ok (.aload_n 0, 1) := by decide +kernel
theorem dX6_flagsAndMore_101 : decode cX6_flagsAndMore 101 = .ok (.sipush 512, 3) := by decide +kernel
theorem dX6_flagsAndMore_104 : decode cX6_flagsAndMore 104 = .ok (.aload_n 0, 1) := by decide +kernel
theorem dX6_flagsAndMore_105 : decode cX6_flagsAndMore 105 = .ok (.invokevirtual 158, 3) := by decide +kernel
theorem dX6_flagsAndMore_108 : decode cX6_flagsAndMore 108 = .ok (.invokevirtual 73, 3) := by decide +kernel
theorem dX6_flagsAndMore_111 : decode cX6_flagsAndMore 111 = .ok (.goto 21, 3) := by decide +kernel
theorem dX6_flagsAndMore_114 : decode cX6_flagsAndMore 114 = .ok (.aload_n 0, 1) := by decide +kernel
theorem dX6_flagsAndMore_115 : decode cX6_flagsAndMore 115 = .ok (.sipush 1024, 3) := by decide +kernel
theorem dX6_flagsAndMore_118 : decode cX6_flagsAndMore 118 = .ok (.aload_n 0, 1) := by decide +kernel
theorem dX6_flagsAndMore_119 : decode cX6_flagsAndMore 119 = .ok (.invokevirtual 158, 3) := by decide +kernel
theorem dX6_flagsAndMore_122 : decode cX6_flagsAndMore 122 = .ok (.invokevirtual 73, 3) := by decide +kernel
theorem dX6_flagsAndMore_125 : decode cX6_flagsAndMore 125 = .ok (.goto 7, 3) := by decide +kernel
theorem dX6_flagsAndMore_128 : decode cX6_flagsAndMore 128 = .ok (.aload_n 0, 1) := by decide +kernel
theorem dX6_flagsAndMore_129 : decode cX6_flagsAndMore 129 = .ok (.invokevirtual 261, 3) := by decide +kernel
theorem dX6_flagsAndMore_132 : decode cX6_flagsAndMore 132 = .ok (.return_, 1) := by decide +kernel
theorem dX6_does_0 : decode cX6_does 0 = .ok (.aload_n 0, 1) := by decide +kernel
theorem dX6_does_1 : decode cX6_does 1 = .ok (.aload_n 0, 1) := by decide +kernel
theorem dX6_does_2 : decode cX6_does 2 = .ok (.getfield 114, 3) := by decide +kernel
theorem dX6_does_5 : decode cX6_does 5 = .ok (.ldc 39, 2) := by decide +kernel
theorem dX6_does_7 : decode cX6_does 7 = .ok (.iand, 1) := by decide +kernel
theorem dX6_does_8 : decode cX6_does 8 = .ok (.putfield 170, 3) := by decide +kernel
theorem dX6_does_11 : decode cX6_does 11 = .ok (.aload_n 0, 1) := by decide +kernel
theorem dX6_does_12 : decode cX6_does 12 = .ok (.iconst 0, 1) := by decide +kernel
theorem dX6_does_13 : decode cX6_does 13 = .ok (.putfield 209, 3) := by decide +kernel
theorem dX6_does_16 : decode cX6_does 16 = .ok (.aload_n 0, 1) := by decide +kernel
theorem dX6_does_17 : decode cX6_does 17 = .ok (.iconst 0, 1) := by decide +kernel
theorem dX6_does_18 : decode cX6_does 18 = .ok (.putfield 264, 3) := by decide +kernel
theorem dX6_does_21 : decode cX6_does 21 = .ok (.aload_n 0, 1) := by decide +kernel
theorem dX6_does_22 : decode cX6_does 22 = .ok (.getfield 148, 3) := by decide +kernel
theorem dX6_does_25 : decode cX6_does 25 = .ok (.bipush 64, 2) := by decide +kernel
theorem dX6_does_27 : decode cX6_does 27 = .ok (.if_icmp .ge 10, 3) := by decide +kernel
theorem dX6_does_30 : decode cX6_does 30 = .ok (.aload_n 0, 1) := by decide +kernel
theorem dX6_does_31 : decode cX6_does 31 = .ok (.invokevirtual 267, 3) := by decide +kernel
theorem dX6_does_34 : decode cX6_does 34 = .ok (.goto 164, 3) := by decide +kernel
theorem dX6_does_37 : decode cX6_does 37 = .ok (.aload_n 0, 1) := by decide +kernel
theorem dX6_does_38 : decode cX6_does 38 = .ok (.getfield 148, 3) := by decide +kernel
theorem dX6_does_41 : decode cX6_does 41 = .ok (.bipush 96, 2) := by decide +kernel
theorem dX6_does_43 : decode cX6_does 43 = .ok (.if_icmp .ge 10, 3) := by decide +kernel
theorem dX6_does_46 : decode cX6_does 46 = .ok (.aload_n 0, 1) := by decide +kernel
theorem dX6_does_47 : decode cX6_does 47 = .ok (.invokevirtual 270, 3) := by decide +kernel
theorem dX6_does_50 : decode cX6_does 50 = .ok (.goto 148, 3) := by decide +kernel
theorem dX6_does_53 : decode cX6_does 53 = .ok (.aload_n 0, 1) := by decide +kernel
theorem dX6_does_54 : decode cX6_does 54 = .ok (.getfield 148, 3) := by decide +kernel
theorem dX6_does_57 : decode cX6_does 57 = .ok (.sipush 128, 3) := by decide +kernel
theorem dX6_does_60 : decode cX6_does 60 = .ok (.if_icmp .ge 32, 3) := by decide +kernel
theorem dX6_does_63 : decode cX6_does 63 = .ok (.aload_n 0, 1) := by decide +kernel
theorem dX6_does_64 : decode cX6_does 64 = .ok (.aload_n 0, 1) := by decide +kernel
theorem dX6_does_65 : decode cX6_does 65 = .ok (.aload_n 0, 1) := by decide +kernel
theorem dX6_does_66 : decode cX6_does 66 = .ok (.getfield 148, 3) := by decide +kernel
theorem dX6_does_69 : decode cX6_does 69 = .ok (.bipush 15, 2) := by decide +kernel
theorem dX6_does_71 : decode cX6_does 71 = .ok (.iand, 1) := by decide +kernel
theorem dX6_does_72 : decode cX6_does 72 = .ok (.invokevirtual 273, 3) := by decide +kernel
theorem dX6_does_75 : decode cX6_does 75 = .ok (.ifCond .eq 10, 3) := by decide +kernel
theorem dX6_does_78 : decode cX6_does 78 = .ok (.aload_n 0, 1) := by decide +kernel
theorem dX6_does_79 : decode cX6_does 79 = .ok (.getfield 164, 3) := by decide +kernel
theorem dX6_does_82 : decode cX6_does 82 = .ok (.goto 4, 3) := by decide +kernel
theorem dX6_does_85 : decode cX6_does 85 = .ok (.iconst 0, 1) := by decide +kernel
theorem dX6_does_86 : decode cX6_does 86 = .ok (.invokevirtual 238, 3) := by decide +kernel
theorem dX6_does_89 : decode cX6_does 89 = .ok (.goto 109, 3) := by decide +kernel
theorem dX6_does_92 : decode cX6_does 92 = .ok (.aload_n 0, 1) := by decide +kernel
theorem dX6_does_93 : decode cX6_does 93 = .ok (.getfield 148, 3) := by decide +kernel
theorem dX6_does_96 : decode cX6_does 96 = .ok (.sipush 144, 3) := by decide +kernel
theorem dX6_does_99 : decode cX6_does 99 = .ok (.if_icmp .ge 10, 3) := by decide +kernel
theorem dX6_does_102 : decode cX6_does 102 = .ok (.aload_n 0, 1) := by decide +kernel
theorem dX6_does_103 : decode cX6_does 103 = .ok (.invokevirtual 276, 3) := by decide +kernel
theorem dX6_does_106 : decode cX6_does 106 = .ok (.goto 92, 3) := by decide +kernel
theorem dX6_does_109 : decode cX6_does 109 = .ok (.aload_n 0, 1) := by decide +kernel
theorem dX6_does_110 : decode cX6_does 110 = .ok (.getfield 148, 3) := by decide +kernel
theorem dX6_does_113 : decode cX6_does 113 = .ok (.sipush 160, 3) := by decide +kernel
theorem dX6_does_116 : decode cX6_does 116 = .ok (.if_icmp .ge 10, 3) := by decide +kernel
theorem dX6_does_119 : decode cX6_does 119 = .ok (.aload_n 0, 1) := by decide +kernel
theorem dX6_does_120 : decode cX6_does 120 = .ok (.invokevirtual 279, 3) := by decide +kernel
theorem dX6_does_123 : decode cX6_does 123 = .ok (.goto 75, 3) := by decide +kernel
theorem dX6_does_126 : decode cX6_does 126 = .ok (.aload_n 0, 1) := by decide +kernel
theorem dX6_does_127 : decode cX6_does 127 = .ok (.getfield 148, 3) := by decide +kernel
theorem dX6_does_130 : decode cX6_does 130 = .ok (.sipush 192, 3) := by decide +kernel
theorem dX6_does_133 : decode cX6_does 133 = .ok (.if_icmp .ge 10, 3) := by decide +kernel
theorem dX6_does_136 : decode cX6_does 136 = .ok (.aload_n 0, 1) := by decide +kernel
theorem dX6_does_137 : decode cX6_does 137 = .ok (.invokevirtual 282, 3) := by decide +kernel
theorem dX6_does_140 : decode cX6_does 140 = .ok (.goto 58, 3) := by decide +kernel
theorem dX6_does_143 : decode cX6_does 143 = .ok (.aload_n 0, 1) := by decide +kernel
theorem dX6_does_144 : decode cX6_does 144 = .ok (.getfield 148, 3) := by decide +kernel
theorem dX6_does_147 : decode cX6_does 147 = .ok (.sipush 208, 3) := by decide +kernel
theorem dX6_does_150 : decode cX6_does 150 = .ok (.if_icmp .ge 10, 3) := by decide +kernel
theorem dX6_does_153 : decode cX6_does 153 = .ok (.aload_n 0, 1) := by decide +kernel
theorem dX6_does_154 : decode cX6_does 154 = .ok (.invokevirtual 285, 3) := by decide +kernel
theorem dX6_does_157 : decode cX6_does 157 = .ok (.goto 41, 3) := by decide +kernel
theorem dX6_does_160 : decode cX6_does 160 = .ok (.aload_n 0, 1) := by decide +kernel
theorem dX6_does_161 : decode cX6_does 161 = .ok (.getfield 148, 3) := by decide +kernel
theorem dX6_does_164 : decode cX6_does 164 = .ok (.sipush 224, 3) := by decide +kernel
theorem dX6_does_167 : decode cX6_does 167 = .ok (.if_icmp .ge 10, 3) := by decide +kernel
theorem dX6_does_170 : decode cX6_does 170 = .ok (.aload_n 0, 1) := by decide +kernel
theorem dX6_does_171 : decode cX6_does 171 = .ok (.invokevirtual 288, 3) := by decide +kernel
theorem dX6_does_174 : decode cX6_does 174 = .ok (.goto 24, 3) := by decide +kernel
theorem dX6_does_177 : decode cX6_does 177 = .ok (.aload_n 0, 1) := by decide +kernel
theorem dX6_does_178 : decode cX6_does 178 = .ok (.getfield 148, 3) := by decide +kernel
theorem dX6_does_181 : decode cX6_does 181 = .ok (.sipush 240, 3) := by decide +kernel
theorem dX6_does_184 : decode cX6_does 184 = .ok (.if_icmp .ge 10, 3) := by decide +kernel
theorem dX6_does_187 : decode cX6_does 187 = .ok (.aload_n 0, 1) := by decide +kernel
theorem dX6_does_188 : decode cX6_does 188 = .ok (.invokevirtual 291, 3) := by decide +kernel
theorem dX6_does_191 : decode cX6_does 191 = .ok (.goto 7, 3) := by decide +kernel
theorem dX6_does_194 : decode cX6_does 194 = .ok (.aload_n 0, 1) := by decide +kernel
theorem dX6_does_195 : decode cX6_does 195 = .ok (.invokevirtual 294, 3) := by decide +kernel
theorem dX6_does_198 : decode cX6_does 198 = .ok (.return_, 1) := by decide +kernel
theorem dX6_interruptStep_0 : decode cX6_interruptStep 0 = .ok (.aload_n 0, 1) := by decide +kernel
theorem dX6_interruptStep_1 : decode cX6_interruptStep 1 = .ok (.iload_n 1, 1) := by decide +kernel
theorem dX6_interruptStep_2 : decode cX6_interruptStep 2 = .ok (.invokevirtual 232, 3) := by decide +kernel
theorem dX6_interruptStep_5 : decode cX6_interruptStep 5 = .ok (.aload_n 0, 1) := by decide +kernel
theorem dX6_interruptStep_6 : decode cX6_interruptStep 6 = .ok (.iconst 0, 1) := by decide +kernel
theorem dX6_interruptStep_7 : decode cX6_interruptStep 7 = .ok (.putfield 255, 3) := by decide +kernel
theorem dX6_interruptStep_10 : decode cX6_interruptStep 10 = .ok (.aload_n 0, 1) := by decide +kernel
theorem dX6_interruptStep_11 : decode cX6_interruptStep 11 = .ok (.iconst 0, 1) := by decide +kernel
theorem dX6_interruptStep_12 : decode cX6_interruptStep 12 = .ok (.putfield 209, 3) := by decide +kernel
theorem dX6_interruptStep_15 : decode cX6_interruptStep 15 = .ok (.aload_n 0, 1) := by decide +kernel
theorem dX6_interruptStep_16 : decode cX6_interruptStep 16 = .ok (.iconst 1, 1) := by decide +kernel
theorem dX6_interruptStep_17 : decode cX6_interruptStep 17 = .ok (.putfield 264, 3) := by decide +kernel
theorem dX6_interruptStep_20 : decode cX6_interruptStep 20 = .ok (.aload_n 0, 1) := by decide +kernel
theorem dX6_interruptStep_21 : decode cX6_interruptStep 21 = .ok (.dup, 1) := by decide +kernel
theorem dX6_interruptStep_22 : decode cX6_interruptStep 22 = .ok (.getfield 297, 3) := by decide +kernel
theorem dX6_interruptStep_25 : decode cX6_interruptStep 25 = .ok (.iconst 1, 1) := by decide +kernel
theorem dX6_interruptStep_26 : decode cX6_interruptStep 26 = .ok (.iadd, 1) := by decide +kernel
theorem dX6_interruptStep_27 : decode cX6_interruptStep 27 = .ok (.putfield 297, 3) := by decide +kernel
theorem dX6_interruptStep_30 : decode cX6_interruptStep 30 = .ok (.return_, 1) := by decide +kernel
theorem dX6_step_0 : decode cX6_step 0 = .ok (.aload_n 0, 1) := by decide +kernel
theorem dX6_step_1 : decode cX6_step 1 = .ok (.getfield 300, 3) := by decide +kernel
theorem dX6_step_4 : decode cX6_step 4 = .ok (.ifCond .eq 35, 3) := by decide +kernel
theorem dX6_step_7 : decode cX6_step 7 = .ok (.aload_n 0, 1) := by decide +kernel
theorem dX6_step_8 : decode cX6_step 8 = .ok (.getfield 209, 3) := by decide +kernel
theorem dX6_step_11 : decode cX6_step 11 = .ok (.ifCond .ne 28, 3) := by decide +kernel
theorem dX6_step_14 : decode cX6_step 14 = .ok (.aload_n 0, 1) := by decide +kernel
theorem dX6_step_15 : decode cX6_step 15 = .ok (.getfield 264, 3) := by decide +kernel
theorem dX6_step_18 : decode cX6_step 18 = .ok (.ifCond .ne 21, 3) := by decide +kernel
theorem dX6_step_21 : decode cX6_step 21 = .ok (.aload_n 0, 1) := by decide +kernel
theorem dX6_step_22 : decode cX6_step 22 = .ok (.aload_n 0, 1) := by decide +kernel
theorem dX6_step_23 : decode cX6_step 23 = .ok (.sipush 256, 3) := by decide +kernel
theorem dX6_step_26 : decode cX6_step 26 = .ok (.invokevirtual 97, 3) := by decide +kernel
theorem dX6_step_29 : decode cX6_step 29 = .ok (.putfield 300, 3) := by decide +kernel
theorem dX6_step_32 : decode cX6_step 32 = .ok (.aload_n 0, 1) := by decide +kernel
theorem dX6_step_33 : decode cX6_step 33 = .ok (.iconst 1, 1) := by decide +kernel
theorem dX6_step_34 : decode cX6_step 34 = .ok (.invokevirtual 303, 3) := by decide +kernel
theorem dX6_step_37 : decode cX6_step 37 = .ok (.iconst 0, 1) := by decide +kernel
theorem dX6_step_38 : decode cX6_step 38 = .ok (.ireturn, 1) := by decide +kernel
theorem dX6_step_39 : decode cX6_step 39 = .ok (.aload_n 0, 1) := by decide +kernel
theorem dX6_step_40 : decode cX6_step 40 = .ok (.getfield 26, 3) := by decide +kernel
theorem dX6_step_43 : decode cX6_step 43 = .ok (.ifCond .lt 48, 3) := by decide +kernel
theorem dX6_step_46 : decode cX6_step 46 = .ok (.aload_n 0, 1) := by decide +kernel
theorem dX6_step_47 : decode cX6_step 47 = .ok (.sipush 512, 3) := by decide +kernel
theorem dX6_step_50 : decode cX6_step 50 = .ok (.invokevirtual 97, 3) := by decide +kernel
theorem dX6_step_53 : decode cX6_step 53 = .ok (.ifCond .eq 38, 3) := by decide +kernel
theorem dX6_step_56 : decode cX6_step 56 = .ok (.aload_n 0, 1) := by decide +kernel
theorem dX6_step_57 : decode cX6_step 57 = .ok (.getfield 209, 3) := by decide +kernel
theorem dX6_step_60 : decode cX6_step 60 = .ok (.ifCond .ne 31, 3) := by decide +kernel
theorem dX6_step_63 : decode cX6_step 63 = .ok (.aload_n 0, 1) := by decide +kernel
theorem dX6_step_64 : decode cX6_step 64 = .ok (.getfield 26, 3) := by decide +kernel
theorem dX6_step_67 : decode cX6_step 67 = .ok (.istore_n 1, 1) := by decide +kernel
theorem dX6_step_68 : decode cX6_step 68 = .ok (.aload_n 0, 1) := by decide +kernel
theorem dX6_step_69 : decode cX6_step 69 = .ok (.iconst (-1), 1) := by decide +kernel
theorem dX6_step_70 : decode cX6_step 70 = .ok (.putfield 26, 3) := by decide +kernel
theorem dX6_step_73 : decode cX6_step 73 = .ok (.aload_n 0, 1) := by decide +kernel
theorem dX6_step_74 : decode cX6_step 74 = .ok (.aload_n 0, 1) := by decide +kernel
theorem dX6_step_75 : decode cX6_step 75 = .ok (.sipush 256, 3) := by decide +kernel
theorem dX6_step_78 : decode cX6_step 78 = .ok (.invokevirtual 97, 3) := by decide +kernel
theorem dX6_step_81 : decode cX6_step 81 = .ok (.putfield 300, 3) := by decide +kernel
theorem dX6_step_84 : decode cX6_step 84 = .ok (.aload_n 0, 1) := by decide +kernel
theorem dX6_step_85 : decode cX6_step 85 = .ok (.iload_n 1, 1) := by decide +kernel
theorem dX6_step_86 : decode cX6_step 86 = .ok (.invokevirtual 303, 3) := by decide +kernel
theorem dX6_step_89 : decode cX6_step 89 = .ok (.iconst 0, 1) := by decide +kernel
theorem dX6_step_90 : decode cX6_step 90 = .ok (.ireturn, 1) := by decide +kernel
theorem dX6_step_91 : decode cX6_step 91 = .ok (.aload_n 0, 1) := by decide +kernel
theorem dX6_step_92 : decode cX6_step 92 = .ok (.getfield 255, 3) := by decide +kernel
theorem dX6_step_95 : decode cX6_step 95 = .ok (.ifCond .eq 5, 3) := by decide +kernel
theorem dX6_step_98 : decode cX6_step 98 = .ok (.iconst 1, 1) := by decide +kernel
theorem dX6_step_99 : decode cX6_step 99 = .ok (.ireturn, 1) := by decide +kernel
theorem dX6_step_100 : decode cX6_step 100 = .ok (.aload_n 0, 1) := by decide +kernel
theorem dX6_step_101 : decode cX6_step 101 = .ok (.invokevirtual 306, 3) := by decide +kernel
theorem dX6_step_104 : decode cX6_step 104 = .ok (.ifCond .ne 5, 3) := by decide +kernel
theorem dX6_step_107 : decode cX6_step 107 = .ok (.iconst 2, 1) := by decide +kernel
theorem dX6_step_108 : decode cX6_step 108 = .ok (.ireturn, 1) := by decide +kernel
theorem dX6_step_109 : decode cX6_step 109 = .ok (.aload_n 0, 1) := by decide +kernel
theorem dX6_step_110 : decode cX6_step 110 = .ok (.aload_n 0, 1) := by decide +kernel
theorem dX6_step_111 : decode cX6_step 111 = .ok (.sipush 256, 3) := by decide +kernel
theorem dX6_step_114 : decode cX6_step 114 = .ok (.invokevirtual 97, 3) := by decide +kernel
theorem dX6_step_117 : decode cX6_step 117 = .ok (.putfield 300, 3) := by decide +kernel
theorem dX6_step_120 : decode cX6_step 120 = .ok (.aload_n 0, 1) := by decide +kernel
theorem dX6_step_121 : decode cX6_step 121 = .ok (.invokevirtual 309, 3) := by decide +kernel
theorem dX6_step_124 : decode cX6_step 124 = .ok (.aload_n 0, 1) := by decide +kernel
theorem dX6_step_125 : decode cX6_step 125 = .ok (.dup, 1) := by decide +kernel
theorem dX6_step_126 : decode cX6_step 126 = .ok (.getfield 297, 3) := by decide +kernel
theorem dX6_step_129 : decode cX6_step 129 = .ok (.iconst 1, 1) := by decide +kernel
theorem dX6_step_130 : decode cX6_step 130 = .ok (.iadd, 1) := by decide +kernel
theorem dX6_step_131 : decode cX6_step 131 = .ok (.putfield 297, 3) := by decide +kernel
theorem dX6_step_134 : decode cX6_step 134 = .ok (.iconst 0, 1) := by decide +kernel
theorem dX6_step_135 : decode cX6_step 135 = .ok (.ireturn, 1) := by decide +kernel
theorem dX6_run_0 : decode cX6_run 0 = .ok (.aload_n 0, 1) := by decide +kernel
theorem dX6_run_1 : decode cX6_run 1 = .ok (.iload_n 1, 1) := by decide +kernel
theorem dX6_run_2 : decode cX6_run 2 = .ok (.ifCond .lt 10, 3) := by decide +kernel
theorem dX6_run_5 : decode cX6_run 5 = .ok (.iload_n 1, 1) := by decide +kernel
theorem dX6_run_6 : decode cX6_run 6 = .ok (.sipush 500, 3) := by decide +kernel
theorem dX6_run_9 : decode cX6_run 9 = .ok (.if_icmp .le 7, 3) := by decide +kernel
theorem dX6_run_12 : decode cX6_run 12 = .ok (.iconst 1, 1) := by decide +kernel
theorem dX6_run_13 : decode cX6_run 13 = .ok (.goto 4, 3) := by decide +kernel
theorem dX6_run_16 : decode cX6_run 16 = .ok (.iconst 0, 1) := by decide +kernel
theorem dX6_run_17 : decode cX6_run 17 = .ok (.putfield 30, 3) := by decide +kernel
theorem dX6_run_20 : decode cX6_run 20 = .ok (.iconst 0, 1) := by decide +kernel
theorem dX6_run_21 : decode cX6_run 21 = .ok (.istore_n 2, 1) := by decide +kernel
theorem dX6_run_22 : decode cX6_run 22 = .ok (.iconst 0, 1) := by decide +kernel
theorem dX6_run_23 : decode cX6_run 23 = .ok (.istore_n 3, 1) := by decide +kernel
theorem dX6_run_24 : decode cX6_run 24 = .ok (.iload_n 3, 1) := by decide +kernel
theorem dX6_run_25 : decode cX6_run 25 = .ok (.iload_n 1, 1) := by decide +kernel
theorem dX6_run_26 : decode cX6_run 26 = .ok (.if_icmp .ge 25, 3) := by decide +kernel
theorem dX6_run_29 : decode cX6_run 29 = .ok (.aload_n 0, 1) := by decide +kernel
theorem dX6_run_30 : decode cX6_run 30 = .ok (.getfield 30, 3) := by decide +kernel
theorem dX6_run_33 : decode cX6_run 33 = .ok (.ifCond .ne 18, 3) := by decide +kernel
theorem dX6_run_36 : decode cX6_run 36 = .ok (.iload_n 2, 1) := by decide +kernel
theorem dX6_run_37 : decode cX6_run 37 = .ok (.ifCond .ne 14, 3) := by decide +kernel
theorem dX6_run_40 : decode cX6_run 40 = .ok (.aload_n 0, 1) := by decide +kernel
theorem dX6_run_41 : decode cX6_run 41 = .ok (.invokevirtual 312, 3) := by decide +kernel
theorem dX6_run_44 : decode cX6_run 44 = .ok (.istore_n 2, 1) := by decide +kernel
theorem dX6_run_45 : decode cX6_run 45 = .ok (.iinc 3 1, 3) := by decide +kernel
theorem dX6_run_48 : decode cX6_run 48 = .ok (.goto (-24), 3) := by decide +kernel
theorem dX6_run_51 : decode cX6_run 51 = .ok (.iload_n 2, 1) := by decide +kernel
theorem dX6_run_52 : decode cX6_run 52 = .ok (.ireturn, 1) := by decide +kernel
theorem dX6_set_0 : decode cX6_set 0 = .ok (.aload_n 0, 1) := by decide +kernel
theorem dX6_set_1 : decode cX6_set 1 = .ok (.iload_n 1, 1) := by decide +kernel
theorem dX6_set_2 : decode cX6_set 2 = .ok (.ifCond .lt 9, 3) := by decide +kernel
theorem dX6_set_5 : decode cX6_set 5 = .ok (.iload_n 1, 1) := by decide +kernel
theorem dX6_set_6 : decode cX6_set 6 = .ok (.bipush 13, 2) := by decide +kernel
theorem dX6_set_8 : decode cX6_set 8 = .ok (.if_icmp .le 7, 3) := by decide +kernel
theorem dX6_set_11 : decode cX6_set 11 = .ok (.iconst 1, 1) := by decide +kernel
theorem dX6_set_12 : decode cX6_set 12 = .ok (.goto 4, 3) := by decide +kernel
theorem dX6_set_15 : decode cX6_set 15 = .ok (.iconst 0, 1) := by decide +kernel
theorem dX6_set_16 : decode cX6_set 16 = .ok (.putfield 30, 3) := by decide +kernel
theorem dX6_set_19 : decode cX6_set 19 = .ok (.aload_n 0, 1) := by decide +kernel
theorem dX6_set_20 : decode cX6_set 20 = .ok (.getfield 30, 3) := by decide +kernel
theorem dX6_set_23 : decode cX6_set 23 = .ok (.ifCond .le 4, 3) := by decide +kernel
theorem dX6_set_26 : decode cX6_set 26 = .ok (.return_, 1) := by decide +kernel
theorem dX6_set_27 : decode cX6_set 27 = .ok (.iload_n 1, 1) := by decide +kernel
theorem dX6_set_28 : decode cX6_set 28 = .ok (.bipush 8, 2) := by decide +kernel
theorem dX6_set_30 : decode cX6_set 30 = .ok (.if_icmp .ge 16, 3) := by decide +kernel
theorem dX6_set_33 : decode cX6_set 33 = .ok (.aload_n 0, 1) := by decide +kernel
theorem dX6_set_34 : decode cX6_set 34 = .ok (.getfield 7, 3) := by decide +kernel
theorem dX6_set_37 : decode cX6_set 37 = .ok (.iload_n 1, 1) := by decide +kernel
theorem dX6_set_38 : decode cX6_set 38 = .ok (.iload_n 2, 1) := by decide +kernel
theorem dX6_set_39 : decode cX6_set 39 = .ok (.ldc 39, 2) := by decide +kernel
theorem dX6_set_41 : decode cX6_set 41 = .ok (.iand, 1) := by decide +kernel
theorem dX6_set_42 : decode cX6_set 42 = .ok (.iastore, 1) := by decide +kernel
theorem dX6_set_43 : decode cX6_set 43 = .ok (.goto 51, 3) := by decide +kernel
theorem dX6_set_46 : decode cX6_set 46 = .ok (.iload_n 1, 1) := by decide +kernel
theorem dX6_set_47 : decode cX6_set 47 = .ok (.bipush 12, 2) := by decide +kernel
theorem dX6_set_49 : decode cX6_set 49 = .ok (.if_icmp .ge 19, 3) := by decide +kernel
theorem dX6_set_52 : decode cX6_set 52 = .ok (.aload_n 0, 1) := by decide +kernel
theorem dX6_set_53 : decode cX6_set 53 = .ok (.getfield 13, 3) := by decide +kernel
theorem dX6_set_56 : decode cX6_set 56 = .ok (.iload_n 1, 1) := by decide +kernel
theorem dX6_set_57 : decode cX6_set 57 = .ok (.bipush 8, 2) := by decide +kernel
theorem dX6_set_59 : decode cX6_set 59 = .ok (.isub, 1) := by decide +kernel
theorem dX6_set_60 : decode cX6_set 60 = .ok (.iload_n 2, 1) := by decide +kernel
theorem dX6_set_61 : decode cX6_set 61 = .ok (.ldc 39, 2) := by decide +kernel
theorem dX6_set_63 : decode cX6_set 63 = .ok (.iand, 1) := by decide +kernel
theorem dX6_set_64 : decode cX6_set 64 = .ok (.iastore, 1) := by decide +kernel
theorem dX6_set_65 : decode cX6_set 65 = .ok (.goto 29, 3) := by decide +kernel
theorem dX6_set_68 : decode cX6_set 68 = .ok (.iload_n 1, 1) := by decide +kernel
theorem dX6_set_69 : decode cX6_set 69 = .ok (.bipush 12, 2) := by decide +kernel
theorem dX6_set_71 : decode cX6_set 71 = .ok (.if_icmp .ne 14, 3) := by decide +kernel
theorem dX6_set_74 : decode cX6_set 74 = .ok (.aload_n 0, 1) := by decide +kernel
theorem dX6_set_75 : decode cX6_set 75 = .ok (.iload_n 2, 1) := by decide +kernel
theorem dX6_set_76 : decode cX6_set 76 = .ok (.ldc 39, 2) := by decide +kernel
theorem dX6_set_78 : decode cX6_set 78 = .ok (.iand, 1) := by decide +kernel
theorem dX6_set_79 : decode cX6_set 79 = .ok (.putfield 170, 3) := by decide +kernel
theorem dX6_set_82 : decode cX6_set 82 = .ok (.goto 12, 3) := by decide +kernel
theorem dX6_set_85 : decode cX6_set 85 = .ok (.aload_n 0, 1) := by decide +kernel
theorem dX6_set_86 : decode cX6_set 86 = .ok (.iload_n 2, 1) := by decide +kernel
theorem dX6_set_87 : decode cX6_set 87 = .ok (.sipush 4053, 3) := by decide +kernel
theorem dX6_set_90 : decode cX6_set 90 = .ok (.iand, 1) := by decide +kernel
theorem dX6_set_91 : decode cX6_set 91 = .ok (.putfield 54, 3) := by decide +kernel
theorem dX6_set_94 : decode cX6_set 94 = .ok (.return_, 1) := by decide +kernel
theorem dX6_get__0 : decode cX6_get_ 0 = .ok (.aload_n 0, 1) := by decide +kernel
theorem dX6_get__1 : decode cX6_get_ 1 = .ok (.iload_n 1, 1) := by decide +kernel
theorem dX6_get__2 : decode cX6_get_ 2 = .ok (.ifCond .lt 9, 3) := by decide +kernel
theorem dX6_get__5 : decode cX6_get_ 5 = .ok (.iload_n 1, 1) := by decide +kernel
theorem dX6_get__6 : decode cX6_get_ 6 = .ok (.bipush 13, 2) := by decide +kernel
theorem dX6_get__8 : decode cX6_get_ 8 = .ok (.if_icmp .le 7, 3) := by decide +kernel
theorem dX6_get__11 : decode cX6_get_ 11 = .ok (.iconst 1, 1) := by decide +kernel
theorem dX6_get__12 : decode cX6_get_ 12 = .ok (.goto 4, 3) := by decide +kernel
theorem dX6_get__15 : decode cX6_get_ 15 = .ok (.iconst 0, 1) := by decide +kernel
theorem dX6_get__16 : decode cX6_get_ 16 = .ok (.putfield 30, 3) := by decide +kernel
theorem dX6_get__19 : decode cX6_get_ 19 = .ok (.aload_n 0, 1) := by decide +kernel
theorem dX6_get__20 : decode cX6_get_ 20 = .ok (.getfield 30, 3) := by decide +kernel
theorem dX6_get__23 : decode cX6_get_ 23 = .ok (.ifCond .le 7, 3) := by decide +kernel
theorem dX6_get__26 : decode cX6_get_ 26 = .ok (.iconst 0, 1) := by decide +kernel
theorem dX6_get__27 : decode cX6_get_ 27 = .ok (.goto 53, 3) := by decide +kernel
theorem dX6_get__30 : decode cX6_get_ 30 = .ok (.iload_n 1, 1) := by decide +kernel
theorem dX6_get__31 : decode cX6_get_ 31 = .ok (.bipush 8, 2) := by decide +kernel
theorem dX6_get__33 : decode cX6_get_ 33 = .ok (.if_icmp .ge 12, 3) := by decide +kernel
theorem dX6_get__36 : decode cX6_get_ 36 = .ok (.aload_n 0, 1) := by decide +kernel
theorem dX6_get__37 : decode cX6_get_ 37 = .ok (.getfield 7, 3) := by decide +kernel
theorem dX6_get__40 : decode cX6_get_ 40 = .ok (.iload_n 1, 1) := by decide +kernel
theorem dX6_get__41 : decode cX6_get_ 41 = .ok (.iaload, 1) := by decide +kernel
theorem dX6_get__42 : decode cX6_get_ 42 = .ok (.goto 38, 3) := by decide +kernel
theorem dX6_get__45 : decode cX6_get_ 45 = .ok (.iload_n 1, 1) := by decide +kernel
theorem dX6_get__46 : decode cX6_get_ 46 = .ok (.bipush 12, 2) := by decide +kernel
theorem dX6_get__48 : decode cX6_get_ 48 = .ok (.if_icmp .ge 15, 3) := by decide +kernel
theorem dX6_get__51 : decode cX6_get_ 51 = .ok (.aload_n 0, 1) := by decide +kernel
theorem dX6_get__52 : decode cX6_get_ 52 = .ok (.getfield 13, 3) := by decide +kernel
theorem dX6_get__55 : decode cX6_get_ 55 = .ok (.iload_n 1, 1) := by decide +kernel
theorem dX6_get__56 : decode cX6_get_ 56 = .ok (.bipush 8, 2) := by decide +kernel
theorem dX6_get__58 : decode cX6_get_ 58 = .ok (.isub, 1) := by decide +kernel
theorem dX6_get__59 : decode cX6_get_ 59 = .ok (.iaload, 1) := by decide +kernel
theorem dX6_get__60 : decode cX6_get_ 60 = .ok (.goto 20, 3) := by decide +kernel
theorem dX6_get__63 : decode cX6_get_ 63 = .ok (.iload_n 1, 1) := by decide +kernel
theorem dX6_get__64 : decode cX6_get_ 64 = .ok (.bipush 12, 2) := by decide +kernel
theorem dX6_get__66 : decode cX6_get_ 66 = .ok (.if_icmp .ne 10, 3) := by decide +kernel
theorem dX6_get__69 : decode cX6_get_ 69 = .ok (.aload_n 0, 1) := by decide +kernel
theorem dX6_get__70 : decode cX6_get_ 70 = .ok (.getfield 170, 3) := by decide +kernel
theorem dX6_get__73 : decode cX6_get_ 73 = .ok (.goto 7, 3) := by decide +kernel
theorem dX6_get__76 : decode cX6_get_ 76 = .ok (.aload_n 0, 1) := by decide +kernel
theorem dX6_get__77 : decode cX6_get_ 77 = .ok (.getfield 54, 3) := by decide +kernel
theorem dX6_get__80 : decode cX6_get_ 80 = .ok (.ireturn, 1) := by decide +kernel
theorem dX6_write_0 : decode cX6_write 0 = .ok (.aload_n 0, 1) := by decide +kernel
theorem dX6_write_1 : decode cX6_write 1 = .ok (.iload_n 1, 1) := by decide +kernel
theorem dX6_write_2 : decode cX6_write 2 = .ok (.ifCond .lt 10, 3) := by decide +kernel
theorem dX6_write_5 : decode cX6_write 5 = .ok (.iload_n 1, 1) := by decide +kernel
theorem dX6_write_6 : decode cX6_write 6 = .ok (.ldc_w 315, 3) := by decide +kernel
theorem dX6_write_9 : decode cX6_write 9 = .ok (.if_icmp .le 7, 3) := by decide +kernel
theorem dX6_write_12 : decode cX6_write 12 = .ok (.iconst 1, 1) := by decide +kernel
theorem dX6_write_13 : decode cX6_write 13 = .ok (.goto 4, 3) := by decide +kernel
theorem dX6_write_16 : decode cX6_write 16 = .ok (.iconst 0, 1) := by decide +kernel
theorem dX6_write_17 : decode cX6_write 17 = .ok (.putfield 30, 3) := by decide +kernel
theorem dX6_write_20 : decode cX6_write 20 = .ok (.iconst 0, 1) := by decide +kernel
theorem dX6_write_21 : decode cX6_write 21 = .ok (.istore_n 3, 1) := by decide +kernel
theorem dX6_write_22 : decode cX6_write 22 = .ok (.iload_n 3, 1) := by decide +kernel
theorem dX6_write_23 : decode cX6_write 23 = .ok (.iconst 4, 1) := by decide +kernel
theorem dX6_write_24 : decode cX6_write 24 = .ok (.if_icmp .ge 32, 3) := by decide +kernel
theorem dX6_write_27 : decode cX6_write 27 = .ok (.aload_n 0, 1) := by decide +kernel
theorem dX6_write_28 : decode cX6_write 28 = .ok (.getfield 30, 3) := by decide +kernel
theorem dX6_write_31 : decode cX6_write 31 = .ok (.ifCond .ne 25, 3) := by decide +kernel
theorem dX6_write_34 : decode cX6_write 34 = .ok (.aload_n 0, 1) := by decide +kernel
theorem dX6_write_35 : decode cX6_write 35 = .ok (.iload_n 1, 1) := by decide +kernel
theorem dX6_write_36 : decode cX6_write 36 = .ok (.iload_n 3, 1) := by decide +kernel
theorem dX6_write_37 : decode cX6_write 37 = .ok (.iadd, 1) := by decide +kernel
theorem dX6_write_38 : decode cX6_write 38 = .ok (.iload_n 2, 1) := by decide +kernel
theorem dX6_write_39 : decode cX6_write 39 = .ok (.bipush 24, 2) := by decide +kernel
theorem dX6_write_41 : decode cX6_write 41 = .ok (.bipush 8, 2) := by decide +kernel
theorem dX6_write_43 : decode cX6_write 43 = .ok (.iload_n 3, 1) := by decide +kernel
theorem dX6_write_44 : decode cX6_write 44 = .ok (.imul, 1) := by decide +kernel
theorem dX6_write_45 : decode cX6_write 45 = .ok (.isub, 1) := by decide +kernel
theorem dX6_write_46 : decode cX6_write 46 = .ok (.ishr, 1) := by decide +kernel
theorem dX6_write_47 : decode cX6_write 47 = .ok (.invokevirtual 49, 3) := by decide +kernel
theorem dX6_write_50 : decode cX6_write 50 = .ok (.iinc 3 1, 3) := by decide +kernel
theorem dX6_write_53 : decode cX6_write 53 = .ok (.goto (-31), 3) := by decide +kernel
theorem dX6_write_56 : decode cX6_write 56 = .ok (.return_, 1) := by decide +kernel
theorem dX6_byteAt_0 : decode cX6_byteAt 0 = .ok (.aload_n 0, 1) := by decide +kernel
theorem dX6_byteAt_1 : decode cX6_byteAt 1 = .ok (.iload_n 1, 1) := by decide +kernel
theorem dX6_byteAt_2 : decode cX6_byteAt 2 = .ok (.ifCond .lt 9, 3) := by decide +kernel
theorem dX6_byteAt_5 : decode cX6_byteAt 5 = .ok (.iload_n 1, 1) := by decide +kernel
theorem dX6_byteAt_6 : decode cX6_byteAt 6 = .ok (.ldc 40, 2) := by decide +kernel
theorem dX6_byteAt_8 : decode cX6_byteAt 8 = .ok (.if_icmp .le 7, 3) := by decide +kernel
theorem dX6_byteAt_11 : decode cX6_byteAt 11 = .ok (.iconst 1, 1) := by decide +kernel
theorem dX6_byteAt_12 : decode cX6_byteAt 12 = .ok (.goto 4, 3) := by decide +kernel
theorem dX6_byteAt_15 : decode cX6_byteAt 15 = .ok (.iconst 0, 1) := by decide +kernel
theorem dX6_byteAt_16 : decode cX6_byteAt 16 = .ok (.putfield 30, 3) := by decide +kernel
theorem dX6_byteAt_19 : decode cX6_byteAt 19 = .ok (.aload_n 0, 1) := by decide +kernel
theorem dX6_byteAt_20 : decode cX6_byteAt 20 = .ok (.getfield 30, 3) := by decide +kernel
theorem dX6_byteAt_23 : decode cX6_byteAt 23 = .ok (.ifCond .le 7, 3) := by decide +kernel
theorem dX6_byteAt_26 : decode cX6_byteAt 26 = .ok (.iconst 0, 1) := by decide +kernel
theorem dX6_byteAt_27 : decode cX6_byteAt 27 = .ok (.goto 8, 3) := by decide +kernel
theorem dX6_byteAt_30 : decode cX6_byteAt 30 = .ok (.aload_n 0, 1) := by decide +kernel
theorem dX6_byteAt_31 : decode cX6_byteAt 31 = .ok (.iload_n 1, 1) := by decide +kernel
theorem dX6_byteAt_32 : decode cX6_byteAt 32 = .ok (.invokevirtual 45, 3) := by decide +kernel
theorem dX6_byteAt_35 : decode cX6_byteAt 35 = .ok (.ireturn, 1) := by decide +kernel
theorem dX6_port_0 : decode cX6_port 0 = .ok (.aload_n 0, 1) := by decide +kernel
theorem dX6_port_1 : decode cX6_port 1 = .ok (.iconst 0, 1) := by decide +kernel
theorem dX6_port_2 : decode cX6_port 2 = .ok (.putfield 30, 3) := by decide +kernel
theorem dX6_port_5 : decode cX6_port 5 = .ok (.aload_n 0, 1) := by decide +kernel
theorem dX6_port_6 : decode cX6_port 6 = .ok (.getfield 23, 3) := by decide +kernel
theorem dX6_port_9 : decode cX6_port 9 = .ok (.iload_n 1, 1) := by decide +kernel
theorem dX6_port_10 : decode cX6_port 10 = .ok (.sipush 255, 3) := by decide +kernel
theorem dX6_port_13 : decode cX6_port 13 = .ok (.iand, 1) := by decide +kernel
theorem dX6_port_14 : decode cX6_port 14 = .ok (.iaload, 1) := by decide +kernel
theorem dX6_port_15 : decode cX6_port 15 = .ok (.ireturn, 1) := by decide +kernel
theorem dX6_setPort_0 : decode cX6_setPort 0 = .ok (.aload_n 0, 1) := by decide +kernel
theorem dX6_setPort_1 : decode cX6_setPort 1 = .ok (.iconst 0, 1) := by decide +kernel
theorem dX6_setPort_2 : decode cX6_setPort 2 = .ok (.putfield 30, 3) := by decide +kernel
theorem dX6_setPort_5 : decode cX6_setPort 5 = .ok (.aload_n 0, 1) := by decide +kernel
theorem dX6_setPort_6 : decode cX6_setPort 6 = .ok (.getfield 23, 3) := by decide +kernel
theorem dX6_setPort_9 : decode cX6_setPort 9 = .ok (.iload_n 1, 1) := by decide +kernel
theorem dX6_setPort_10 : decode cX6_setPort 10 = .ok (.sipush 255, 3) := by decide +kernel
theorem dX6_setPort_13 : decode cX6_setPort 13 = .ok (.iand, 1) := by decide +kernel
theorem dX6_setPort_14 : decode cX6_setPort 14 = .ok (.iload_n 2, 1) := by decide +kernel
theorem dX6_setPort_15 : decode cX6_setPort 15 = .ok (.sipush 255, 3) := by decide +kernel
theorem dX6_setPort_18 : decode cX6_setPort 18 = .ok (.iand, 1) := by decide +kernel
theorem dX6_setPort_19 : decode cX6_setPort 19 = .ok (.iastore, 1) := by decide +kernel
theorem dX6_setPort_20 : decode cX6_setPort 20 = .ok (.return_, 1) := by decide +kernel
theorem dX6_line_0 : decode cX6_line 0 = .ok (.aload_n 0, 1) := by decide +kernel
theorem dX6_line_1 : decode cX6_line 1 = .ok (.iload_n 1, 1) := by decide +kernel
theorem dX6_line_2 : decode cX6_line 2 = .ok (.sipush 255, 3) := by decide +kernel
theorem dX6_line_5 : decode cX6_line 5 = .ok (.if_icmp .le 7, 3) := by decide +kernel
theorem dX6_line_8 : decode cX6_line 8 = .ok (.iconst 1, 1) := by decide +kernel
theorem dX6_line_9 : decode cX6_line 9 = .ok (.goto 4, 3) := by decide +kernel
theorem dX6_line_12 : decode cX6_line 12 = .ok (.iconst 0, 1) := by decide +kernel
theorem dX6_line_13 : decode cX6_line 13 = .ok (.putfield 30, 3) := by decide +kernel
theorem dX6_line_16 : decode cX6_line 16 = .ok (.aload_n 0, 1) := by decide +kernel
theorem dX6_line_17 : decode cX6_line 17 = .ok (.aload_n 0, 1) := by decide +kernel
theorem dX6_line_18 : decode cX6_line 18 = .ok (.getfield 30, 3) := by decide +kernel
theorem dX6_line_21 : decode cX6_line 21 = .ok (.ifCond .le 10, 3) := by decide +kernel
theorem dX6_line_24 : decode cX6_line 24 = .ok (.aload_n 0, 1) := by decide +kernel
theorem dX6_line_25 : decode cX6_line 25 = .ok (.getfield 26, 3) := by decide +kernel
theorem dX6_line_28 : decode cX6_line 28 = .ok (.goto 12, 3) := by decide +kernel
theorem dX6_line_31 : decode cX6_line 31 = .ok (.iload_n 1, 1) := by decide +kernel
theorem dX6_line_32 : decode cX6_line 32 = .ok (.ifCond .ge 7, 3) := by decide +kernel
theorem dX6_line_35 : decode cX6_line 35 = .ok (.iconst (-1), 1) := by decide +kernel
theorem dX6_line_36 : decode cX6_line 36 = .ok (.goto 4, 3) := by decide +kernel
theorem dX6_line_39 : decode cX6_line 39 = .ok (.iload_n 1, 1) := by decide +kernel
theorem dX6_line_40 : decode cX6_line 40 = .ok (.putfield 26, 3) := by decide +kernel
theorem dX6_line_43 : decode cX6_line 43 = .ok (.return_, 1) := by decide +kernel
theorem dX6_count_0 : decode cX6_count 0 = .ok (.aload_n 0, 1) := by decide +kernel
theorem dX6_count_1 : decode cX6_count 1 = .ok (.iload_n 1, 1) := by decide +kernel
theorem dX6_count_2 : decode cX6_count 2 = .ok (.ifCond .lt 8, 3) := by decide +kernel
theorem dX6_count_5 : decode cX6_count 5 = .ok (.iload_n 1, 1) := by decide +kernel
theorem dX6_count_6 : decode cX6_count 6 = .ok (.iconst 3, 1) := by decide +kernel
theorem dX6_count_7 : decode cX6_count 7 = .ok (.if_icmp .le 7, 3) := by decide +kernel
theorem dX6_count_10 : decode cX6_count 10 = .ok (.iconst 1, 1) := by decide +kernel
theorem dX6_count_11 : decode cX6_count 11 = .ok (.goto 4, 3) := by decide +kernel
theorem dX6_count_14 : decode cX6_count 14 = .ok (.iconst 0, 1) := by decide +kernel
theorem dX6_count_15 : decode cX6_count 15 = .ok (.putfield 30, 3) := by decide +kernel
theorem dX6_count_18 : decode cX6_count 18 = .ok (.aload_n 0, 1) := by decide +kernel
theorem dX6_count_19 : decode cX6_count 19 = .ok (.getfield 30, 3) := by decide +kernel
theorem dX6_count_22 : decode cX6_count 22 = .ok (.ifCond .le 7, 3) := by decide +kernel
theorem dX6_count_25 : decode cX6_count 25 = .ok (.iconst 0, 1) := by decide +kernel
theorem dX6_count_26 : decode cX6_count 26 = .ok (.goto 42, 3) := by decide +kernel
theorem dX6_count_29 : decode cX6_count 29 = .ok (.iload_n 1, 1) := by decide +kernel
theorem dX6_count_30 : decode cX6_count 30 = .ok (.ifCond .ne 10, 3) := by decide +kernel
theorem dX6_count_33 : decode cX6_count 33 = .ok (.aload_n 0, 1) := by decide +kernel
theorem dX6_count_34 : decode cX6_count 34 = .ok (.getfield 297, 3) := by decide +kernel
theorem dX6_count_37 : decode cX6_count 37 = .ok (.goto 31, 3) := by decide +kernel
theorem dX6_count_40 : decode cX6_count 40 = .ok (.iload_n 1, 1) := by decide +kernel
theorem dX6_count_41 : decode cX6_count 41 = .ok (.iconst 1, 1) := by decide +kernel
theorem dX6_count_42 : decode cX6_count 42 = .ok (.if_icmp .ne 10, 3) := by decide +kernel
theorem dX6_count_45 : decode cX6_count 45 = .ok (.aload_n 0, 1) := by decide +kernel
theorem dX6_count_46 : decode cX6_count 46 = .ok (.getfield 33, 3) := by decide +kernel
theorem dX6_count_49 : decode cX6_count 49 = .ok (.goto 19, 3) := by decide +kernel
theorem dX6_count_52 : decode cX6_count 52 = .ok (.iload_n 1, 1) := by decide +kernel
theorem dX6_count_53 : decode cX6_count 53 = .ok (.iconst 2, 1) := by decide +kernel
theorem dX6_count_54 : decode cX6_count 54 = .ok (.if_icmp .ne 10, 3) := by decide +kernel
theorem dX6_count_57 : decode cX6_count 57 = .ok (.aload_n 0, 1) := by decide +kernel
theorem dX6_count_58 : decode cX6_count 58 = .ok (.getfield 36, 3) := by decide +kernel
theorem dX6_count_61 : decode cX6_count 61 = .ok (.goto 7, 3) := by decide +kernel
theorem dX6_count_64 : decode cX6_count 64 = .ok (.aload_n 0, 1) := by decide +kernel
theorem dX6_count_65 : decode cX6_count 65 = .ok (.getfield 193, 3) := by decide +kernel
theorem dX6_count_68 : decode cX6_count 68 = .ok (.ireturn, 1) := by decide +kernel
