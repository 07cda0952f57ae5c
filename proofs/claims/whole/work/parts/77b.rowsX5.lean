theorem dX5_init_0 : decode cX5_init 0 = .ok (.aload_n 0, 1) := by decide +kernel
theorem dX5_init_1 : decode cX5_init 1 = .ok (.invokespecial 1, 3) := by decide +kernel
theorem dX5_init_4 : decode cX5_init 4 = .ok (.aload_n 0, 1) := by decide +kernel
theorem dX5_init_5 : decode cX5_init 5 = .ok (.new 7, 3) := by decide +kernel
theorem dX5_init_8 : decode cX5_init 8 = .ok (.dup, 1) := by decide +kernel
theorem dX5_init_9 : decode cX5_init 9 = .ok (.invokespecial 9, 3) := by decide +kernel
theorem dX5_init_12 : decode cX5_init 12 = .ok (.putfield 10, 3) := by decide +kernel
theorem dX5_init_15 : decode cX5_init 15 = .ok (.aload_n 0, 1) := by decide +kernel
theorem dX5_init_16 : decode cX5_init 16 = .ok (.iconst (-1), 1) := by decide +kernel
theorem dX5_init_17 : decode cX5_init 17 = .ok (.putfield 16, 3) := by decide +kernel
theorem dX5_init_20 : decode cX5_init 20 = .ok (.return_, 1) := by decide +kernel
theorem dX5_set_0 : decode cX5_set 0 = .ok (.iload_n 1, 1) := by decide +kernel
theorem dX5_set_1 : decode cX5_set 1 = .ok (.ifCond .lt 9, 3) := by decide +kernel
theorem dX5_set_4 : decode cX5_set 4 = .ok (.iload_n 1, 1) := by decide +kernel
theorem dX5_set_5 : decode cX5_set 5 = .ok (.bipush 13, 2) := by decide +kernel
theorem dX5_set_7 : decode cX5_set 7 = .ok (.if_icmp .le 13, 3) := by decide +kernel
theorem dX5_set_10 : decode cX5_set 10 = .ok (.new 20, 3) := by decide +kernel
theorem dX5_set_13 : decode cX5_set 13 = .ok (.dup, 1) := by decide +kernel
theorem dX5_set_14 : decode cX5_set 14 = .ok (.ldc 22, 2) := by decide +kernel
theorem dX5_set_16 : decode cX5_set 16 = .ok (.invokespecial 24, 3) := by decide +kernel
theorem dX5_set_19 : decode cX5_set 19 = .ok (.athrow, 1) := by decide +kernel
theorem dX5_set_20 : decode cX5_set 20 = .ok (.iload_n 1, 1) := by decide +kernel
theorem dX5_set_21 : decode cX5_set 21 = .ok (.bipush 13, 2) := by decide +kernel
theorem dX5_set_23 : decode cX5_set 23 = .ok (.if_icmp .ne 17, 3) := by decide +kernel
theorem dX5_set_26 : decode cX5_set 26 = .ok (.aload_n 0, 1) := by decide +kernel
theorem dX5_set_27 : decode cX5_set 27 = .ok (.getfield 10, 3) := by decide +kernel
theorem dX5_set_30 : decode cX5_set 30 = .ok (.getfield 27, 3) := by decide +kernel
theorem dX5_set_33 : decode cX5_set 33 = .ok (.iload_n 2, 1) := by decide +kernel
theorem dX5_set_34 : decode cX5_set 34 = .ok (.invokevirtual 31, 3) := by decide +kernel
theorem dX5_set_37 : decode cX5_set 37 = .ok (.goto 59, 3) := by decide +kernel
theorem dX5_set_40 : decode cX5_set 40 = .ok (.iload_n 1, 1) := by decide +kernel
theorem dX5_set_41 : decode cX5_set 41 = .ok (.bipush 12, 2) := by decide +kernel
theorem dX5_set_43 : decode cX5_set 43 = .ok (.if_icmp .ne 17, 3) := by decide +kernel
theorem dX5_set_46 : decode cX5_set 46 = .ok (.aload_n 0, 1) := by decide +kernel
theorem dX5_set_47 : decode cX5_set 47 = .ok (.getfield 10, 3) := by decide +kernel
theorem dX5_set_50 : decode cX5_set 50 = .ok (.getfield 37, 3) := by decide +kernel
theorem dX5_set_53 : decode cX5_set 53 = .ok (.iload_n 2, 1) := by decide +kernel
theorem dX5_set_54 : decode cX5_set 54 = .ok (.invokevirtual 41, 3) := by decide +kernel
theorem dX5_set_57 : decode cX5_set 57 = .ok (.goto 39, 3) := by decide +kernel
theorem dX5_set_60 : decode cX5_set 60 = .ok (.iload_n 1, 1) := by decide +kernel
theorem dX5_set_61 : decode cX5_set 61 = .ok (.bipush 8, 2) := by decide +kernel
theorem dX5_set_63 : decode cX5_set 63 = .ok (.if_icmp .lt 21, 3) := by decide +kernel
theorem dX5_set_66 : decode cX5_set 66 = .ok (.aload_n 0, 1) := by decide +kernel
theorem dX5_set_67 : decode cX5_set 67 = .ok (.getfield 10, 3) := by decide +kernel
theorem dX5_set_70 : decode cX5_set 70 = .ok (.getfield 37, 3) := by decide +kernel
theorem dX5_set_73 : decode cX5_set 73 = .ok (.iload_n 1, 1) := by decide +kernel
theorem dX5_set_74 : decode cX5_set 74 = .ok (.bipush 8, 2) := by decide +kernel
theorem dX5_set_76 : decode cX5_set 76 = .ok (.isub, 1) := by decide +kernel
theorem dX5_set_77 : decode cX5_set 77 = .ok (.iload_n 2, 1) := by decide +kernel
theorem dX5_set_78 : decode cX5_set 78 = .ok (.invokevirtual 46, 3) := by decide +kernel
theorem dX5_set_81 : decode cX5_set 81 = .ok (.goto 15, 3) := by decide +kernel
theorem dX5_set_84 : decode cX5_set 84 = .ok (.aload_n 0, 1) := by decide +kernel
theorem dX5_set_85 : decode cX5_set 85 = .ok (.getfield 10, 3) := by decide +kernel
theorem dX5_set_88 : decode cX5_set 88 = .ok (.getfield 37, 3) := by decide +kernel
theorem dX5_set_91 : decode cX5_set 91 = .ok (.iload_n 1, 1) := by decide +kernel
theorem dX5_set_92 : decode cX5_set 92 = .ok (.iload_n 2, 1) := by decide +kernel
theorem dX5_set_93 : decode cX5_set 93 = .ok (.invokevirtual 50, 3) := by decide +kernel
theorem dX5_set_96 : decode cX5_set 96 = .ok (.return_, 1) := by decide +kernel
theorem dX5_get_0 : decode cX5_get 0 = .ok (.iload_n 1, 1) := by decide +kernel
theorem dX5_get_1 : decode cX5_get 1 = .ok (.ifCond .lt 9, 3) := by decide +kernel
theorem dX5_get_4 : decode cX5_get 4 = .ok (.iload_n 1, 1) := by decide +kernel
theorem dX5_get_5 : decode cX5_get 5 = .ok (.bipush 13, 2) := by decide +kernel
theorem dX5_get_7 : decode cX5_get 7 = .ok (.if_icmp .le 13, 3) := by decide +kernel
theorem dX5_get_10 : decode cX5_get 10 = .ok (.new 20, 3) := by decide +kernel
theorem dX5_get_13 : decode cX5_get 13 = .ok (.dup, 1) := by decide +kernel
theorem dX5_get_14 : decode cX5_get 14 = .ok (.ldc 22, 2) := by decide +kernel
theorem dX5_get_16 : decode cX5_get 16 = .ok (.invokespecial 24, 3) := by decide +kernel
theorem dX5_get_19 : decode cX5_get 19 = .ok (.athrow, 1) := by decide +kernel
theorem dX5_get_20 : decode cX5_get 20 = .ok (.iload_n 1, 1) := by decide +kernel
theorem dX5_get_21 : decode cX5_get 21 = .ok (.bipush 13, 2) := by decide +kernel
theorem dX5_get_23 : decode cX5_get 23 = .ok (.if_icmp .ne 14, 3) := by decide +kernel
theorem dX5_get_26 : decode cX5_get 26 = .ok (.aload_n 0, 1) := by decide +kernel
theorem dX5_get_27 : decode cX5_get 27 = .ok (.getfield 10, 3) := by decide +kernel
theorem dX5_get_30 : decode cX5_get 30 = .ok (.getfield 27, 3) := by decide +kernel
theorem dX5_get_33 : decode cX5_get 33 = .ok (.getfield 53, 3) := by decide +kernel
theorem dX5_get_36 : decode cX5_get 36 = .ok (.ireturn, 1) := by decide +kernel
theorem dX5_get_37 : decode cX5_get 37 = .ok (.iload_n 1, 1) := by decide +kernel
theorem dX5_get_38 : decode cX5_get 38 = .ok (.bipush 12, 2) := by decide +kernel
theorem dX5_get_40 : decode cX5_get 40 = .ok (.if_icmp .ne 14, 3) := by decide +kernel
theorem dX5_get_43 : decode cX5_get 43 = .ok (.aload_n 0, 1) := by decide +kernel
theorem dX5_get_44 : decode cX5_get 44 = .ok (.getfield 10, 3) := by decide +kernel
theorem dX5_get_47 : decode cX5_get 47 = .ok (.getfield 37, 3) := by decide +kernel
theorem dX5_get_50 : decode cX5_get 50 = .ok (.getfield 56, 3) := by decide +kernel
theorem dX5_get_53 : decode cX5_get 53 = .ok (.ireturn, 1) := by decide +kernel
theorem dX5_get_54 : decode cX5_get 54 = .ok (.iload_n 1, 1) := by decide +kernel
theorem dX5_get_55 : decode cX5_get 55 = .ok (.bipush 8, 2) := by decide +kernel
theorem dX5_get_57 : decode cX5_get 57 = .ok (.if_icmp .lt 20, 3) := by decide +kernel
theorem dX5_get_60 : decode cX5_get 60 = .ok (.aload_n 0, 1) := by decide +kernel
theorem dX5_get_61 : decode cX5_get 61 = .ok (.getfield 10, 3) := by decide +kernel
theorem dX5_get_64 : decode cX5_get 64 = .ok (.getfield 37, 3) := by decide +kernel
theorem dX5_get_67 : decode cX5_get 67 = .ok (.iload_n 1, 1) := by decide +kernel
theorem dX5_get_68 : decode cX5_get 68 = .ok (.bipush 8, 2) := by decide +kernel
theorem dX5_get_70 : decode cX5_get 70 = .ok (.isub, 1) := by decide +kernel
theorem dX5_get_71 : decode cX5_get 71 = .ok (.invokevirtual 59, 3) := by decide +kernel
theorem dX5_get_74 : decode cX5_get 74 = .ok (.goto 14, 3) := by decide +kernel
theorem dX5_get_77 : decode cX5_get 77 = .ok (.aload_n 0, 1) := by decide +kernel
theorem dX5_get_78 : decode cX5_get 78 = .ok (.getfield 10, 3) := by decide +kernel
theorem dX5_get_81 : decode cX5_get 81 = .ok (.getfield 37, 3) := by decide +kernel
theorem dX5_get_84 : decode cX5_get 84 = .ok (.iload_n 1, 1) := by decide +kernel
theorem dX5_get_85 : decode cX5_get 85 = .ok (.invokevirtual 63, 3) := by decide +kernel
theorem dX5_get_88 : decode cX5_get 88 = .ok (.ireturn, 1) := by decide +kernel
theorem dX5_write_0 : decode cX5_write 0 = .ok (.iload_n 1, 1) := by decide +kernel
theorem dX5_write_1 : decode cX5_write 1 = .ok (.ifCond .lt 9, 3) := by decide +kernel
theorem dX5_write_4 : decode cX5_write 4 = .ok (.iload_n 1, 1) := by decide +kernel
theorem dX5_write_5 : decode cX5_write 5 = .ok (.ldc 66, 2) := by decide +kernel
theorem dX5_write_7 : decode cX5_write 7 = .ok (.if_icmp .le 13, 3) := by decide +kernel
theorem dX5_write_10 : decode cX5_write 10 = .ok (.new 20, 3) := by decide +kernel
theorem dX5_write_13 : decode cX5_write 13 = .ok (.dup, 1) := by decide +kernel
theorem dX5_write_14 : decode cX5_write 14 = .ok (.ldc 67, 2) := by decide +kernel
theorem dX5_write_16 : decode cX5_write 16 = .ok (.invokespecial 24, 3) := by decide +kernel
theorem dX5_write_19 : decode cX5_write 19 = .ok (.athrow, 1) := by decide +kernel
theorem dX5_write_20 : decode cX5_write 20 = .ok (.iconst 0, 1) := by decide +kernel
theorem dX5_write_21 : decode cX5_write 21 = .ok (.istore_n 3, 1) := by decide +kernel
theorem dX5_write_22 : decode cX5_write 22 = .ok (.iload_n 3, 1) := by decide +kernel
theorem dX5_write_23 : decode cX5_write 23 = .ok (.iconst 4, 1) := by decide +kernel
theorem dX5_write_24 : decode cX5_write 24 = .ok (.if_icmp .ge 31, 3) := by decide +kernel
theorem dX5_write_27 : decode cX5_write 27 = .ok (.aload_n 0, 1) := by decide +kernel
theorem dX5_write_28 : decode cX5_write 28 = .ok (.getfield 10, 3) := by decide +kernel
theorem dX5_write_31 : decode cX5_write 31 = .ok (.getfield 69, 3) := by decide +kernel
theorem dX5_write_34 : decode cX5_write 34 = .ok (.iload_n 1, 1) := by decide +kernel
theorem dX5_write_35 : decode cX5_write 35 = .ok (.iload_n 3, 1) := by decide +kernel
theorem dX5_write_36 : decode cX5_write 36 = .ok (.iadd, 1) := by decide +kernel
theorem dX5_write_37 : decode cX5_write 37 = .ok (.iload_n 2, 1) := by decide +kernel
theorem dX5_write_38 : decode cX5_write 38 = .ok (.bipush 24, 2) := by decide +kernel
theorem dX5_write_40 : decode cX5_write 40 = .ok (.bipush 8, 2) := by decide +kernel
theorem dX5_write_42 : decode cX5_write 42 = .ok (.iload_n 3, 1) := by decide +kernel
theorem dX5_write_43 : decode cX5_write 43 = .ok (.imul, 1) := by decide +kernel
theorem dX5_write_44 : decode cX5_write 44 = .ok (.isub, 1) := by decide +kernel
theorem dX5_write_45 : decode cX5_write 45 = .ok (.ishr, 1) := by decide +kernel
theorem dX5_write_46 : decode cX5_write 46 = .ok (.invokevirtual 73, 3) := by decide +kernel
theorem dX5_write_49 : decode cX5_write 49 = .ok (.iinc 3 1, 3) := by decide +kernel
theorem dX5_write_52 : decode cX5_write 52 = .ok (.goto (-30), 3) := by decide +kernel
theorem dX5_write_55 : decode cX5_write 55 = .ok (.return_, 1) := by decide +kernel
theorem dX5_byteAt_0 : decode cX5_byteAt 0 = .ok (.iload_n 1, 1) := by decide +kernel
theorem dX5_byteAt_1 : decode cX5_byteAt 1 = .ok (.ifCond .lt 9, 3) := by decide +kernel
theorem dX5_byteAt_4 : decode cX5_byteAt 4 = .ok (.iload_n 1, 1) := by decide +kernel
theorem dX5_byteAt_5 : decode cX5_byteAt 5 = .ok (.ldc 78, 2) := by decide +kernel
theorem dX5_byteAt_7 : decode cX5_byteAt 7 = .ok (.if_icmp .le 13, 3) := by decide +kernel
theorem dX5_byteAt_10 : decode cX5_byteAt 10 = .ok (.new 20, 3) := by decide +kernel
theorem dX5_byteAt_13 : decode cX5_byteAt 13 = .ok (.dup, 1) := by decide +kernel
theorem dX5_byteAt_14 : decode cX5_byteAt 14 = .ok (.ldc 79, 2) := by decide +kernel
theorem dX5_byteAt_16 : decode cX5_byteAt 16 = .ok (.invokespecial 24, 3) := by decide +kernel
theorem dX5_byteAt_19 : decode cX5_byteAt 19 = .ok (.athrow, 1) := by decide +kernel
theorem dX5_byteAt_20 : decode cX5_byteAt 20 = .ok (.aload_n 0, 1) := by decide +kernel
theorem dX5_byteAt_21 : decode cX5_byteAt 21 = .ok (.getfield 10, 3) := by decide +kernel
theorem dX5_byteAt_24 : decode cX5_byteAt 24 = .ok (.getfield 69, 3) := by decide +kernel
theorem dX5_byteAt_27 : decode cX5_byteAt 27 = .ok (.iload_n 1, 1) := by decide +kernel
theorem dX5_byteAt_28 : decode cX5_byteAt 28 = .ok (.invokevirtual 81, 3) := by decide +kernel
theorem dX5_byteAt_31 : decode cX5_byteAt 31 = .ok (.ireturn, 1) := by decide +kernel
theorem dX5_port_0 : decode cX5_port 0 = .ok (.aload_n 0, 1) := by decide +kernel
theorem dX5_port_1 : decode cX5_port 1 = .ok (.getfield 10, 3) := by decide +kernel
theorem dX5_port_4 : decode cX5_port 4 = .ok (.iload_n 1, 1) := by decide +kernel
theorem dX5_port_5 : decode cX5_port 5 = .ok (.invokevirtual 84, 3) := by decide +kernel
theorem dX5_port_8 : decode cX5_port 8 = .ok (.ireturn, 1) := by decide +kernel
theorem dX5_setPort_0 : decode cX5_setPort 0 = .ok (.aload_n 0, 1) := by decide +kernel
theorem dX5_setPort_1 : decode cX5_setPort 1 = .ok (.getfield 10, 3) := by decide +kernel
theorem dX5_setPort_4 : decode cX5_setPort 4 = .ok (.iload_n 1, 1) := by decide +kernel
theorem dX5_setPort_5 : decode cX5_setPort 5 = .ok (.iload_n 2, 1) := by decide +kernel
theorem dX5_setPort_6 : decode cX5_setPort 6 = .ok (.invokevirtual 87, 3) := by decide +kernel
theorem dX5_setPort_9 : decode cX5_setPort 9 = .ok (.return_, 1) := by decide +kernel
theorem dX5_line_0 : decode cX5_line 0 = .ok (.iload_n 1, 1) := by decide +kernel
theorem dX5_line_1 : decode cX5_line 1 = .ok (.sipush 255, 3) := by decide +kernel
theorem dX5_line_4 : decode cX5_line 4 = .ok (.if_icmp .le 13, 3) := by decide +kernel
theorem dX5_line_7 : decode cX5_line 7 = .ok (.new 90, 3) := by decide +kernel
theorem dX5_line_10 : decode cX5_line 10 = .ok (.dup, 1) := by decide +kernel
theorem dX5_line_11 : decode cX5_line 11 = .ok (.ldc 92, 2) := by decide +kernel
theorem dX5_line_13 : decode cX5_line 13 = .ok (.invokespecial 94, 3) := by decide +kernel
theorem dX5_line_16 : decode cX5_line 16 = .ok (.athrow, 1) := by decide +kernel
theorem dX5_line_17 : decode cX5_line 17 = .ok (.aload_n 0, 1) := by decide +kernel
theorem dX5_line_18 : decode cX5_line 18 = .ok (.iload_n 1, 1) := by decide +kernel
theorem dX5_line_19 : decode cX5_line 19 = .ok (.ifCond .ge 7, 3) := by decide +kernel
theorem dX5_line_22 : decode cX5_line 22 = .ok (.iconst (-1), 1) := by decide +kernel
theorem dX5_line_23 : decode cX5_line 23 = .ok (.goto 4, 3) := by decide +kernel
theorem dX5_line_26 : decode cX5_line 26 = .ok (.iload_n 1, 1) := by decide +kernel
theorem dX5_line_27 : decode cX5_line 27 = .ok (.putfield 16, 3) := by decide +kernel
theorem dX5_line_30 : decode cX5_line 30 = .ok (.return_, 1) := by decide +kernel
theorem dX5_run_0 : decode cX5_run 0 = .ok (.iload_n 1, 1) := by decide +kernel
theorem dX5_run_1 : decode cX5_run 1 = .ok (.ifCond .lt 10, 3) := by decide +kernel
theorem dX5_run_4 : decode cX5_run 4 = .ok (.iload_n 1, 1) := by decide +kernel
theorem dX5_run_5 : decode cX5_run 5 = .ok (.sipush 500, 3) := by decide +kernel
theorem dX5_run_8 : decode cX5_run 8 = .ok (.if_icmp .le 13, 3) := by decide +kernel
theorem dX5_run_11 : decode cX5_run 11 = .ok (.new 90, 3) := by decide +kernel
theorem dX5_run_14 : decode cX5_run 14 = .ok (.dup, 1) := by decide +kernel
theorem dX5_run_15 : decode cX5_run 15 = .ok (.ldc 95, 2) := by decide +kernel
theorem dX5_run_17 : decode cX5_run 17 = .ok (.invokespecial 94, 3) := by decide +kernel
theorem dX5_run_20 : decode cX5_run 20 = .ok (.athrow, 1) := by decide +kernel
theorem dX5_run_21 : decode cX5_run 21 = .ok (.iconst 0, 1) := by decide +kernel
theorem dX5_run_22 : decode cX5_run 22 = .ok (.istore_n 2, 1) := by decide +kernel
theorem dX5_run_23 : decode cX5_run 23 = .ok (.iload_n 2, 1) := by decide +kernel
theorem dX5_run_24 : decode cX5_run 24 = .ok (.iload_n 1, 1) := by decide +kernel
theorem dX5_run_25 : decode cX5_run 25 = .ok (.if_icmp .ge 86, 3) := by decide +kernel
theorem dX5_run_28 : decode cX5_run 28 = .ok (.aload_n 0, 1) := by decide +kernel
theorem dX5_run_29 : decode cX5_run 29 = .ok (.invokevirtual 97, 3) := by decide +kernel
theorem dX5_run_32 : decode cX5_run 32 = .ok (.istore_n 3, 1) := by decide +kernel
theorem dX5_run_33 : decode cX5_run 33 = .ok (.iload_n 3, 1) := by decide +kernel
theorem dX5_run_34 : decode cX5_run 34 = .ok (.iconst (-1), 1) := by decide +kernel
theorem dX5_run_35 : decode cX5_run 35 = .ok (.if_icmp .eq 18, 3) := by decide +kernel
theorem dX5_run_38 : decode cX5_run 38 = .ok (.aload_n 0, 1) := by decide +kernel
theorem dX5_run_39 : decode cX5_run 39 = .ok (.invokevirtual 101, 3) := by decide +kernel
theorem dX5_run_42 : decode cX5_run 42 = .ok (.aload_n 0, 1) := by decide +kernel
theorem dX5_run_43 : decode cX5_run 43 = .ok (.getfield 10, 3) := by decide +kernel
theorem dX5_run_46 : decode cX5_run 46 = .ok (.iload_n 3, 1) := by decide +kernel
theorem dX5_run_47 : decode cX5_run 47 = .ok (.invokevirtual 104, 3) := by decide +kernel
theorem dX5_run_50 : decode cX5_run 50 = .ok (.goto 55, 3) := by decide +kernel
theorem dX5_run_53 : decode cX5_run 53 = .ok (.aload_n 0, 1) := by decide +kernel
theorem dX5_run_54 : decode cX5_run 54 = .ok (.getfield 10, 3) := by decide +kernel
theorem dX5_run_57 : decode cX5_run 57 = .ok (.getfield 107, 3) := by decide +kernel
theorem dX5_run_60 : decode cX5_run 60 = .ok (.ifCond .eq 5, 3) := by decide +kernel
theorem dX5_run_63 : decode cX5_run 63 = .ok (.iconst 1, 1) := by decide +kernel
theorem dX5_run_64 : decode cX5_run 64 = .ok (.ireturn, 1) := by decide +kernel
theorem dX5_run_65 : decode cX5_run 65 = .ok (.aload_n 0, 1) := by decide +kernel
theorem dX5_run_66 : decode cX5_run 66 = .ok (.getfield 10, 3) := by decide +kernel
theorem dX5_run_69 : decode cX5_run 69 = .ok (.getfield 111, 3) := by decide +kernel
theorem dX5_run_72 : decode cX5_run 72 = .ok (.aload_n 0, 1) := by decide +kernel
theorem dX5_run_73 : decode cX5_run 73 = .ok (.getfield 10, 3) := by decide +kernel
theorem dX5_run_76 : decode cX5_run 76 = .ok (.getfield 69, 3) := by decide +kernel
theorem dX5_run_79 : decode cX5_run 79 = .ok (.aload_n 0, 1) := by decide +kernel
theorem dX5_run_80 : decode cX5_run 80 = .ok (.getfield 10, 3) := by decide +kernel
theorem dX5_run_83 : decode cX5_run 83 = .ok (.getfield 37, 3) := by decide +kernel
theorem dX5_run_86 : decode cX5_run 86 = .ok (.invokevirtual 115, 3) := by decide +kernel
theorem dX5_run_89 : decode cX5_run 89 = .ok (.ifCond .ne 5, 3) := by decide +kernel
theorem dX5_run_92 : decode cX5_run 92 = .ok (.iconst 2, 1) := by decide +kernel
theorem dX5_run_93 : decode cX5_run 93 = .ok (.ireturn, 1) := by decide +kernel
theorem dX5_run_94 : decode cX5_run 94 = .ok (.aload_n 0, 1) := by decide +kernel
theorem dX5_run_95 : decode cX5_run 95 = .ok (.invokevirtual 121, 3) := by decide +kernel
theorem dX5_run_98 : decode cX5_run 98 = .ok (.aload_n 0, 1) := by decide +kernel
theorem dX5_run_99 : decode cX5_run 99 = .ok (.getfield 10, 3) := by decide +kernel
theorem dX5_run_102 : decode cX5_run 102 = .ok (.invokevirtual 124, 3) := by decide +kernel
theorem dX5_run_105 : decode cX5_run 105 = .ok (.iinc 2 1, 3) := by decide +kernel
theorem dX5_run_108 : decode cX5_run 108 = .ok (.goto (-85), 3) := by decide +kernel
theorem dX5_run_111 : decode cX5_run 111 = .ok (.iconst 0, 1) := by decide +kernel
theorem dX5_run_112 : decode cX5_run 112 = .ok (.ireturn, 1) := by decide +kernel
theorem dX5_count_0 : decode cX5_count 0 = .ok (.iload_n 1, 1) := by decide +kernel
theorem dX5_count_1 : decode cX5_count 1 = .ok (.tableswitch 66 0 3 #[31, 36, 47, 58], 31) := by decide +kernel
theorem dX5_count_32 : decode cX5_count 32 = .ok (.aload_n 0, 1) := by decide +kernel
theorem dX5_count_33 : decode cX5_count 33 = .ok (.getfield 127, 3) := by decide +kernel
theorem dX5_count_36 : decode cX5_count 36 = .ok (.ireturn, 1) := by decide +kernel
theorem dX5_count_37 : decode cX5_count 37 = .ok (.aload_n 0, 1) := by decide +kernel
theorem dX5_count_38 : decode cX5_count 38 = .ok (.getfield 10, 3) := by decide +kernel
theorem dX5_count_41 : decode cX5_count 41 = .ok (.getfield 69, 3) := by decide +kernel
theorem dX5_count_44 : decode cX5_count 44 = .ok (.getfield 130, 3) := by decide +kernel
theorem dX5_count_47 : decode cX5_count 47 = .ok (.ireturn, 1) := by decide +kernel
theorem dX5_count_48 : decode cX5_count 48 = .ok (.aload_n 0, 1) := by decide +kernel
theorem dX5_count_49 : decode cX5_count 49 = .ok (.getfield 10, 3) := by decide +kernel
theorem dX5_count_52 : decode cX5_count 52 = .ok (.getfield 69, 3) := by decide +kernel
theorem dX5_count_55 : decode cX5_count 55 = .ok (.getfield 133, 3) := by decide +kernel
theorem dX5_count_58 : decode cX5_count 58 = .ok (.ireturn, 1) := by decide +kernel
theorem dX5_count_59 : decode cX5_count 59 = .ok (.aload_n 0, 1) := by decide +kernel
theorem dX5_count_60 : decode cX5_count 60 = .ok (.getfield 10, 3) := by decide +kernel
theorem dX5_count_63 : decode cX5_count 63 = .ok (.getfield 136, 3) := by decide +kernel
theorem dX5_count_66 : decode cX5_count 66 = .ok (.ireturn, 1) := by decide +kernel
theorem dX5_count_67 : decode cX5_count 67 = .ok (.new 90, 3) := by decide +kernel
theorem dX5_count_70 : decode cX5_count 70 = .ok (.dup, 1) := by decide +kernel
theorem dX5_count_71 : decode cX5_count 71 = .ok (.ldc 139, 2) := by decide +kernel
theorem dX5_count_73 : decode cX5_count 73 = .ok (.invokespecial 94, 3) := by decide +kernel
theorem dX5_count_76 : decode cX5_count 76 = .ok (.athrow, 1) := by decide +kernel
theorem dX5_takeDueInterrupt_0 : decode cX5_takeDueInterrupt 0 = .ok (.aload_n 0, 1) := by decide +kernel
theorem dX5_takeDueInterrupt_1 : decode cX5_takeDueInterrupt 1 = .ok (.getfield 141, 3) := by decide +kernel
theorem dX5_takeDueInterrupt_4 : decode cX5_takeDueInterrupt 4 = .ok (.ifCond .eq 5, 3) := by decide +kernel
theorem dX5_takeDueInterrupt_7 : decode cX5_takeDueInterrupt 7 = .ok (.iconst 1, 1) := by decide +kernel
theorem dX5_takeDueInterrupt_8 : decode cX5_takeDueInterrupt 8 = .ok (.ireturn, 1) := by decide +kernel
theorem dX5_takeDueInterrupt_9 : decode cX5_takeDueInterrupt 9 = .ok (.aload_n 0, 1) := by decide +kernel
theorem dX5_takeDueInterrupt_10 : decode cX5_takeDueInterrupt 10 = .ok (.getfield 144, 3) := by decide +kernel
theorem dX5_takeDueInterrupt_13 : decode cX5_takeDueInterrupt 13 = .ok (.ifCond .ne 19, 3) := by decide +kernel
theorem dX5_takeDueInterrupt_16 : decode cX5_takeDueInterrupt 16 = .ok (.aload_n 0, 1) := by decide +kernel
theorem dX5_takeDueInterrupt_17 : decode cX5_takeDueInterrupt 17 = .ok (.getfield 10, 3) := by decide +kernel
theorem dX5_takeDueInterrupt_20 : decode cX5_takeDueInterrupt 20 = .ok (.getfield 27, 3) := by decide +kernel
theorem dX5_takeDueInterrupt_23 : decode cX5_takeDueInterrupt 23 = .ok (.sipush 512, 3) := by decide +kernel
theorem dX5_takeDueInterrupt_26 : decode cX5_takeDueInterrupt 26 = .ok (.invokevirtual 147, 3) := by decide +kernel
theorem dX5_takeDueInterrupt_29 : decode cX5_takeDueInterrupt 29 = .ok (.ifCond .ne 5, 3) := by decide +kernel
theorem dX5_takeDueInterrupt_32 : decode cX5_takeDueInterrupt 32 = .ok (.iconst (-1), 1) := by decide +kernel
theorem dX5_takeDueInterrupt_33 : decode cX5_takeDueInterrupt 33 = .ok (.ireturn, 1) := by decide +kernel
theorem dX5_takeDueInterrupt_34 : decode cX5_takeDueInterrupt 34 = .ok (.aload_n 0, 1) := by decide +kernel
theorem dX5_takeDueInterrupt_35 : decode cX5_takeDueInterrupt 35 = .ok (.getfield 16, 3) := by decide +kernel
theorem dX5_takeDueInterrupt_38 : decode cX5_takeDueInterrupt 38 = .ok (.istore_n 1, 1) := by decide +kernel
theorem dX5_takeDueInterrupt_39 : decode cX5_takeDueInterrupt 39 = .ok (.aload_n 0, 1) := by decide +kernel
theorem dX5_takeDueInterrupt_40 : decode cX5_takeDueInterrupt 40 = .ok (.iconst (-1), 1) := by decide +kernel
theorem dX5_takeDueInterrupt_41 : decode cX5_takeDueInterrupt 41 = .ok (.putfield 16, 3) := by decide +kernel
theorem dX5_takeDueInterrupt_44 : decode cX5_takeDueInterrupt 44 = .ok (.iload_n 1, 1) := by decide +kernel
theorem dX5_takeDueInterrupt_45 : decode cX5_takeDueInterrupt 45 = .ok (.ireturn, 1) := by decide +kernel
theorem dX5_noteInterruptStep_0 : decode cX5_noteInterruptStep 0 = .ok (.aload_n 0, 1) := by decide +kernel
theorem dX5_noteInterruptStep_1 : decode cX5_noteInterruptStep 1 = .ok (.getfield 10, 3) := by decide +kernel
theorem dX5_noteInterruptStep_4 : decode cX5_noteInterruptStep 4 = .ok (.iconst 0, 1) := by decide +kernel
theorem dX5_noteInterruptStep_5 : decode cX5_noteInterruptStep 5 = .ok (.putfield 107, 3) := by decide +kernel
theorem dX5_noteInterruptStep_8 : decode cX5_noteInterruptStep 8 = .ok (.aload_n 0, 1) := by decide +kernel
theorem dX5_noteInterruptStep_9 : decode cX5_noteInterruptStep 9 = .ok (.iconst 0, 1) := by decide +kernel
theorem dX5_noteInterruptStep_10 : decode cX5_noteInterruptStep 10 = .ok (.putfield 141, 3) := by decide +kernel
theorem dX5_noteInterruptStep_13 : decode cX5_noteInterruptStep 13 = .ok (.aload_n 0, 1) := by decide +kernel
theorem dX5_noteInterruptStep_14 : decode cX5_noteInterruptStep 14 = .ok (.iconst 0, 1) := by decide +kernel
theorem dX5_noteInterruptStep_15 : decode cX5_noteInterruptStep 15 = .ok (.putfield 144, 3) := by decide +kernel
theorem dX5_noteInterruptStep_18 : decode cX5_noteInterruptStep 18 = .ok (.aload_n 0, 1) := by decide +kernel
theorem dX5_noteInterruptStep_19 : decode cX5_noteInterruptStep 19 = .ok (.dup, 1) := by decide +kernel
theorem dX5_noteInterruptStep_20 : decode cX5_noteInterruptStep 20 = .ok (.getfield 127, 3) := by decide +kernel
theorem dX5_noteInterruptStep_23 : decode cX5_noteInterruptStep 23 = .ok (.iconst 1, 1) := by decide +kernel
theorem dX5_noteInterruptStep_24 : decode cX5_noteInterruptStep 24 = .ok (.iadd, 1) := by decide +kernel
theorem dX5_noteInterruptStep_25 : decode cX5_noteInterruptStep 25 = .ok (.putfield 127, 3) := by decide +kernel
theorem dX5_noteInterruptStep_28 : decode cX5_noteInterruptStep 28 = .ok (.return_, 1) := by decide +kernel
theorem dX5_noteCodeStep_0 : decode cX5_noteCodeStep 0 = .ok (.aload_n 0, 1) := by decide +kernel
theorem dX5_noteCodeStep_1 : decode cX5_noteCodeStep 1 = .ok (.aload_n 0, 1) := by decide +kernel
theorem dX5_noteCodeStep_2 : decode cX5_noteCodeStep 2 = .ok (.getfield 10, 3) := by decide +kernel
theorem dX5_noteCodeStep_5 : decode cX5_noteCodeStep 5 = .ok (.getfield 111, 3) := by decide +kernel
theorem dX5_noteCodeStep_8 : decode cX5_noteCodeStep 8 = .ok (.invokevirtual 151, 3) := by decide +kernel
theorem dX5_noteCodeStep_11 : decode cX5_noteCodeStep 11 = .ok (.putfield 144, 3) := by decide +kernel
theorem dX5_noteCodeStep_14 : decode cX5_noteCodeStep 14 = .ok (.aload_n 0, 1) := by decide +kernel
theorem dX5_noteCodeStep_15 : decode cX5_noteCodeStep 15 = .ok (.aload_n 0, 1) := by decide +kernel
theorem dX5_noteCodeStep_16 : decode cX5_noteCodeStep 16 = .ok (.getfield 10, 3) := by decide +kernel
theorem dX5_noteCodeStep_19 : decode cX5_noteCodeStep 19 = .ok (.getfield 27, 3) := by decide +kernel
theorem dX5_noteCodeStep_22 : decode cX5_noteCodeStep 22 = .ok (.sipush 256, 3) := by decide +kernel
theorem dX5_noteCodeStep_25 : decode cX5_noteCodeStep 25 = .ok (.invokevirtual 147, 3) := by decide +kernel
theorem dX5_noteCodeStep_28 : decode cX5_noteCodeStep 28 = .ok (.ifCond .eq 14, 3) := by decide +kernel
theorem dX5_noteCodeStep_31 : decode cX5_noteCodeStep 31 = .ok (.aload_n 0, 1) := by decide +kernel
theorem dX5_noteCodeStep_32 : decode cX5_noteCodeStep 32 = .ok (.getfield 144, 3) := by decide +kernel
theorem dX5_noteCodeStep_35 : decode cX5_noteCodeStep 35 = .ok (.ifCond .ne 7, 3) := by decide +kernel
theorem dX5_noteCodeStep_38 : decode cX5_noteCodeStep 38 = .ok (.iconst 1, 1) := by decide +kernel
theorem dX5_noteCodeStep_39 : decode cX5_noteCodeStep 39 = .ok (.goto 4, 3) := by decide +kernel
theorem dX5_noteCodeStep_42 : decode cX5_noteCodeStep 42 = .ok (.iconst 0, 1) := by decide +kernel
theorem dX5_noteCodeStep_43 : decode cX5_noteCodeStep 43 = .ok (.putfield 141, 3) := by decide +kernel
theorem dX5_noteCodeStep_46 : decode cX5_noteCodeStep 46 = .ok (.aload_n 0, 1) := by decide +kernel
theorem dX5_noteCodeStep_47 : decode cX5_noteCodeStep 47 = .ok (.dup, 1) := by decide +kernel
theorem dX5_noteCodeStep_48 : decode cX5_noteCodeStep 48 = .ok (.getfield 127, 3) := by decide +kernel
theorem dX5_noteCodeStep_51 : decode cX5_noteCodeStep 51 = .ok (.iconst 1, 1) := by decide +kernel
theorem dX5_noteCodeStep_52 : decode cX5_noteCodeStep 52 = .ok (.iadd, 1) := by decide +kernel
theorem dX5_noteCodeStep_53 : decode cX5_noteCodeStep 53 = .ok (.putfield 127, 3) := by decide +kernel
theorem dX5_noteCodeStep_56 : decode cX5_noteCodeStep 56 = .ok (.return_, 1) := by decide +kernel
