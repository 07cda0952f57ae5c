theorem dX1_init_0 : decode cX1_init 0 = .ok (.aload_n 0, 1) := by decide +kernel
theorem dX1_init_1 : decode cX1_init 1 = .ok (.invokespecial 3, 3) := by decide +kernel
theorem dX1_init_4 : decode cX1_init 4 = .ok (.return_, 1) := by decide +kernel
theorem dX1_wide_0 : decode cX1_wide 0 = .ok (.aload_n 0, 1) := by decide +kernel
theorem dX1_wide_1 : decode cX1_wide 1 = .ok (.getfield 9, 3) := by decide +kernel
theorem dX1_wide_4 : decode cX1_wide 4 = .ok (.iconst 1, 1) := by decide +kernel
theorem dX1_wide_5 : decode cX1_wide 5 = .ok (.iand, 1) := by decide +kernel
theorem dX1_wide_6 : decode cX1_wide 6 = .ok (.ifCond .eq 7, 3) := by decide +kernel
theorem dX1_wide_9 : decode cX1_wide 9 = .ok (.iconst 1, 1) := by decide +kernel
theorem dX1_wide_10 : decode cX1_wide 10 = .ok (.goto 4, 3) := by decide +kernel
theorem dX1_wide_13 : decode cX1_wide 13 = .ok (.iconst 0, 1) := by decide +kernel
theorem dX1_wide_14 : decode cX1_wide 14 = .ok (.ireturn, 1) := by decide +kernel
theorem dX1_givesSegment_0 : decode cX1_givesSegment 0 = .ok (.aload_n 0, 1) := by decide +kernel
theorem dX1_givesSegment_1 : decode cX1_givesSegment 1 = .ok (.getfield 9, 3) := by decide +kernel
theorem dX1_givesSegment_4 : decode cX1_givesSegment 4 = .ok (.sipush 231, 3) := by decide +kernel
theorem dX1_givesSegment_7 : decode cX1_givesSegment 7 = .ok (.iand, 1) := by decide +kernel
theorem dX1_givesSegment_8 : decode cX1_givesSegment 8 = .ok (.bipush 7, 2) := by decide +kernel
theorem dX1_givesSegment_10 : decode cX1_givesSegment 10 = .ok (.if_icmp .eq 13, 3) := by decide +kernel
theorem dX1_givesSegment_13 : decode cX1_givesSegment 13 = .ok (.aload_n 0, 1) := by decide +kernel
theorem dX1_givesSegment_14 : decode cX1_givesSegment 14 = .ok (.getfield 9, 3) := by decide +kernel
theorem dX1_givesSegment_17 : decode cX1_givesSegment 17 = .ok (.sipush 142, 3) := by decide +kernel
theorem dX1_givesSegment_20 : decode cX1_givesSegment 20 = .ok (.if_icmp .ne 7, 3) := by decide +kernel
theorem dX1_givesSegment_23 : decode cX1_givesSegment 23 = .ok (.iconst 1, 1) := by decide +kernel
theorem dX1_givesSegment_24 : decode cX1_givesSegment 24 = .ok (.goto 4, 3) := by decide +kernel
theorem dX1_givesSegment_27 : decode cX1_givesSegment 27 = .ok (.iconst 0, 1) := by decide +kernel
theorem dX1_givesSegment_28 : decode cX1_givesSegment 28 = .ok (.ireturn, 1) := by decide +kernel
theorem dX1_isString_0 : decode cX1_isString 0 = .ok (.aload_n 0, 1) := by decide +kernel
theorem dX1_isString_1 : decode cX1_isString 1 = .ok (.getfield 9, 3) := by decide +kernel
theorem dX1_isString_4 : decode cX1_isString 4 = .ok (.sipush 164, 3) := by decide +kernel
theorem dX1_isString_7 : decode cX1_isString 7 = .ok (.if_icmp .lt 37, 3) := by decide +kernel
theorem dX1_isString_10 : decode cX1_isString 10 = .ok (.aload_n 0, 1) := by decide +kernel
theorem dX1_isString_11 : decode cX1_isString 11 = .ok (.getfield 9, 3) := by decide +kernel
theorem dX1_isString_14 : decode cX1_isString 14 = .ok (.sipush 175, 3) := by decide +kernel
theorem dX1_isString_17 : decode cX1_isString 17 = .ok (.if_icmp .gt 27, 3) := by decide +kernel
theorem dX1_isString_20 : decode cX1_isString 20 = .ok (.aload_n 0, 1) := by decide +kernel
theorem dX1_isString_21 : decode cX1_isString 21 = .ok (.getfield 9, 3) := by decide +kernel
theorem dX1_isString_24 : decode cX1_isString 24 = .ok (.sipush 168, 3) := by decide +kernel
theorem dX1_isString_27 : decode cX1_isString 27 = .ok (.if_icmp .eq 17, 3) := by decide +kernel
theorem dX1_isString_30 : decode cX1_isString 30 = .ok (.aload_n 0, 1) := by decide +kernel
theorem dX1_isString_31 : decode cX1_isString 31 = .ok (.getfield 9, 3) := by decide +kernel
theorem dX1_isString_34 : decode cX1_isString 34 = .ok (.sipush 169, 3) := by decide +kernel
theorem dX1_isString_37 : decode cX1_isString 37 = .ok (.if_icmp .eq 7, 3) := by decide +kernel
theorem dX1_isString_40 : decode cX1_isString 40 = .ok (.iconst 1, 1) := by decide +kernel
theorem dX1_isString_41 : decode cX1_isString 41 = .ok (.goto 4, 3) := by decide +kernel
theorem dX1_isString_44 : decode cX1_isString 44 = .ok (.iconst 0, 1) := by decide +kernel
theorem dX1_isString_45 : decode cX1_isString 45 = .ok (.ireturn, 1) := by decide +kernel
theorem dX1_compares_0 : decode cX1_compares 0 = .ok (.aload_n 0, 1) := by decide +kernel
theorem dX1_compares_1 : decode cX1_compares 1 = .ok (.getfield 9, 3) := by decide +kernel
theorem dX1_compares_4 : decode cX1_compares 4 = .ok (.bipush 6, 2) := by decide +kernel
theorem dX1_compares_6 : decode cX1_compares 6 = .ok (.iand, 1) := by decide +kernel
theorem dX1_compares_7 : decode cX1_compares 7 = .ok (.bipush 6, 2) := by decide +kernel
theorem dX1_compares_9 : decode cX1_compares 9 = .ok (.if_icmp .ne 7, 3) := by decide +kernel
theorem dX1_compares_12 : decode cX1_compares 12 = .ok (.iconst 1, 1) := by decide +kernel
theorem dX1_compares_13 : decode cX1_compares 13 = .ok (.goto 4, 3) := by decide +kernel
theorem dX1_compares_16 : decode cX1_compares 16 = .ok (.iconst 0, 1) := by decide +kernel
theorem dX1_compares_17 : decode cX1_compares 17 = .ok (.ireturn, 1) := by decide +kernel
theorem dX1_inRegister_0 : decode cX1_inRegister 0 = .ok (.aload_n 0, 1) := by decide +kernel
theorem dX1_inRegister_1 : decode cX1_inRegister 1 = .ok (.getfield 15, 3) := by decide +kernel
theorem dX1_inRegister_4 : decode cX1_inRegister 4 = .ok (.iconst 3, 1) := by decide +kernel
theorem dX1_inRegister_5 : decode cX1_inRegister 5 = .ok (.if_icmp .ne 7, 3) := by decide +kernel
theorem dX1_inRegister_8 : decode cX1_inRegister 8 = .ok (.iconst 1, 1) := by decide +kernel
theorem dX1_inRegister_9 : decode cX1_inRegister 9 = .ok (.goto 4, 3) := by decide +kernel
theorem dX1_inRegister_12 : decode cX1_inRegister 12 = .ok (.iconst 0, 1) := by decide +kernel
theorem dX1_inRegister_13 : decode cX1_inRegister 13 = .ok (.ireturn, 1) := by decide +kernel
theorem dX1_segmentOr_0 : decode cX1_segmentOr 0 = .ok (.aload_n 0, 1) := by decide +kernel
theorem dX1_segmentOr_1 : decode cX1_segmentOr 1 = .ok (.getfield 18, 3) := by decide +kernel
theorem dX1_segmentOr_4 : decode cX1_segmentOr 4 = .ok (.iconst (-1), 1) := by decide +kernel
theorem dX1_segmentOr_5 : decode cX1_segmentOr 5 = .ok (.if_icmp .ne 7, 3) := by decide +kernel
theorem dX1_segmentOr_8 : decode cX1_segmentOr 8 = .ok (.iload_n 1, 1) := by decide +kernel
theorem dX1_segmentOr_9 : decode cX1_segmentOr 9 = .ok (.goto 7, 3) := by decide +kernel
theorem dX1_segmentOr_12 : decode cX1_segmentOr 12 = .ok (.aload_n 0, 1) := by decide +kernel
theorem dX1_segmentOr_13 : decode cX1_segmentOr 13 = .ok (.getfield 18, 3) := by decide +kernel
theorem dX1_segmentOr_16 : decode cX1_segmentOr 16 = .ok (.ireturn, 1) := by decide +kernel
theorem dX1_find_0 : decode cX1_find 0 = .ok (.aload_n 0, 1) := by decide +kernel
theorem dX1_find_1 : decode cX1_find 1 = .ok (.aload_n 2, 1) := by decide +kernel
theorem dX1_find_2 : decode cX1_find 2 = .ok (.getfield 21, 3) := by decide +kernel
theorem dX1_find_5 : decode cX1_find 5 = .ok (.putfield 26, 3) := by decide +kernel
theorem dX1_find_8 : decode cX1_find 8 = .ok (.aload_n 0, 1) := by decide +kernel
theorem dX1_find_9 : decode cX1_find 9 = .ok (.iconst 0, 1) := by decide +kernel
theorem dX1_find_10 : decode cX1_find 10 = .ok (.putfield 29, 3) := by decide +kernel
theorem dX1_find_13 : decode cX1_find 13 = .ok (.aload_n 0, 1) := by decide +kernel
theorem dX1_find_14 : decode cX1_find 14 = .ok (.iconst (-1), 1) := by decide +kernel
theorem dX1_find_15 : decode cX1_find 15 = .ok (.putfield 18, 3) := by decide +kernel
theorem dX1_find_18 : decode cX1_find 18 = .ok (.aload_n 0, 1) := by decide +kernel
theorem dX1_find_19 : decode cX1_find 19 = .ok (.iconst (-1), 1) := by decide +kernel
theorem dX1_find_20 : decode cX1_find 20 = .ok (.putfield 32, 3) := by decide +kernel
theorem dX1_find_23 : decode cX1_find 23 = .ok (.aload_n 0, 1) := by decide +kernel
theorem dX1_find_24 : decode cX1_find 24 = .ok (.aload_n 1, 1) := by decide +kernel
theorem dX1_find_25 : decode cX1_find 25 = .ok (.aload_n 2, 1) := by decide +kernel
theorem dX1_find_26 : decode cX1_find 26 = .ok (.invokevirtual 35, 3) := by decide +kernel
theorem dX1_find_29 : decode cX1_find 29 = .ok (.aload_n 0, 1) := by decide +kernel
theorem dX1_find_30 : decode cX1_find 30 = .ok (.aload_n 1, 1) := by decide +kernel
theorem dX1_find_31 : decode cX1_find 31 = .ok (.aload_n 2, 1) := by decide +kernel
theorem dX1_find_32 : decode cX1_find 32 = .ok (.invokevirtual 39, 3) := by decide +kernel
theorem dX1_find_35 : decode cX1_find 35 = .ok (.aload_n 0, 1) := by decide +kernel
theorem dX1_find_36 : decode cX1_find 36 = .ok (.getfield 29, 3) := by decide +kernel
theorem dX1_find_39 : decode cX1_find 39 = .ok (.bipush 15, 2) := by decide +kernel
theorem dX1_find_41 : decode cX1_find 41 = .ok (.if_icmp .gt 26, 3) := by decide +kernel
theorem dX1_find_44 : decode cX1_find 44 = .ok (.aload_n 0, 1) := by decide +kernel
theorem dX1_find_45 : decode cX1_find 45 = .ok (.getfield 9, 3) := by decide +kernel
theorem dX1_find_48 : decode cX1_find 48 = .ok (.invokestatic 42, 3) := by decide +kernel
theorem dX1_find_51 : decode cX1_find 51 = .ok (.bipush 9, 2) := by decide +kernel
theorem dX1_find_53 : decode cX1_find 53 = .ok (.if_icmp .eq 14, 3) := by decide +kernel
theorem dX1_find_56 : decode cX1_find 56 = .ok (.aload_n 0, 1) := by decide +kernel
theorem dX1_find_57 : decode cX1_find 57 = .ok (.invokevirtual 46, 3) := by decide +kernel
theorem dX1_find_60 : decode cX1_find 60 = .ok (.ifCond .eq 7, 3) := by decide +kernel
theorem dX1_find_63 : decode cX1_find 63 = .ok (.iconst 1, 1) := by decide +kernel
theorem dX1_find_64 : decode cX1_find 64 = .ok (.goto 4, 3) := by decide +kernel
theorem dX1_find_67 : decode cX1_find 67 = .ok (.iconst 0, 1) := by decide +kernel
theorem dX1_find_68 : decode cX1_find 68 = .ok (.istore_n 3, 1) := by decide +kernel
theorem dX1_find_69 : decode cX1_find 69 = .ok (.iload_n 3, 1) := by decide +kernel
theorem dX1_find_70 : decode cX1_find 70 = .ok (.ifCond .ne 11, 3) := by decide +kernel
theorem dX1_find_73 : decode cX1_find 73 = .ok (.aload_n 2, 1) := by decide +kernel
theorem dX1_find_74 : decode cX1_find 74 = .ok (.aload_n 0, 1) := by decide +kernel
theorem dX1_find_75 : decode cX1_find 75 = .ok (.getfield 26, 3) := by decide +kernel
theorem dX1_find_78 : decode cX1_find 78 = .ok (.invokevirtual 50, 3) := by decide +kernel
theorem dX1_find_81 : decode cX1_find 81 = .ok (.iload_n 3, 1) := by decide +kernel
theorem dX1_find_82 : decode cX1_find 82 = .ok (.ireturn, 1) := by decide +kernel
theorem dX1_formOf_0 : decode cX1_formOf 0 = .ok (.getstatic 54, 3) := by decide +kernel
theorem dX1_formOf_3 : decode cX1_formOf 3 = .ok (.iload_n 0, 1) := by decide +kernel
theorem dX1_formOf_4 : decode cX1_formOf 4 = .ok (.sipush 255, 3) := by decide +kernel
theorem dX1_formOf_7 : decode cX1_formOf 7 = .ok (.iand, 1) := by decide +kernel
theorem dX1_formOf_8 : decode cX1_formOf 8 = .ok (.iaload, 1) := by decide +kernel
theorem dX1_formOf_9 : decode cX1_formOf 9 = .ok (.ireturn, 1) := by decide +kernel
theorem dX1_fetch_0 : decode cX1_fetch 0 = .ok (.aload_n 1, 1) := by decide +kernel
theorem dX1_fetch_1 : decode cX1_fetch 1 = .ok (.aload_n 2, 1) := by decide +kernel
theorem dX1_fetch_2 : decode cX1_fetch 2 = .ok (.iconst 1, 1) := by decide +kernel
theorem dX1_fetch_3 : decode cX1_fetch 3 = .ok (.invokevirtual 58, 3) := by decide +kernel
theorem dX1_fetch_6 : decode cX1_fetch 6 = .ok (.aload_n 2, 1) := by decide +kernel
theorem dX1_fetch_7 : decode cX1_fetch 7 = .ok (.getfield 21, 3) := by decide +kernel
theorem dX1_fetch_10 : decode cX1_fetch 10 = .ok (.iconst 0, 1) := by decide +kernel
theorem dX1_fetch_11 : decode cX1_fetch 11 = .ok (.invokevirtual 61, 3) := by decide +kernel
theorem dX1_fetch_14 : decode cX1_fetch 14 = .ok (.istore_n 3, 1) := by decide +kernel
theorem dX1_fetch_15 : decode cX1_fetch 15 = .ok (.aload_n 2, 1) := by decide +kernel
theorem dX1_fetch_16 : decode cX1_fetch 16 = .ok (.aload_n 2, 1) := by decide +kernel
theorem dX1_fetch_17 : decode cX1_fetch 17 = .ok (.getfield 21, 3) := by decide +kernel
theorem dX1_fetch_20 : decode cX1_fetch 20 = .ok (.iconst 1, 1) := by decide +kernel
theorem dX1_fetch_21 : decode cX1_fetch 21 = .ok (.iadd, 1) := by decide +kernel
theorem dX1_fetch_22 : decode cX1_fetch 22 = .ok (.invokevirtual 50, 3) := by decide +kernel
theorem dX1_fetch_25 : decode cX1_fetch 25 = .ok (.aload_n 0, 1) := by decide +kernel
theorem dX1_fetch_26 : decode cX1_fetch 26 = .ok (.dup, 1) := by decide +kernel
theorem dX1_fetch_27 : decode cX1_fetch 27 = .ok (.getfield 29, 3) := by decide +kernel
theorem dX1_fetch_30 : decode cX1_fetch 30 = .ok (.iconst 1, 1) := by decide +kernel
theorem dX1_fetch_31 : decode cX1_fetch 31 = .ok (.iadd, 1) := by decide +kernel
theorem dX1_fetch_32 : decode cX1_fetch 32 = .ok (.putfield 29, 3) := by decide +kernel
theorem dX1_fetch_35 : decode cX1_fetch 35 = .ok (.iload_n 3, 1) := by decide +kernel
theorem dX1_fetch_36 : decode cX1_fetch 36 = .ok (.ireturn, 1) := by decide +kernel
theorem dX1_fetchWord_0 : decode cX1_fetchWord 0 = .ok (.aload_n 0, 1) := by decide +kernel
theorem dX1_fetchWord_1 : decode cX1_fetchWord 1 = .ok (.aload_n 1, 1) := by decide +kernel
theorem dX1_fetchWord_2 : decode cX1_fetchWord 2 = .ok (.aload_n 2, 1) := by decide +kernel
theorem dX1_fetchWord_3 : decode cX1_fetchWord 3 = .ok (.invokevirtual 67, 3) := by decide +kernel
theorem dX1_fetchWord_6 : decode cX1_fetchWord 6 = .ok (.istore_n 3, 1) := by decide +kernel
theorem dX1_fetchWord_7 : decode cX1_fetchWord 7 = .ok (.iload_n 3, 1) := by decide +kernel
theorem dX1_fetchWord_8 : decode cX1_fetchWord 8 = .ok (.aload_n 0, 1) := by decide +kernel
theorem dX1_fetchWord_9 : decode cX1_fetchWord 9 = .ok (.aload_n 1, 1) := by decide +kernel
theorem dX1_fetchWord_10 : decode cX1_fetchWord 10 = .ok (.aload_n 2, 1) := by decide +kernel
theorem dX1_fetchWord_11 : decode cX1_fetchWord 11 = .ok (.invokevirtual 67, 3) := by decide +kernel
theorem dX1_fetchWord_14 : decode cX1_fetchWord 14 = .ok (.bipush 8, 2) := by decide +kernel
theorem dX1_fetchWord_16 : decode cX1_fetchWord 16 = .ok (.ishl, 1) := by decide +kernel
theorem dX1_fetchWord_17 : decode cX1_fetchWord 17 = .ok (.ior, 1) := by decide +kernel
theorem dX1_fetchWord_18 : decode cX1_fetchWord 18 = .ok (.ireturn, 1) := by decide +kernel
theorem dX1_fetchNumber_0 : decode cX1_fetchNumber 0 = .ok (.aload_n 0, 1) := by decide +kernel
theorem dX1_fetchNumber_1 : decode cX1_fetchNumber 1 = .ok (.aload_n 0, 1) := by decide +kernel
theorem dX1_fetchNumber_2 : decode cX1_fetchNumber 2 = .ok (.aload_n 1, 1) := by decide +kernel
theorem dX1_fetchNumber_3 : decode cX1_fetchNumber 3 = .ok (.aload_n 2, 1) := by decide +kernel
theorem dX1_fetchNumber_4 : decode cX1_fetchNumber 4 = .ok (.invokevirtual 67, 3) := by decide +kernel
theorem dX1_fetchNumber_7 : decode cX1_fetchNumber 7 = .ok (.putfield 9, 3) := by decide +kernel
theorem dX1_fetchNumber_10 : decode cX1_fetchNumber 10 = .ok (.iconst 1, 1) := by decide +kernel
theorem dX1_fetchNumber_11 : decode cX1_fetchNumber 11 = .ok (.istore_n 3, 1) := by decide +kernel
theorem dX1_fetchNumber_12 : decode cX1_fetchNumber 12 = .ok (.iload_n 3, 1) := by decide +kernel
theorem dX1_fetchNumber_13 : decode cX1_fetchNumber 13 = .ok (.bipush 15, 2) := by decide +kernel
theorem dX1_fetchNumber_15 : decode cX1_fetchNumber 15 = .ok (.if_icmp .ge 35, 3) := by decide +kernel
theorem dX1_fetchNumber_18 : decode cX1_fetchNumber 18 = .ok (.aload_n 0, 1) := by decide +kernel
theorem dX1_fetchNumber_19 : decode cX1_fetchNumber 19 = .ok (.getfield 9, 3) := by decide +kernel
theorem dX1_fetchNumber_22 : decode cX1_fetchNumber 22 = .ok (.invokestatic 42, 3) := by decide +kernel
theorem dX1_fetchNumber_25 : decode cX1_fetchNumber 25 = .ok (.bipush 9, 2) := by decide +kernel
theorem dX1_fetchNumber_27 : decode cX1_fetchNumber 27 = .ok (.if_icmp .ne 23, 3) := by decide +kernel
theorem dX1_fetchNumber_30 : decode cX1_fetchNumber 30 = .ok (.aload_n 0, 1) := by decide +kernel
theorem dX1_fetchNumber_31 : decode cX1_fetchNumber 31 = .ok (.invokevirtual 71, 3) := by decide +kernel
theorem dX1_fetchNumber_34 : decode cX1_fetchNumber 34 = .ok (.aload_n 0, 1) := by decide +kernel
theorem dX1_fetchNumber_35 : decode cX1_fetchNumber 35 = .ok (.aload_n 0, 1) := by decide +kernel
theorem dX1_fetchNumber_36 : decode cX1_fetchNumber 36 = .ok (.aload_n 1, 1) := by decide +kernel
theorem dX1_fetchNumber_37 : decode cX1_fetchNumber 37 = .ok (.aload_n 2, 1) := by decide +kernel
theorem dX1_fetchNumber_38 : decode cX1_fetchNumber 38 = .ok (.invokevirtual 67, 3) := by decide +kernel
theorem dX1_fetchNumber_41 : decode cX1_fetchNumber 41 = .ok (.putfield 9, 3) := by decide +kernel
theorem dX1_fetchNumber_44 : decode cX1_fetchNumber 44 = .ok (.iinc 3 1, 3) := by decide +kernel
theorem dX1_fetchNumber_47 : decode cX1_fetchNumber 47 = .ok (.goto (-35), 3) := by decide +kernel
theorem dX1_fetchNumber_50 : decode cX1_fetchNumber 50 = .ok (.return_, 1) := by decide +kernel
theorem dX1_keepPrefix_0 : decode cX1_keepPrefix 0 = .ok (.aload_n 0, 1) := by decide +kernel
theorem dX1_keepPrefix_1 : decode cX1_keepPrefix 1 = .ok (.getfield 9, 3) := by decide +kernel
theorem dX1_keepPrefix_4 : decode cX1_keepPrefix 4 = .ok (.bipush 64, 2) := by decide +kernel
theorem dX1_keepPrefix_6 : decode cX1_keepPrefix 6 = .ok (.if_icmp .ge 18, 3) := by decide +kernel
theorem dX1_keepPrefix_9 : decode cX1_keepPrefix 9 = .ok (.aload_n 0, 1) := by decide +kernel
theorem dX1_keepPrefix_10 : decode cX1_keepPrefix 10 = .ok (.aload_n 0, 1) := by decide +kernel
theorem dX1_keepPrefix_11 : decode cX1_keepPrefix 11 = .ok (.getfield 9, 3) := by decide +kernel
theorem dX1_keepPrefix_14 : decode cX1_keepPrefix 14 = .ok (.iconst 3, 1) := by decide +kernel
theorem dX1_keepPrefix_15 : decode cX1_keepPrefix 15 = .ok (.ishr, 1) := by decide +kernel
theorem dX1_keepPrefix_16 : decode cX1_keepPrefix 16 = .ok (.iconst 3, 1) := by decide +kernel
theorem dX1_keepPrefix_17 : decode cX1_keepPrefix 17 = .ok (.iand, 1) := by decide +kernel
theorem dX1_keepPrefix_18 : decode cX1_keepPrefix 18 = .ok (.putfield 18, 3) := by decide +kernel
theorem dX1_keepPrefix_21 : decode cX1_keepPrefix 21 = .ok (.goto 21, 3) := by decide +kernel
theorem dX1_keepPrefix_24 : decode cX1_keepPrefix 24 = .ok (.aload_n 0, 1) := by decide +kernel
theorem dX1_keepPrefix_25 : decode cX1_keepPrefix 25 = .ok (.getfield 9, 3) := by decide +kernel
theorem dX1_keepPrefix_28 : decode cX1_keepPrefix 28 = .ok (.sipush 242, 3) := by decide +kernel
theorem dX1_keepPrefix_31 : decode cX1_keepPrefix 31 = .ok (.if_icmp .lt 11, 3) := by decide +kernel
theorem dX1_keepPrefix_34 : decode cX1_keepPrefix 34 = .ok (.aload_n 0, 1) := by decide +kernel
theorem dX1_keepPrefix_35 : decode cX1_keepPrefix 35 = .ok (.aload_n 0, 1) := by decide +kernel
theorem dX1_keepPrefix_36 : decode cX1_keepPrefix 36 = .ok (.getfield 9, 3) := by decide +kernel
theorem dX1_keepPrefix_39 : decode cX1_keepPrefix 39 = .ok (.putfield 32, 3) := by decide +kernel
theorem dX1_keepPrefix_42 : decode cX1_keepPrefix 42 = .ok (.return_, 1) := by decide +kernel
theorem dX1_fetchRest_0 : decode cX1_fetchRest 0 = .ok (.aload_n 0, 1) := by decide +kernel
theorem dX1_fetchRest_1 : decode cX1_fetchRest 1 = .ok (.getfield 9, 3) := by decide +kernel
theorem dX1_fetchRest_4 : decode cX1_fetchRest 4 = .ok (.invokestatic 42, 3) := by decide +kernel
theorem dX1_fetchRest_7 : decode cX1_fetchRest 7 = .ok (.istore_n 3, 1) := by decide +kernel
theorem dX1_fetchRest_8 : decode cX1_fetchRest 8 = .ok (.iload_n 3, 1) := by decide +kernel
theorem dX1_fetchRest_9 : decode cX1_fetchRest 9 = .ok (.invokestatic 74, 3) := by decide +kernel
theorem dX1_fetchRest_12 : decode cX1_fetchRest 12 = .ok (.ifCond .eq 9, 3) := by decide +kernel
theorem dX1_fetchRest_15 : decode cX1_fetchRest 15 = .ok (.aload_n 0, 1) := by decide +kernel
theorem dX1_fetchRest_16 : decode cX1_fetchRest 16 = .ok (.aload_n 1, 1) := by decide +kernel
theorem dX1_fetchRest_17 : decode cX1_fetchRest 17 = .ok (.aload_n 2, 1) := by decide +kernel
theorem dX1_fetchRest_18 : decode cX1_fetchRest 18 = .ok (.invokevirtual 78, 3) := by decide +kernel
theorem dX1_fetchRest_21 : decode cX1_fetchRest 21 = .ok (.iload_n 3, 1) := by decide +kernel
theorem dX1_fetchRest_22 : decode cX1_fetchRest 22 = .ok (.iconst 1, 1) := by decide +kernel
theorem dX1_fetchRest_23 : decode cX1_fetchRest 23 = .ok (.if_icmp .eq 22, 3) := by decide +kernel
theorem dX1_fetchRest_26 : decode cX1_fetchRest 26 = .ok (.iload_n 3, 1) := by decide +kernel
theorem dX1_fetchRest_27 : decode cX1_fetchRest 27 = .ok (.iconst 4, 1) := by decide +kernel
theorem dX1_fetchRest_28 : decode cX1_fetchRest 28 = .ok (.if_icmp .eq 17, 3) := by decide +kernel
theorem dX1_fetchRest_31 : decode cX1_fetchRest 31 = .ok (.iload_n 3, 1) := by decide +kernel
theorem dX1_fetchRest_32 : decode cX1_fetchRest 32 = .ok (.bipush 7, 2) := by decide +kernel
theorem dX1_fetchRest_34 : decode cX1_fetchRest 34 = .ok (.if_icmp .ne 24, 3) := by decide +kernel
theorem dX1_fetchRest_37 : decode cX1_fetchRest 37 = .ok (.aload_n 0, 1) := by decide +kernel
theorem dX1_fetchRest_38 : decode cX1_fetchRest 38 = .ok (.getfield 81, 3) := by decide +kernel
theorem dX1_fetchRest_41 : decode cX1_fetchRest 41 = .ok (.iconst 2, 1) := by decide +kernel
theorem dX1_fetchRest_42 : decode cX1_fetchRest 42 = .ok (.if_icmp .ge 16, 3) := by decide +kernel
theorem dX1_fetchRest_45 : decode cX1_fetchRest 45 = .ok (.aload_n 0, 1) := by decide +kernel
theorem dX1_fetchRest_46 : decode cX1_fetchRest 46 = .ok (.aload_n 0, 1) := by decide +kernel
theorem dX1_fetchRest_47 : decode cX1_fetchRest 47 = .ok (.aload_n 1, 1) := by decide +kernel
theorem dX1_fetchRest_48 : decode cX1_fetchRest 48 = .ok (.aload_n 2, 1) := by decide +kernel
theorem dX1_fetchRest_49 : decode cX1_fetchRest 49 = .ok (.invokevirtual 67, 3) := by decide +kernel
theorem dX1_fetchRest_52 : decode cX1_fetchRest 52 = .ok (.putfield 84, 3) := by decide +kernel
theorem dX1_fetchRest_55 : decode cX1_fetchRest 55 = .ok (.goto 66, 3) := by decide +kernel
theorem dX1_fetchRest_58 : decode cX1_fetchRest 58 = .ok (.iload_n 3, 1) := by decide +kernel
theorem dX1_fetchRest_59 : decode cX1_fetchRest 59 = .ok (.iconst 2, 1) := by decide +kernel
theorem dX1_fetchRest_60 : decode cX1_fetchRest 60 = .ok (.if_icmp .eq 22, 3) := by decide +kernel
theorem dX1_fetchRest_63 : decode cX1_fetchRest 63 = .ok (.iload_n 3, 1) := by decide +kernel
theorem dX1_fetchRest_64 : decode cX1_fetchRest 64 = .ok (.iconst 5, 1) := by decide +kernel
theorem dX1_fetchRest_65 : decode cX1_fetchRest 65 = .ok (.if_icmp .eq 17, 3) := by decide +kernel
theorem dX1_fetchRest_68 : decode cX1_fetchRest 68 = .ok (.iload_n 3, 1) := by decide +kernel
theorem dX1_fetchRest_69 : decode cX1_fetchRest 69 = .ok (.bipush 8, 2) := by decide +kernel
theorem dX1_fetchRest_71 : decode cX1_fetchRest 71 = .ok (.if_icmp .ne 24, 3) := by decide +kernel
theorem dX1_fetchRest_74 : decode cX1_fetchRest 74 = .ok (.aload_n 0, 1) := by decide +kernel
theorem dX1_fetchRest_75 : decode cX1_fetchRest 75 = .ok (.getfield 81, 3) := by decide +kernel
theorem dX1_fetchRest_78 : decode cX1_fetchRest 78 = .ok (.iconst 2, 1) := by decide +kernel
theorem dX1_fetchRest_79 : decode cX1_fetchRest 79 = .ok (.if_icmp .ge 16, 3) := by decide +kernel
theorem dX1_fetchRest_82 : decode cX1_fetchRest 82 = .ok (.aload_n 0, 1) := by decide +kernel
theorem dX1_fetchRest_83 : decode cX1_fetchRest 83 = .ok (.aload_n 0, 1) := by decide +kernel
theorem dX1_fetchRest_84 : decode cX1_fetchRest 84 = .ok (.aload_n 1, 1) := by decide +kernel
theorem dX1_fetchRest_85 : decode cX1_fetchRest 85 = .ok (.aload_n 2, 1) := by decide +kernel
theorem dX1_fetchRest_86 : decode cX1_fetchRest 86 = .ok (.invokevirtual 87, 3) := by decide +kernel
theorem dX1_fetchRest_89 : decode cX1_fetchRest 89 = .ok (.putfield 84, 3) := by decide +kernel
theorem dX1_fetchRest_92 : decode cX1_fetchRest 92 = .ok (.goto 29, 3) := by decide +kernel
theorem dX1_fetchRest_95 : decode cX1_fetchRest 95 = .ok (.iload_n 3, 1) := by decide +kernel
theorem dX1_fetchRest_96 : decode cX1_fetchRest 96 = .ok (.bipush 6, 2) := by decide +kernel
theorem dX1_fetchRest_98 : decode cX1_fetchRest 98 = .ok (.if_icmp .ne 23, 3) := by decide +kernel
theorem dX1_fetchRest_101 : decode cX1_fetchRest 101 = .ok (.aload_n 0, 1) := by decide +kernel
theorem dX1_fetchRest_102 : decode cX1_fetchRest 102 = .ok (.aload_n 0, 1) := by decide +kernel
theorem dX1_fetchRest_103 : decode cX1_fetchRest 103 = .ok (.aload_n 1, 1) := by decide +kernel
theorem dX1_fetchRest_104 : decode cX1_fetchRest 104 = .ok (.aload_n 2, 1) := by decide +kernel
theorem dX1_fetchRest_105 : decode cX1_fetchRest 105 = .ok (.invokevirtual 87, 3) := by decide +kernel
theorem dX1_fetchRest_108 : decode cX1_fetchRest 108 = .ok (.putfield 84, 3) := by decide +kernel
theorem dX1_fetchRest_111 : decode cX1_fetchRest 111 = .ok (.aload_n 0, 1) := by decide +kernel
theorem dX1_fetchRest_112 : decode cX1_fetchRest 112 = .ok (.aload_n 0, 1) := by decide +kernel
theorem dX1_fetchRest_113 : decode cX1_fetchRest 113 = .ok (.aload_n 1, 1) := by decide +kernel
theorem dX1_fetchRest_114 : decode cX1_fetchRest 114 = .ok (.aload_n 2, 1) := by decide +kernel
theorem dX1_fetchRest_115 : decode cX1_fetchRest 115 = .ok (.invokevirtual 87, 3) := by decide +kernel
theorem dX1_fetchRest_118 : decode cX1_fetchRest 118 = .ok (.putfield 90, 3) := by decide +kernel
theorem dX1_fetchRest_121 : decode cX1_fetchRest 121 = .ok (.return_, 1) := by decide +kernel
theorem dX1_hasM_0 : decode cX1_hasM 0 = .ok (.iload_n 0, 1) := by decide +kernel
theorem dX1_hasM_1 : decode cX1_hasM 1 = .ok (.iconst 3, 1) := by decide +kernel
theorem dX1_hasM_2 : decode cX1_hasM 2 = .ok (.if_icmp .eq 25, 3) := by decide +kernel
theorem dX1_hasM_5 : decode cX1_hasM 5 = .ok (.iload_n 0, 1) := by decide +kernel
theorem dX1_hasM_6 : decode cX1_hasM 6 = .ok (.iconst 4, 1) := by decide +kernel
theorem dX1_hasM_7 : decode cX1_hasM 7 = .ok (.if_icmp .eq 20, 3) := by decide +kernel
theorem dX1_hasM_10 : decode cX1_hasM 10 = .ok (.iload_n 0, 1) := by decide +kernel
theorem dX1_hasM_11 : decode cX1_hasM 11 = .ok (.iconst 5, 1) := by decide +kernel
theorem dX1_hasM_12 : decode cX1_hasM 12 = .ok (.if_icmp .eq 15, 3) := by decide +kernel
theorem dX1_hasM_15 : decode cX1_hasM 15 = .ok (.iload_n 0, 1) := by decide +kernel
theorem dX1_hasM_16 : decode cX1_hasM 16 = .ok (.bipush 7, 2) := by decide +kernel
theorem dX1_hasM_18 : decode cX1_hasM 18 = .ok (.if_icmp .eq 9, 3) := by decide +kernel
theorem dX1_hasM_21 : decode cX1_hasM 21 = .ok (.iload_n 0, 1) := by decide +kernel
theorem dX1_hasM_22 : decode cX1_hasM 22 = .ok (.bipush 8, 2) := by decide +kernel
theorem dX1_hasM_24 : decode cX1_hasM 24 = .ok (.if_icmp .ne 7, 3) := by decide +kernel
theorem dX1_hasM_27 : decode cX1_hasM 27 = .ok (.iconst 1, 1) := by decide +kernel
theorem dX1_hasM_28 : decode cX1_hasM 28 = .ok (.goto 4, 3) := by decide +kernel
theorem dX1_hasM_31 : decode cX1_hasM 31 = .ok (.iconst 0, 1) := by decide +kernel
theorem dX1_hasM_32 : decode cX1_hasM 32 = .ok (.ireturn, 1) := by decide +kernel
theorem dX1_fetchM_0 : decode cX1_fetchM 0 = .ok (.aload_n 0, 1) := by decide +kernel
theorem dX1_fetchM_1 : decode cX1_fetchM 1 = .ok (.aload_n 1, 1) := by decide +kernel
theorem dX1_fetchM_2 : decode cX1_fetchM 2 = .ok (.aload_n 2, 1) := by decide +kernel
theorem dX1_fetchM_3 : decode cX1_fetchM 3 = .ok (.invokevirtual 67, 3) := by decide +kernel
theorem dX1_fetchM_6 : decode cX1_fetchM 6 = .ok (.istore_n 3, 1) := by decide +kernel
theorem dX1_fetchM_7 : decode cX1_fetchM 7 = .ok (.aload_n 0, 1) := by decide +kernel
theorem dX1_fetchM_8 : decode cX1_fetchM 8 = .ok (.iload_n 3, 1) := by decide +kernel
theorem dX1_fetchM_9 : decode cX1_fetchM 9 = .ok (.bipush 6, 2) := by decide +kernel
theorem dX1_fetchM_11 : decode cX1_fetchM 11 = .ok (.ishr, 1) := by decide +kernel
theorem dX1_fetchM_12 : decode cX1_fetchM 12 = .ok (.putfield 15, 3) := by decide +kernel
theorem dX1_fetchM_15 : decode cX1_fetchM 15 = .ok (.aload_n 0, 1) := by decide +kernel
theorem dX1_fetchM_16 : decode cX1_fetchM 16 = .ok (.iload_n 3, 1) := by decide +kernel
theorem dX1_fetchM_17 : decode cX1_fetchM 17 = .ok (.iconst 3, 1) := by decide +kernel
theorem dX1_fetchM_18 : decode cX1_fetchM 18 = .ok (.ishr, 1) := by decide +kernel
theorem dX1_fetchM_19 : decode cX1_fetchM 19 = .ok (.bipush 7, 2) := by decide +kernel
theorem dX1_fetchM_21 : decode cX1_fetchM 21 = .ok (.iand, 1) := by decide +kernel
theorem dX1_fetchM_22 : decode cX1_fetchM 22 = .ok (.putfield 81, 3) := by decide +kernel
theorem dX1_fetchM_25 : decode cX1_fetchM 25 = .ok (.aload_n 0, 1) := by decide +kernel
theorem dX1_fetchM_26 : decode cX1_fetchM 26 = .ok (.iload_n 3, 1) := by decide +kernel
theorem dX1_fetchM_27 : decode cX1_fetchM 27 = .ok (.bipush 7, 2) := by decide +kernel
theorem dX1_fetchM_29 : decode cX1_fetchM 29 = .ok (.iand, 1) := by decide +kernel
theorem dX1_fetchM_30 : decode cX1_fetchM 30 = .ok (.putfield 93, 3) := by decide +kernel
theorem dX1_fetchM_33 : decode cX1_fetchM 33 = .ok (.aload_n 0, 1) := by decide +kernel
theorem dX1_fetchM_34 : decode cX1_fetchM 34 = .ok (.getfield 15, 3) := by decide +kernel
theorem dX1_fetchM_37 : decode cX1_fetchM 37 = .ok (.ifCond .ne 36, 3) := by decide +kernel
theorem dX1_fetchM_40 : decode cX1_fetchM 40 = .ok (.aload_n 0, 1) := by decide +kernel
theorem dX1_fetchM_41 : decode cX1_fetchM 41 = .ok (.getfield 93, 3) := by decide +kernel
theorem dX1_fetchM_44 : decode cX1_fetchM 44 = .ok (.bipush 6, 2) := by decide +kernel
theorem dX1_fetchM_46 : decode cX1_fetchM 46 = .ok (.if_icmp .ne 27, 3) := by decide +kernel
theorem dX1_fetchM_49 : decode cX1_fetchM 49 = .ok (.aload_n 0, 1) := by decide +kernel
theorem dX1_fetchM_50 : decode cX1_fetchM 50 = .ok (.aload_n 2, 1) := by decide +kernel
theorem dX1_fetchM_51 : decode cX1_fetchM 51 = .ok (.aload_n 0, 1) := by decide +kernel
theorem dX1_fetchM_52 : decode cX1_fetchM 52 = .ok (.iconst 3, 1) := by decide +kernel
theorem dX1_fetchM_53 : decode cX1_fetchM 53 = .ok (.invokevirtual 96, 3) := by decide +kernel
theorem dX1_fetchM_56 : decode cX1_fetchM 56 = .ok (.invokevirtual 58, 3) := by decide +kernel
theorem dX1_fetchM_59 : decode cX1_fetchM 59 = .ok (.putfield 99, 3) := by decide +kernel
theorem dX1_fetchM_62 : decode cX1_fetchM 62 = .ok (.aload_n 0, 1) := by decide +kernel
theorem dX1_fetchM_63 : decode cX1_fetchM 63 = .ok (.aload_n 0, 1) := by decide +kernel
theorem dX1_fetchM_64 : decode cX1_fetchM 64 = .ok (.aload_n 1, 1) := by decide +kernel
theorem dX1_fetchM_65 : decode cX1_fetchM 65 = .ok (.aload_n 2, 1) := by decide +kernel
theorem dX1_fetchM_66 : decode cX1_fetchM 66 = .ok (.invokevirtual 87, 3) := by decide +kernel
theorem dX1_fetchM_69 : decode cX1_fetchM 69 = .ok (.putfield 102, 3) := by decide +kernel
theorem dX1_fetchM_72 : decode cX1_fetchM 72 = .ok (.return_, 1) := by decide +kernel
theorem dX1_fetchM_73 : decode cX1_fetchM 73 = .ok (.aload_n 0, 1) := by decide +kernel
theorem dX1_fetchM_74 : decode cX1_fetchM 74 = .ok (.getfield 93, 3) := by decide +kernel
theorem dX1_fetchM_77 : decode cX1_fetchM 77 = .ok (.iconst 2, 1) := by decide +kernel
theorem dX1_fetchM_78 : decode cX1_fetchM 78 = .ok (.if_icmp .eq 20, 3) := by decide +kernel
theorem dX1_fetchM_81 : decode cX1_fetchM 81 = .ok (.aload_n 0, 1) := by decide +kernel
theorem dX1_fetchM_82 : decode cX1_fetchM 82 = .ok (.getfield 93, 3) := by decide +kernel
theorem dX1_fetchM_85 : decode cX1_fetchM 85 = .ok (.iconst 3, 1) := by decide +kernel
theorem dX1_fetchM_86 : decode cX1_fetchM 86 = .ok (.if_icmp .eq 12, 3) := by decide +kernel
theorem dX1_fetchM_89 : decode cX1_fetchM 89 = .ok (.aload_n 0, 1) := by decide +kernel
theorem dX1_fetchM_90 : decode cX1_fetchM 90 = .ok (.getfield 93, 3) := by decide +kernel
theorem dX1_fetchM_93 : decode cX1_fetchM 93 = .ok (.bipush 6, 2) := by decide +kernel
theorem dX1_fetchM_95 : decode cX1_fetchM 95 = .ok (.if_icmp .ne 7, 3) := by decide +kernel
theorem dX1_fetchM_98 : decode cX1_fetchM 98 = .ok (.iconst 1, 1) := by decide +kernel
theorem dX1_fetchM_99 : decode cX1_fetchM 99 = .ok (.goto 4, 3) := by decide +kernel
theorem dX1_fetchM_102 : decode cX1_fetchM 102 = .ok (.iconst 0, 1) := by decide +kernel
theorem dX1_fetchM_103 : decode cX1_fetchM 103 = .ok (.istore 4, 2) := by decide +kernel
theorem dX1_fetchM_105 : decode cX1_fetchM 105 = .ok (.aload_n 0, 1) := by decide +kernel
theorem dX1_fetchM_106 : decode cX1_fetchM 106 = .ok (.aload_n 2, 1) := by decide +kernel
theorem dX1_fetchM_107 : decode cX1_fetchM 107 = .ok (.aload_n 0, 1) := by decide +kernel
theorem dX1_fetchM_108 : decode cX1_fetchM 108 = .ok (.iload 4, 2) := by decide +kernel
theorem dX1_fetchM_110 : decode cX1_fetchM 110 = .ok (.ifCond .eq 7, 3) := by decide +kernel
theorem dX1_fetchM_113 : decode cX1_fetchM 113 = .ok (.iconst 2, 1) := by decide +kernel
theorem dX1_fetchM_114 : decode cX1_fetchM 114 = .ok (.goto 4, 3) := by decide +kernel
theorem dX1_fetchM_117 : decode cX1_fetchM 117 = .ok (.iconst 3, 1) := by decide +kernel
theorem dX1_fetchM_118 : decode cX1_fetchM 118 = .ok (.invokevirtual 96, 3) := by decide +kernel
theorem dX1_fetchM_121 : decode cX1_fetchM 121 = .ok (.invokevirtual 58, 3) := by decide +kernel
theorem dX1_fetchM_124 : decode cX1_fetchM 124 = .ok (.putfield 99, 3) := by decide +kernel
theorem dX1_fetchM_127 : decode cX1_fetchM 127 = .ok (.iconst 0, 1) := by decide +kernel
theorem dX1_fetchM_128 : decode cX1_fetchM 128 = .ok (.istore 5, 2) := by decide +kernel
theorem dX1_fetchM_130 : decode cX1_fetchM 130 = .ok (.aload_n 0, 1) := by decide +kernel
theorem dX1_fetchM_131 : decode cX1_fetchM 131 = .ok (.getfield 15, 3) := by decide +kernel
theorem dX1_fetchM_134 : decode cX1_fetchM 134 = .ok (.iconst 1, 1) := by decide +kernel
theorem dX1_fetchM_135 : decode cX1_fetchM 135 = .ok (.if_icmp .ne 18, 3) := by decide +kernel
theorem dX1_fetchM_138 : decode cX1_fetchM 138 = .ok (.aload_n 0, 1) := by decide +kernel
theorem dX1_fetchM_139 : decode cX1_fetchM 139 = .ok (.aload_n 1, 1) := by decide +kernel
theorem dX1_fetchM_140 : decode cX1_fetchM 140 = .ok (.aload_n 2, 1) := by decide +kernel
theorem dX1_fetchM_141 : decode cX1_fetchM 141 = .ok (.invokevirtual 67, 3) := by decide +kernel
theorem dX1_fetchM_144 : decode cX1_fetchM 144 = .ok (.iconst 0, 1) := by decide +kernel
theorem dX1_fetchM_145 : decode cX1_fetchM 145 = .ok (.invokestatic 105, 3) := by decide +kernel
theorem dX1_fetchM_148 : decode cX1_fetchM 148 = .ok (.istore 5, 2) := by decide +kernel
theorem dX1_fetchM_150 : decode cX1_fetchM 150 = .ok (.goto 19, 3) := by decide +kernel
theorem dX1_fetchM_153 : decode cX1_fetchM 153 = .ok (.aload_n 0, 1) := by decide +kernel
theorem dX1_fetchM_154 : decode cX1_fetchM 154 = .ok (.getfield 15, 3) := by decide +kernel
theorem dX1_fetchM_157 : decode cX1_fetchM 157 = .ok (.iconst 2, 1) := by decide +kernel
theorem dX1_fetchM_158 : decode cX1_fetchM 158 = .ok (.if_icmp .ne 11, 3) := by decide +kernel
theorem dX1_fetchM_161 : decode cX1_fetchM 161 = .ok (.aload_n 0, 1) := by decide +kernel
theorem dX1_fetchM_162 : decode cX1_fetchM 162 = .ok (.aload_n 1, 1) := by decide +kernel
theorem dX1_fetchM_163 : decode cX1_fetchM 163 = .ok (.aload_n 2, 1) := by decide +kernel
theorem dX1_fetchM_164 : decode cX1_fetchM 164 = .ok (.invokevirtual 87, 3) := by decide +kernel
theorem dX1_fetchM_167 : decode cX1_fetchM 167 = .ok (.istore 5, 2) := by decide +kernel
theorem dX1_fetchM_169 : decode cX1_fetchM 169 = .ok (.aload_n 0, 1) := by decide +kernel
theorem dX1_fetchM_170 : decode cX1_fetchM 170 = .ok (.aload_n 0, 1) := by decide +kernel
theorem dX1_fetchM_171 : decode cX1_fetchM 171 = .ok (.aload_n 2, 1) := by decide +kernel
theorem dX1_fetchM_172 : decode cX1_fetchM 172 = .ok (.invokevirtual 111, 3) := by decide +kernel
theorem dX1_fetchM_175 : decode cX1_fetchM 175 = .ok (.iload 5, 2) := by decide +kernel
theorem dX1_fetchM_177 : decode cX1_fetchM 177 = .ok (.iadd, 1) := by decide +kernel
theorem dX1_fetchM_178 : decode cX1_fetchM 178 = .ok (.ldc 115, 2) := by decide +kernel
theorem dX1_fetchM_180 : decode cX1_fetchM 180 = .ok (.iand, 1) := by decide +kernel
theorem dX1_fetchM_181 : decode cX1_fetchM 181 = .ok (.putfield 102, 3) := by decide +kernel
theorem dX1_fetchM_184 : decode cX1_fetchM 184 = .ok (.return_, 1) := by decide +kernel
theorem dX1_base_0 : decode cX1_base 0 = .ok (.aload_n 0, 1) := by decide +kernel
theorem dX1_base_1 : decode cX1_base 1 = .ok (.getfield 93, 3) := by decide +kernel
theorem dX1_base_4 : decode cX1_base 4 = .ok (.tableswitch 116 0 6 #[44, 57, 70, 83, 96, 103, 110], 44) := by decide +kernel
theorem dX1_base_48 : decode cX1_base 48 = .ok (.aload_n 1, 1) := by decide +kernel
theorem dX1_base_49 : decode cX1_base 49 = .ok (.iconst 3, 1) := by decide +kernel
theorem dX1_base_50 : decode cX1_base 50 = .ok (.invokevirtual 116, 3) := by decide +kernel
theorem dX1_base_53 : decode cX1_base 53 = .ok (.aload_n 1, 1) := by decide +kernel
theorem dX1_base_54 : decode cX1_base 54 = .ok (.bipush 6, 2) := by decide +kernel
theorem dX1_base_56 : decode cX1_base 56 = .ok (.invokevirtual 116, 3) := by decide +kernel
theorem dX1_base_59 : decode cX1_base 59 = .ok (.iadd, 1) := by decide +kernel
theorem dX1_base_60 : decode cX1_base 60 = .ok (.ireturn, 1) := by decide +kernel
theorem dX1_base_61 : decode cX1_base 61 = .ok (.aload_n 1, 1) := by decide +kernel
theorem dX1_base_62 : decode cX1_base 62 = .ok (.iconst 3, 1) := by decide +kernel
theorem dX1_base_63 : decode cX1_base 63 = .ok (.invokevirtual 116, 3) := by decide +kernel
theorem dX1_base_66 : decode cX1_base 66 = .ok (.aload_n 1, 1) := by decide +kernel
theorem dX1_base_67 : decode cX1_base 67 = .ok (.bipush 7, 2) := by decide +kernel
theorem dX1_base_69 : decode cX1_base 69 = .ok (.invokevirtual 116, 3) := by decide +kernel
theorem dX1_base_72 : decode cX1_base 72 = .ok (.iadd, 1) := by decide +kernel
theorem dX1_base_73 : decode cX1_base 73 = .ok (.ireturn, 1) := by decide +kernel
theorem dX1_base_74 : decode cX1_base 74 = .ok (.aload_n 1, 1) := by decide +kernel
theorem dX1_base_75 : decode cX1_base 75 = .ok (.iconst 5, 1) := by decide +kernel
theorem dX1_base_76 : decode cX1_base 76 = .ok (.invokevirtual 116, 3) := by decide +kernel
theorem dX1_base_79 : decode cX1_base 79 = .ok (.aload_n 1, 1) := by decide +kernel
theorem dX1_base_80 : decode cX1_base 80 = .ok (.bipush 6, 2) := by decide +kernel
theorem dX1_base_82 : decode cX1_base 82 = .ok (.invokevirtual 116, 3) := by decide +kernel
theorem dX1_base_85 : decode cX1_base 85 = .ok (.iadd, 1) := by decide +kernel
theorem dX1_base_86 : decode cX1_base 86 = .ok (.ireturn, 1) := by decide +kernel
theorem dX1_base_87 : decode cX1_base 87 = .ok (.aload_n 1, 1) := by decide +kernel
theorem dX1_base_88 : decode cX1_base 88 = .ok (.iconst 5, 1) := by decide +kernel
theorem dX1_base_89 : decode cX1_base 89 = .ok (.invokevirtual 116, 3) := by decide +kernel
theorem dX1_base_92 : decode cX1_base 92 = .ok (.aload_n 1, 1) := by decide +kernel
theorem dX1_base_93 : decode cX1_base 93 = .ok (.bipush 7, 2) := by decide +kernel
theorem dX1_base_95 : decode cX1_base 95 = .ok (.invokevirtual 116, 3) := by decide +kernel
theorem dX1_base_98 : decode cX1_base 98 = .ok (.iadd, 1) := by decide +kernel
theorem dX1_base_99 : decode cX1_base 99 = .ok (.ireturn, 1) := by decide +kernel
theorem dX1_base_100 : decode cX1_base 100 = .ok (.aload_n 1, 1) := by decide +kernel
theorem dX1_base_101 : decode cX1_base 101 = .ok (.bipush 6, 2) := by decide +kernel
theorem dX1_base_103 : decode cX1_base 103 = .ok (.invokevirtual 116, 3) := by decide +kernel
theorem dX1_base_106 : decode cX1_base 106 = .ok (.ireturn, 1) := by decide +kernel
theorem dX1_base_107 : decode cX1_base 107 = .ok (.aload_n 1, 1) := by decide +kernel
theorem dX1_base_108 : decode cX1_base 108 = .ok (.bipush 7, 2) := by decide +kernel
theorem dX1_base_110 : decode cX1_base 110 = .ok (.invokevirtual 116, 3) := by decide +kernel
theorem dX1_base_113 : decode cX1_base 113 = .ok (.ireturn, 1) := by decide +kernel
theorem dX1_base_114 : decode cX1_base 114 = .ok (.aload_n 1, 1) := by decide +kernel
theorem dX1_base_115 : decode cX1_base 115 = .ok (.iconst 5, 1) := by decide +kernel
theorem dX1_base_116 : decode cX1_base 116 = .ok (.invokevirtual 116, 3) := by decide +kernel
theorem dX1_base_119 : decode cX1_base 119 = .ok (.ireturn, 1) := by decide +kernel
theorem dX1_base_120 : decode cX1_base 120 = .ok (.aload_n 1, 1) := by decide +kernel
theorem dX1_base_121 : decode cX1_base 121 = .ok (.iconst 3, 1) := by decide +kernel
theorem dX1_base_122 : decode cX1_base 122 = .ok (.invokevirtual 116, 3) := by decide +kernel
theorem dX1_base_125 : decode cX1_base 125 = .ok (.ireturn, 1) := by decide +kernel
theorem dX1_isCode_0 : decode cX1_isCode 0 = .ok (.aload_n 0, 1) := by decide +kernel
theorem dX1_isCode_1 : decode cX1_isCode 1 = .ok (.getfield 9, 3) := by decide +kernel
theorem dX1_isCode_4 : decode cX1_isCode 4 = .ok (.lookupswitch 108 #[(141, 52), (196, 52), (197, 52), (254, 65), (255, 79)], 52) := by decide +kernel
theorem dX1_isCode_56 : decode cX1_isCode 56 = .ok (.aload_n 0, 1) := by decide +kernel
theorem dX1_isCode_57 : decode cX1_isCode 57 = .ok (.invokevirtual 119, 3) := by decide +kernel
theorem dX1_isCode_60 : decode cX1_isCode 60 = .ok (.ifCond .ne 7, 3) := by decide +kernel
theorem dX1_isCode_63 : decode cX1_isCode 63 = .ok (.iconst 1, 1) := by decide +kernel
theorem dX1_isCode_64 : decode cX1_isCode 64 = .ok (.goto 4, 3) := by decide +kernel
theorem dX1_isCode_67 : decode cX1_isCode 67 = .ok (.iconst 0, 1) := by decide +kernel
theorem dX1_isCode_68 : decode cX1_isCode 68 = .ok (.ireturn, 1) := by decide +kernel
theorem dX1_isCode_69 : decode cX1_isCode 69 = .ok (.aload_n 0, 1) := by decide +kernel
theorem dX1_isCode_70 : decode cX1_isCode 70 = .ok (.getfield 81, 3) := by decide +kernel
theorem dX1_isCode_73 : decode cX1_isCode 73 = .ok (.iconst 2, 1) := by decide +kernel
theorem dX1_isCode_74 : decode cX1_isCode 74 = .ok (.if_icmp .ge 7, 3) := by decide +kernel
theorem dX1_isCode_77 : decode cX1_isCode 77 = .ok (.iconst 1, 1) := by decide +kernel
theorem dX1_isCode_78 : decode cX1_isCode 78 = .ok (.goto 4, 3) := by decide +kernel
theorem dX1_isCode_81 : decode cX1_isCode 81 = .ok (.iconst 0, 1) := by decide +kernel
theorem dX1_isCode_82 : decode cX1_isCode 82 = .ok (.ireturn, 1) := by decide +kernel
theorem dX1_isCode_83 : decode cX1_isCode 83 = .ok (.aload_n 0, 1) := by decide +kernel
theorem dX1_isCode_84 : decode cX1_isCode 84 = .ok (.invokevirtual 119, 3) := by decide +kernel
theorem dX1_isCode_87 : decode cX1_isCode 87 = .ok (.ifCond .eq 19, 3) := by decide +kernel
theorem dX1_isCode_90 : decode cX1_isCode 90 = .ok (.aload_n 0, 1) := by decide +kernel
theorem dX1_isCode_91 : decode cX1_isCode 91 = .ok (.getfield 81, 3) := by decide +kernel
theorem dX1_isCode_94 : decode cX1_isCode 94 = .ok (.iconst 3, 1) := by decide +kernel
theorem dX1_isCode_95 : decode cX1_isCode 95 = .ok (.if_icmp .eq 15, 3) := by decide +kernel
theorem dX1_isCode_98 : decode cX1_isCode 98 = .ok (.aload_n 0, 1) := by decide +kernel
theorem dX1_isCode_99 : decode cX1_isCode 99 = .ok (.getfield 81, 3) := by decide +kernel
theorem dX1_isCode_102 : decode cX1_isCode 102 = .ok (.iconst 5, 1) := by decide +kernel
theorem dX1_isCode_103 : decode cX1_isCode 103 = .ok (.if_icmp .eq 7, 3) := by decide +kernel
theorem dX1_isCode_106 : decode cX1_isCode 106 = .ok (.iconst 1, 1) := by decide +kernel
theorem dX1_isCode_107 : decode cX1_isCode 107 = .ok (.goto 4, 3) := by decide +kernel
theorem dX1_isCode_110 : decode cX1_isCode 110 = .ok (.iconst 0, 1) := by decide +kernel
theorem dX1_isCode_111 : decode cX1_isCode 111 = .ok (.ireturn, 1) := by decide +kernel
theorem dX1_isCode_112 : decode cX1_isCode 112 = .ok (.iconst 1, 1) := by decide +kernel
theorem dX1_isCode_113 : decode cX1_isCode 113 = .ok (.ireturn, 1) := by decide +kernel
