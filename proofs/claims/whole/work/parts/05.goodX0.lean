set_option maxRecDepth 20000 in
theorem ggX0_byAnswer_X0_highest : GoodIn wsX0_byAnswer wsX0_highest := goodIn_r _ [5, 6] rfl (by decide +kernel)
set_option maxRecDepth 20000 in
theorem gX0_byAnswer_X0_highest : GoodIn wsX0_byAnswer (va_wsS RX0 15 yX0_highest wsX0_highest) := goodIn_app (goodIn_of _ (by decide +kernel)) ggX0_byAnswer_X0_highest
set_option maxRecDepth 20000 in
theorem ggX0_byAnswer_J6_bitCount_0f7a4 : GoodIn wsX0_byAnswer wsJ6_bitCount_0f7a4 := goodIn_r _ [10, 11, 12, 13] rfl (by decide +kernel)
set_option maxRecDepth 20000 in
theorem gX0_byAnswer_J6_bitCount_0f7a4 : GoodIn wsX0_byAnswer (va_wsS RX0 19 yJ6_bitCount_0f7a4 wsJ6_bitCount_0f7a4) := goodIn_app (goodIn_of _ (by decide +kernel)) ggX0_byAnswer_J6_bitCount_0f7a4
set_option maxRecDepth 20000 in
theorem ggX0_operation_X0_sum : GoodIn wsX0_operation wsX0_sum := goodIn_r _ [6, 7, 8, 5, 9, 10, 11, 12, 13, 14, 15, 16, 17, 18, 19, 20, 21, 1, 22, 23, 24, 25, 26, 27, 28, 29, 30, 31, 32, 33, 34, 35, 36, 45] rfl (by decide +kernel)
set_option maxRecDepth 20000 in
theorem gX0_operation_X0_sum : GoodIn wsX0_operation (wsV RX0 25 RX0 yX0_sum wsX0_sum) := goodIn_app (goodIn_of _ (by decide +kernel)) ggX0_operation_X0_sum
set_option maxRecDepth 20000 in
theorem ggX0_operation_X0_bits : GoodIn wsX0_operation wsX0_bits := goodIn_r _ [40, 1, 22, 23, 24, 5, 25, 26, 27, 28, 29, 30, 31, 32, 33, 34, 35, 36, 45] rfl (by decide +kernel)
set_option maxRecDepth 20000 in
theorem gX0_operation_X0_bits : GoodIn wsX0_operation (wsV RX0 29 RX0 yX0_bits wsX0_bits) := goodIn_app (goodIn_of _ (by decide +kernel)) ggX0_operation_X0_bits
set_option maxRecDepth 20000 in
theorem ggX0_operation_X0_difference : GoodIn wsX0_operation wsX0_difference := goodIn_r _ [44, 7, 8, 5, 9, 10, 11, 12, 13, 14, 15, 16, 17, 18, 19, 20, 21, 1, 22, 23, 24, 25, 26, 27, 28, 29, 30, 31, 32, 33, 34, 35, 36, 45] rfl (by decide +kernel)
set_option maxRecDepth 20000 in
theorem gX0_operation_X0_difference : GoodIn wsX0_operation (wsV RX0 33 RX0 yX0_difference wsX0_difference) := goodIn_app (goodIn_of _ (by decide +kernel)) ggX0_operation_X0_difference
set_option maxRecDepth 20000 in
theorem ggX0_operation_X0_mask : GoodIn wsX0_operation wsX0_mask := goodIn_r _ [16, 17] rfl (by decide +kernel)
set_option maxRecDepth 20000 in
theorem gX0_operation_X0_mask : GoodIn wsX0_operation (va_wsS RX0 36 yX0_mask wsX0_mask) := goodIn_app (goodIn_of _ (by decide +kernel)) ggX0_operation_X0_mask
set_option maxRecDepth 20000 in
theorem ggX0_compare_X0_difference : GoodIn wsX0_compare wsX0_difference := goodIn_r _ [5, 6, 7, 4, 8, 9, 10, 11, 12, 13, 14, 15, 16, 17, 18, 19, 20, 21, 22, 23, 24, 25, 26, 27, 28, 29, 30, 31, 32, 33, 34, 35, 36, 37] rfl (by decide +kernel)
set_option maxRecDepth 20000 in
theorem gX0_compare_X0_difference : GoodIn wsX0_compare (wsV RX0 33 RX0 yX0_difference wsX0_difference) := goodIn_app (goodIn_of _ (by decide +kernel)) ggX0_compare_X0_difference
set_option maxRecDepth 20000 in
theorem ggX0_byOne_X0_difference : GoodIn wsX0_byOne wsX0_difference := goodIn_r _ [6, 7, 8, 5, 9, 10, 11, 12, 13, 14, 15, 16, 17, 18, 19, 20, 21, 1, 22, 23, 24, 25, 26, 27, 28, 29, 30, 31, 32, 33, 34, 35, 36, 41] rfl (by decide +kernel)
set_option maxRecDepth 20000 in
theorem gX0_byOne_X0_difference : GoodIn wsX0_byOne (wsV RX0 33 RX0 yX0_difference wsX0_difference) := goodIn_app (goodIn_of _ (by decide +kernel)) ggX0_byOne_X0_difference
set_option maxRecDepth 20000 in
theorem ggX0_byOne_X0_sum : GoodIn wsX0_byOne wsX0_sum := goodIn_r _ [40, 7, 8, 5, 9, 10, 11, 12, 13, 14, 15, 16, 17, 18, 19, 20, 21, 1, 22, 23, 24, 25, 26, 27, 28, 29, 30, 31, 32, 33, 34, 35, 36, 41] rfl (by decide +kernel)
set_option maxRecDepth 20000 in
theorem gX0_byOne_X0_sum : GoodIn wsX0_byOne (wsV RX0 25 RX0 yX0_sum wsX0_sum) := goodIn_app (goodIn_of _ (by decide +kernel)) ggX0_byOne_X0_sum
set_option maxRecDepth 20000 in
theorem ggX0_sum_X0_signed : GoodIn wsX0_sum wsX0_signed := goodIn_r _ [4] rfl (by decide +kernel)
set_option maxRecDepth 20000 in
theorem gX0_sum_X0_signed : GoodIn wsX0_sum (va_wsS RX0 39 yX0_signed wsX0_signed) := goodIn_app (goodIn_of _ (by decide +kernel)) ggX0_sum_X0_signed
set_option maxRecDepth 20000 in
theorem ggX0_sum_X0_settle : GoodIn wsX0_sum wsX0_settle := goodIn_r _ [8, 9, 10, 3, 11, 12, 13, 14, 15, 16, 17, 1, 2, 4, 33] rfl (by decide +kernel)
set_option maxRecDepth 20000 in
theorem gX0_sum_X0_settle : GoodIn wsX0_sum (wsV RX0 42 RX0 yX0_settle wsX0_settle) := goodIn_app (goodIn_of _ (by decide +kernel)) ggX0_sum_X0_settle
set_option maxRecDepth 20000 in
theorem ggX0_sum_X0_byAnswer : GoodIn wsX0_sum wsX0_byAnswer := goodIn_r _ [21, 17, 22, 23, 3, 24, 25, 26, 27, 28, 29, 30, 31, 32, 33] rfl (by decide +kernel)
set_option maxRecDepth 20000 in
theorem gX0_sum_X0_byAnswer : GoodIn wsX0_sum (wsV RX0 45 RX0 yX0_byAnswer wsX0_byAnswer) := goodIn_app (goodIn_of _ (by decide +kernel)) ggX0_sum_X0_byAnswer
set_option maxRecDepth 20000 in
theorem ggX0_difference_X0_signed : GoodIn wsX0_difference wsX0_signed := goodIn_r _ [4] rfl (by decide +kernel)
set_option maxRecDepth 20000 in
theorem gX0_difference_X0_signed : GoodIn wsX0_difference (va_wsS RX0 39 yX0_signed wsX0_signed) := goodIn_app (goodIn_of _ (by decide +kernel)) ggX0_difference_X0_signed
set_option maxRecDepth 20000 in
theorem ggX0_difference_X0_settle : GoodIn wsX0_difference wsX0_settle := goodIn_r _ [8, 9, 10, 3, 11, 12, 13, 14, 15, 16, 17, 1, 2, 4, 33] rfl (by decide +kernel)
set_option maxRecDepth 20000 in
theorem gX0_difference_X0_settle : GoodIn wsX0_difference (wsV RX0 42 RX0 yX0_settle wsX0_settle) := goodIn_app (goodIn_of _ (by decide +kernel)) ggX0_difference_X0_settle
set_option maxRecDepth 20000 in
theorem ggX0_difference_X0_byAnswer : GoodIn wsX0_difference wsX0_byAnswer := goodIn_r _ [21, 17, 22, 23, 3, 24, 25, 26, 27, 28, 29, 30, 31, 32, 33] rfl (by decide +kernel)
set_option maxRecDepth 20000 in
theorem gX0_difference_X0_byAnswer : GoodIn wsX0_difference (wsV RX0 45 RX0 yX0_byAnswer wsX0_byAnswer) := goodIn_app (goodIn_of _ (by decide +kernel)) ggX0_difference_X0_byAnswer
set_option maxRecDepth 20000 in
theorem ggX0_settle_X0_mask : GoodIn wsX0_settle wsX0_mask := goodIn_r _ [4, 5] rfl (by decide +kernel)
set_option maxRecDepth 20000 in
theorem gX0_settle_X0_mask : GoodIn wsX0_settle (va_wsS RX0 36 yX0_mask wsX0_mask) := goodIn_app (goodIn_of _ (by decide +kernel)) ggX0_settle_X0_mask
set_option maxRecDepth 20000 in
theorem ggX0_settle_X0_mark : GoodIn wsX0_settle wsX0_mark := goodIn_r _ [9, 10, 14] rfl (by decide +kernel)
set_option maxRecDepth 20000 in
theorem gX0_settle_X0_mark : GoodIn wsX0_settle (wsV RX0 48 RX0 yX0_mark wsX0_mark) := goodIn_app (goodIn_of _ (by decide +kernel)) ggX0_settle_X0_mark
set_option maxRecDepth 20000 in
theorem ggX0_settle_X0_signed : GoodIn wsX0_settle wsX0_signed := goodIn_r _ [13] rfl (by decide +kernel)
set_option maxRecDepth 20000 in
theorem gX0_settle_X0_signed : GoodIn wsX0_settle (va_wsS RX0 39 yX0_signed wsX0_signed) := goodIn_app (goodIn_of _ (by decide +kernel)) ggX0_settle_X0_signed
set_option maxRecDepth 20000 in
theorem ggX0_bits_X0_byAnswer : GoodIn wsX0_bits wsX0_byAnswer := goodIn_r _ [6, 1, 7, 8, 5, 9, 10, 11, 12, 13, 14, 15, 16, 17, 18] rfl (by decide +kernel)
set_option maxRecDepth 20000 in
theorem gX0_bits_X0_byAnswer : GoodIn wsX0_bits (wsV RX0 45 RX0 yX0_byAnswer wsX0_byAnswer) := goodIn_app (goodIn_of _ (by decide +kernel)) ggX0_bits_X0_byAnswer
set_option maxRecDepth 20000 in
theorem ggX0_shift_X0_shiftOnce : GoodIn wsX0_shift wsX0_shiftOnce := goodIn_r _ [5, 6, 7, 4, 8, 9, 10, 11, 12, 13, 14, 15, 16, 17, 18, 19, 20, 21, 22, 23, 24, 25, 26, 27, 28, 29, 30, 31, 32, 33, 34, 35, 36, 37, 38, 39, 40, 41, 42] rfl (by decide +kernel)
set_option maxRecDepth 20000 in
theorem gX0_shift_X0_shiftOnce : GoodIn wsX0_shift (wsV RX0 52 RX0 yX0_shiftOnce wsX0_shiftOnce) := goodIn_app (goodIn_of _ (by decide +kernel)) ggX0_shift_X0_shiftOnce
set_option maxRecDepth 20000 in
theorem ggX0_shiftOnce_X0_highest : GoodIn wsX0_shiftOnce wsX0_highest := goodIn_r _ [4, 5] rfl (by decide +kernel)
set_option maxRecDepth 20000 in
theorem gX0_shiftOnce_X0_highest : GoodIn wsX0_shiftOnce (va_wsS RX0 15 yX0_highest wsX0_highest) := goodIn_app (goodIn_of _ (by decide +kernel)) ggX0_shiftOnce_X0_highest
set_option maxRecDepth 20000 in
theorem ggX0_shiftOnce_X0_comesIn : GoodIn wsX0_shiftOnce wsX0_comesIn := goodIn_r _ [9, 10, 11, 12, 3, 13, 14, 38] rfl (by decide +kernel)
set_option maxRecDepth 20000 in
theorem gX0_shiftOnce_X0_comesIn : GoodIn wsX0_shiftOnce (wsV RX0 56 RX0 yX0_comesIn wsX0_comesIn) := goodIn_app (goodIn_of _ (by decide +kernel)) ggX0_shiftOnce_X0_comesIn
set_option maxRecDepth 20000 in
theorem ggX0_shiftOnce_X0_mask : GoodIn wsX0_shiftOnce wsX0_mask := goodIn_r _ [17, 18] rfl (by decide +kernel)
set_option maxRecDepth 20000 in
theorem gX0_shiftOnce_X0_mask : GoodIn wsX0_shiftOnce (va_wsS RX0 36 yX0_mask wsX0_mask) := goodIn_app (goodIn_of _ (by decide +kernel)) ggX0_shiftOnce_X0_mask
set_option maxRecDepth 20000 in
theorem ggX0_shiftOnce_X0_mark : GoodIn wsX0_shiftOnce wsX0_mark := goodIn_r _ [22, 14, 38] rfl (by decide +kernel)
set_option maxRecDepth 20000 in
theorem gX0_shiftOnce_X0_mark : GoodIn wsX0_shiftOnce (wsV RX0 48 RX0 yX0_mark wsX0_mark) := goodIn_app (goodIn_of _ (by decide +kernel)) ggX0_shiftOnce_X0_mark
set_option maxRecDepth 20000 in
theorem ggX0_shiftOnce_X0_shiftOverflows : GoodIn wsX0_shiftOnce wsX0_shiftOverflows := goodIn_r _ [26, 10, 11, 12, 3, 13, 14, 38] rfl (by decide +kernel)
set_option maxRecDepth 20000 in
theorem gX0_shiftOnce_X0_shiftOverflows : GoodIn wsX0_shiftOnce (wsV RX0 60 RX0 yX0_shiftOverflows wsX0_shiftOverflows) := goodIn_app (goodIn_of _ (by decide +kernel)) ggX0_shiftOnce_X0_shiftOverflows
set_option maxRecDepth 20000 in
theorem ggX0_shiftOnce_X0_byAnswer : GoodIn wsX0_shiftOnce wsX0_byAnswer := goodIn_r _ [30, 14, 1, 2, 3, 4, 5, 31, 32, 33, 34, 35, 36, 37, 38] rfl (by decide +kernel)
set_option maxRecDepth 20000 in
theorem gX0_shiftOnce_X0_byAnswer : GoodIn wsX0_shiftOnce (wsV RX0 45 RX0 yX0_byAnswer wsX0_byAnswer) := goodIn_app (goodIn_of _ (by decide +kernel)) ggX0_shiftOnce_X0_byAnswer
set_option maxRecDepth 20000 in
theorem ggX0_comesIn_X0_has : GoodIn wsX0_comesIn wsX0_has := goodIn_r _ [5, 6, 7] rfl (by decide +kernel)
set_option maxRecDepth 20000 in
theorem gX0_comesIn_X0_has : GoodIn wsX0_comesIn (wsV RX0 64 RX0 yX0_has wsX0_has) := goodIn_app (goodIn_of _ (by decide +kernel)) ggX0_comesIn_X0_has
set_option maxRecDepth 20000 in
theorem ggX0_shiftOverflows_X0_has : GoodIn wsX0_shiftOverflows wsX0_has := goodIn_r _ [5, 6, 7] rfl (by decide +kernel)
set_option maxRecDepth 20000 in
theorem gX0_shiftOverflows_X0_has : GoodIn wsX0_shiftOverflows (wsV RX0 64 RX0 yX0_has wsX0_has) := goodIn_app (goodIn_of _ (by decide +kernel)) ggX0_shiftOverflows_X0_has
set_option maxRecDepth 20000 in
theorem ggX0_product_X0_signed : GoodIn wsX0_product wsX0_signed := goodIn_r _ [4] rfl (by decide +kernel)
set_option maxRecDepth 20000 in
theorem gX0_product_X0_signed : GoodIn wsX0_product (va_wsS RX0 39 yX0_signed wsX0_signed) := goodIn_app (goodIn_of _ (by decide +kernel)) ggX0_product_X0_signed
set_option maxRecDepth 20000 in
theorem ggX0_product_X0_mask : GoodIn wsX0_product wsX0_mask := goodIn_r _ [7, 8] rfl (by decide +kernel)
set_option maxRecDepth 20000 in
theorem gX0_product_X0_mask : GoodIn wsX0_product (va_wsS RX0 36 yX0_mask wsX0_mask) := goodIn_app (goodIn_of _ (by decide +kernel)) ggX0_product_X0_mask
set_option maxRecDepth 20000 in
theorem ggX0_product_X0_mark : GoodIn wsX0_product wsX0_mark := goodIn_r _ [12, 13, 14] rfl (by decide +kernel)
set_option maxRecDepth 20000 in
theorem gX0_product_X0_mark : GoodIn wsX0_product (wsV RX0 48 RX0 yX0_mark wsX0_mark) := goodIn_app (goodIn_of _ (by decide +kernel)) ggX0_product_X0_mark
set_option maxRecDepth 20000 in
theorem ggX0_fits_X0_highest : GoodIn wsX0_fits wsX0_highest := goodIn_r _ [4, 5] rfl (by decide +kernel)
set_option maxRecDepth 20000 in
theorem gX0_fits_X0_highest : GoodIn wsX0_fits (va_wsS RX0 15 yX0_highest wsX0_highest) := goodIn_app (goodIn_of _ (by decide +kernel)) ggX0_fits_X0_highest
set_option maxRecDepth 20000 in
theorem ggX0_fits_X0_mask : GoodIn wsX0_fits wsX0_mask := goodIn_r _ [8, 9] rfl (by decide +kernel)
set_option maxRecDepth 20000 in
theorem gX0_fits_X0_mask : GoodIn wsX0_fits (va_wsS RX0 36 yX0_mask wsX0_mask) := goodIn_app (goodIn_of _ (by decide +kernel)) ggX0_fits_X0_mask
set_option maxRecDepth 20000 in
theorem ggX0_adjustment_X0_decimal : GoodIn wsX0_adjustment wsX0_decimal := goodIn_r _ [5, 6, 7, 8, 9, 4, 10, 11, 12, 13, 14, 15, 16, 17, 18, 19, 20, 21, 22, 23, 24, 25, 26, 27, 28, 29, 30, 43] rfl (by decide +kernel)
set_option maxRecDepth 20000 in
theorem gX0_adjustment_X0_decimal : GoodIn wsX0_adjustment (wsV RX0 68 RX0 yX0_decimal wsX0_decimal) := goodIn_app (goodIn_of _ (by decide +kernel)) ggX0_adjustment_X0_decimal
set_option maxRecDepth 20000 in
theorem ggX0_adjustment_X0_unpacked : GoodIn wsX0_adjustment wsX0_unpacked := goodIn_r _ [34, 7, 8, 9, 4, 10, 11, 12, 13, 14, 15, 43] rfl (by decide +kernel)
set_option maxRecDepth 20000 in
theorem gX0_adjustment_X0_unpacked : GoodIn wsX0_adjustment (wsV RX0 72 RX0 yX0_unpacked wsX0_unpacked) := goodIn_app (goodIn_of _ (by decide +kernel)) ggX0_adjustment_X0_unpacked
set_option maxRecDepth 20000 in
theorem ggX0_adjustment_X0_parts : GoodIn wsX0_adjustment wsX0_parts := goodIn_r _ [38, 16, 17, 18, 4, 19, 11, 20, 21, 22, 23, 24, 25, 26, 27, 28, 29, 30, 43] rfl (by decide +kernel)
set_option maxRecDepth 20000 in
theorem gX0_adjustment_X0_parts : GoodIn wsX0_adjustment (wsV RX0 75 RX0 yX0_parts wsX0_parts) := goodIn_app (goodIn_of _ (by decide +kernel)) ggX0_adjustment_X0_parts
set_option maxRecDepth 20000 in
theorem ggX0_adjustment_X0_whole : GoodIn wsX0_adjustment wsX0_whole := goodIn_r _ [42, 16, 17, 18, 4, 19, 11, 20, 21, 22, 23, 24, 25, 26, 27, 28, 29, 30, 43] rfl (by decide +kernel)
set_option maxRecDepth 20000 in
theorem gX0_adjustment_X0_whole : GoodIn wsX0_adjustment (wsV RX0 78 RX0 yX0_whole wsX0_whole) := goodIn_app (goodIn_of _ (by decide +kernel)) ggX0_adjustment_X0_whole
set_option maxRecDepth 20000 in
theorem ggX0_decimal_X0_has : GoodIn wsX0_decimal wsX0_has := goodIn_r _ [6, 7, 27] rfl (by decide +kernel)
set_option maxRecDepth 20000 in
theorem gX0_decimal_X0_has : GoodIn wsX0_decimal (wsV RX0 64 RX0 yX0_has wsX0_has) := goodIn_app (goodIn_of _ (by decide +kernel)) ggX0_decimal_X0_has
set_option maxRecDepth 20000 in
theorem ggX0_decimal_X0_mark : GoodIn wsX0_decimal wsX0_mark := goodIn_r _ [11, 7, 27] rfl (by decide +kernel)
set_option maxRecDepth 20000 in
theorem gX0_decimal_X0_mark : GoodIn wsX0_decimal (wsV RX0 48 RX0 yX0_mark wsX0_mark) := goodIn_app (goodIn_of _ (by decide +kernel)) ggX0_decimal_X0_mark
set_option maxRecDepth 20000 in
theorem ggX0_decimal_X0_byAnswer : GoodIn wsX0_decimal wsX0_byAnswer := goodIn_r _ [15, 7, 16, 17, 5, 18, 19, 20, 21, 22, 23, 24, 25, 26, 27] rfl (by decide +kernel)
set_option maxRecDepth 20000 in
theorem gX0_decimal_X0_byAnswer : GoodIn wsX0_decimal (wsV RX0 45 RX0 yX0_byAnswer wsX0_byAnswer) := goodIn_app (goodIn_of _ (by decide +kernel)) ggX0_decimal_X0_byAnswer
set_option maxRecDepth 20000 in
theorem ggX0_unpacked_X0_has : GoodIn wsX0_unpacked wsX0_has := goodIn_r _ [5, 6, 11] rfl (by decide +kernel)
set_option maxRecDepth 20000 in
theorem gX0_unpacked_X0_has : GoodIn wsX0_unpacked (wsV RX0 64 RX0 yX0_has wsX0_has) := goodIn_app (goodIn_of _ (by decide +kernel)) ggX0_unpacked_X0_has
set_option maxRecDepth 20000 in
theorem ggX0_unpacked_X0_mark : GoodIn wsX0_unpacked wsX0_mark := goodIn_r _ [10, 6, 11] rfl (by decide +kernel)
set_option maxRecDepth 20000 in
theorem gX0_unpacked_X0_mark : GoodIn wsX0_unpacked (wsV RX0 48 RX0 yX0_mark wsX0_mark) := goodIn_app (goodIn_of _ (by decide +kernel)) ggX0_unpacked_X0_mark
set_option maxRecDepth 20000 in
theorem ggX0_parts_X0_byAnswer : GoodIn wsX0_parts wsX0_byAnswer := goodIn_r _ [5, 6, 7, 8, 4, 9, 10, 11, 12, 13, 14, 15, 16, 17, 18] rfl (by decide +kernel)
set_option maxRecDepth 20000 in
theorem gX0_parts_X0_byAnswer : GoodIn wsX0_parts (wsV RX0 45 RX0 yX0_byAnswer wsX0_byAnswer) := goodIn_app (goodIn_of _ (by decide +kernel)) ggX0_parts_X0_byAnswer
set_option maxRecDepth 20000 in
theorem ggX0_whole_X0_byAnswer : GoodIn wsX0_whole wsX0_byAnswer := goodIn_r _ [5, 6, 7, 8, 4, 9, 10, 11, 12, 13, 14, 15, 16, 17, 18] rfl (by decide +kernel)
set_option maxRecDepth 20000 in
theorem gX0_whole_X0_byAnswer : GoodIn wsX0_whole (wsV RX0 45 RX0 yX0_byAnswer wsX0_byAnswer) := goodIn_app (goodIn_of _ (by decide +kernel)) ggX0_whole_X0_byAnswer
set_option maxRecDepth 20000 in
theorem ggX0_holds_X0_pairHolds : GoodIn wsX0_holds wsX0_pairHolds := goodIn_r _ [5, 6, 7, 8, 4, 9, 10, 11] rfl (by decide +kernel)
set_option maxRecDepth 20000 in
theorem gX0_holds_X0_pairHolds : GoodIn wsX0_holds (wsV RX0 82 RX0 yX0_pairHolds wsX0_pairHolds) := goodIn_app (goodIn_of _ (by decide +kernel)) ggX0_holds_X0_pairHolds
set_option maxRecDepth 20000 in
theorem ggX0_pairHolds_X0_has : GoodIn wsX0_pairHolds wsX0_has := goodIn_r _ [5, 6, 7] rfl (by decide +kernel)
set_option maxRecDepth 20000 in
theorem gX0_pairHolds_X0_has : GoodIn wsX0_pairHolds (wsV RX0 64 RX0 yX0_has wsX0_has) := goodIn_app (goodIn_of _ (by decide +kernel)) ggX0_pairHolds_X0_has
