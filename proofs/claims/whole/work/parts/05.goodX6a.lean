set_option maxRecDepth 20000 in
theorem ggX6_get_X6_placeOf : GoodIn wsX6_get wsX6_placeOf := goodIn_r _ [4, 5, 6] rfl (by decide +kernel)
set_option maxRecDepth 20000 in
theorem gX6_get_X6_placeOf : GoodIn wsX6_get (va_wsS RX6 41 yX6_placeOf wsX6_placeOf) := goodIn_app (goodIn_of _ (by decide +kernel)) ggX6_get_X6_placeOf
set_option maxRecDepth 20000 in
theorem ggX6_get_X6_load : GoodIn wsX6_get wsX6_load := goodIn_r _ [10, 11, 12, 13, 14, 15, 16, 17, 18, 19, 20, 21, 22, 23, 24, 25, 26, 27, 28, 29, 30, 31, 32, 33, 34, 35, 36, 37, 38, 39, 40, 41] rfl (by decide +kernel)
set_option maxRecDepth 20000 in
theorem gX6_get_X6_load : GoodIn wsX6_get (wsV RX6 45 RX6 yX6_load wsX6_load) := goodIn_app (goodIn_of _ (by decide +kernel)) ggX6_get_X6_load
set_option maxRecDepth 20000 in
theorem ggX6_put_X6_placeOf : GoodIn wsX6_put wsX6_placeOf := goodIn_r _ [4, 5, 6] rfl (by decide +kernel)
set_option maxRecDepth 20000 in
theorem gX6_put_X6_placeOf : GoodIn wsX6_put (va_wsS RX6 41 yX6_placeOf wsX6_placeOf) := goodIn_app (goodIn_of _ (by decide +kernel)) ggX6_put_X6_placeOf
set_option maxRecDepth 20000 in
theorem ggX6_put_X6_store : GoodIn wsX6_put wsX6_store := goodIn_r _ [10, 11, 12, 13, 14, 15, 16, 17, 18, 19, 20, 21, 22, 23, 24, 25, 26, 27, 28, 29, 30, 31, 32, 33, 34, 35, 36, 37, 38, 39, 40, 41, 42, 43] rfl (by decide +kernel)
set_option maxRecDepth 20000 in
theorem gX6_put_X6_store : GoodIn wsX6_put (wsV RX6 49 RX6 yX6_store wsX6_store) := goodIn_app (goodIn_of _ (by decide +kernel)) ggX6_put_X6_store
set_option maxRecDepth 20000 in
theorem ggX6_push_X6_put : GoodIn wsX6_push wsX6_put := goodIn_r _ [8, 9, 10, 7, 11, 2, 12, 13, 14, 15, 16, 17, 18, 19, 20, 21, 22, 23, 24, 25, 26, 27, 28, 29, 30, 31, 32, 33, 34, 35, 36, 37, 38, 39, 40, 41, 42, 43, 44, 45, 46, 47, 48, 49] rfl (by decide +kernel)
set_option maxRecDepth 20000 in
theorem gX6_push_X6_put : GoodIn wsX6_push (wsV RX6 57 RX6 yX6_put wsX6_put) := goodIn_app (goodIn_of _ (by decide +kernel)) ggX6_push_X6_put
set_option maxRecDepth 20000 in
theorem ggX6_pop_X6_get : GoodIn wsX6_pop wsX6_get := goodIn_r _ [8, 9, 10, 7, 11, 3, 12, 13, 14, 15, 16, 17, 18, 19, 20, 21, 22, 23, 24, 25, 26, 27, 28, 29, 30, 31, 32, 33, 34, 35, 36, 37, 38, 39, 40, 41, 42, 43, 44, 45, 46, 47] rfl (by decide +kernel)
set_option maxRecDepth 20000 in
theorem gX6_pop_X6_get : GoodIn wsX6_pop (wsV RX6 61 RX6 yX6_get wsX6_get) := goodIn_app (goodIn_of _ (by decide +kernel)) ggX6_pop_X6_get
set_option maxRecDepth 20000 in
theorem ggX6_signed_X6_top : GoodIn wsX6_signed wsX6_top := goodIn_r _ [4, 5] rfl (by decide +kernel)
set_option maxRecDepth 20000 in
theorem gX6_signed_X6_top : GoodIn wsX6_signed (va_wsS RX6 66 yX6_top wsX6_top) := goodIn_app (goodIn_of _ (by decide +kernel)) ggX6_signed_X6_top
set_option maxRecDepth 20000 in
theorem ggX6_signed_X6_all : GoodIn wsX6_signed wsX6_all := goodIn_r _ [8, 9] rfl (by decide +kernel)
set_option maxRecDepth 20000 in
theorem gX6_signed_X6_all : GoodIn wsX6_signed (va_wsS RX6 70 yX6_all wsX6_all) := goodIn_app (goodIn_of _ (by decide +kernel)) ggX6_signed_X6_all
set_option maxRecDepth 20000 in
theorem ggX6_byAnswer_X6_mark : GoodIn wsX6_byAnswer wsX6_mark := goodIn_r _ [5, 6, 11, 12, 13, 14, 15, 16, 17, 18, 19, 20, 21, 22, 23, 24, 25, 26, 27, 28, 29, 30, 31, 32, 33, 34, 35, 36, 37, 38, 39] rfl (by decide +kernel)
set_option maxRecDepth 20000 in
theorem gX6_byAnswer_X6_mark : GoodIn wsX6_byAnswer (wsV RX6 73 RX6 yX6_mark wsX6_mark) := goodIn_app (goodIn_of _ (by decide +kernel)) ggX6_byAnswer_X6_mark
set_option maxRecDepth 20000 in
theorem ggX6_byAnswer_X6_top : GoodIn wsX6_byAnswer wsX6_top := goodIn_r _ [9, 10] rfl (by decide +kernel)
set_option maxRecDepth 20000 in
theorem gX6_byAnswer_X6_top : GoodIn wsX6_byAnswer (va_wsS RX6 66 yX6_top wsX6_top) := goodIn_app (goodIn_of _ (by decide +kernel)) ggX6_byAnswer_X6_top
set_option maxRecDepth 20000 in
theorem ggX6_sum_X6_signed : GoodIn wsX6_sum wsX6_signed := goodIn_r _ [4, 5, 6, 3, 7, 8, 9, 10, 11, 12] rfl (by decide +kernel)
set_option maxRecDepth 20000 in
theorem gX6_sum_X6_signed : GoodIn wsX6_sum (va_wsS RX6 77 yX6_signed wsX6_signed) := goodIn_app (goodIn_of _ (by decide +kernel)) ggX6_sum_X6_signed
set_option maxRecDepth 20000 in
theorem ggX6_sum_X6_all : GoodIn wsX6_sum wsX6_all := goodIn_r _ [11, 12] rfl (by decide +kernel)
set_option maxRecDepth 20000 in
theorem gX6_sum_X6_all : GoodIn wsX6_sum (va_wsS RX6 70 yX6_all wsX6_all) := goodIn_app (goodIn_of _ (by decide +kernel)) ggX6_sum_X6_all
set_option maxRecDepth 20000 in
theorem ggX6_sum_X6_mark : GoodIn wsX6_sum wsX6_mark := goodIn_r _ [16, 17, 22, 23, 24, 25, 26, 27, 28, 29, 30, 31, 32, 33, 34, 35, 36, 37, 38, 39, 40, 41, 42, 43, 44, 45, 46, 47, 48, 49, 50] rfl (by decide +kernel)
set_option maxRecDepth 20000 in
theorem gX6_sum_X6_mark : GoodIn wsX6_sum (wsV RX6 73 RX6 yX6_mark wsX6_mark) := goodIn_app (goodIn_of _ (by decide +kernel)) ggX6_sum_X6_mark
set_option maxRecDepth 20000 in
theorem ggX6_sum_X6_top : GoodIn wsX6_sum wsX6_top := goodIn_r _ [7, 8] rfl (by decide +kernel)
set_option maxRecDepth 20000 in
theorem gX6_sum_X6_top : GoodIn wsX6_sum (va_wsS RX6 66 yX6_top wsX6_top) := goodIn_app (goodIn_of _ (by decide +kernel)) ggX6_sum_X6_top
set_option maxRecDepth 20000 in
theorem ggX6_sum_X6_byAnswer : GoodIn wsX6_sum wsX6_byAnswer := goodIn_r _ [21, 13, 14, 15, 3, 16, 17, 5, 6, 7, 8, 22, 23, 24, 25, 26, 27, 28, 29, 30, 31, 32, 33, 34, 35, 36, 37, 38, 39, 40, 41, 42, 43, 44, 45, 46, 47, 48, 49, 50] rfl (by decide +kernel)
set_option maxRecDepth 20000 in
theorem gX6_sum_X6_byAnswer : GoodIn wsX6_sum (wsV RX6 81 RX6 yX6_byAnswer wsX6_byAnswer) := goodIn_app (goodIn_of _ (by decide +kernel)) ggX6_sum_X6_byAnswer
set_option maxRecDepth 20000 in
theorem ggX6_difference_X6_signed : GoodIn wsX6_difference wsX6_signed := goodIn_r _ [4, 5, 6, 3, 7, 8, 9, 10, 11, 12] rfl (by decide +kernel)
set_option maxRecDepth 20000 in
theorem gX6_difference_X6_signed : GoodIn wsX6_difference (va_wsS RX6 77 yX6_signed wsX6_signed) := goodIn_app (goodIn_of _ (by decide +kernel)) ggX6_difference_X6_signed
set_option maxRecDepth 20000 in
theorem ggX6_difference_X6_mark : GoodIn wsX6_difference wsX6_mark := goodIn_r _ [16, 17, 22, 23, 24, 25, 26, 27, 28, 29, 30, 31, 32, 33, 34, 35, 36, 37, 38, 39, 40, 41, 42, 43, 44, 45, 46, 47, 48, 49, 50] rfl (by decide +kernel)
set_option maxRecDepth 20000 in
theorem gX6_difference_X6_mark : GoodIn wsX6_difference (wsV RX6 73 RX6 yX6_mark wsX6_mark) := goodIn_app (goodIn_of _ (by decide +kernel)) ggX6_difference_X6_mark
set_option maxRecDepth 20000 in
theorem ggX6_difference_X6_top : GoodIn wsX6_difference wsX6_top := goodIn_r _ [7, 8] rfl (by decide +kernel)
set_option maxRecDepth 20000 in
theorem gX6_difference_X6_top : GoodIn wsX6_difference (va_wsS RX6 66 yX6_top wsX6_top) := goodIn_app (goodIn_of _ (by decide +kernel)) ggX6_difference_X6_top
set_option maxRecDepth 20000 in
theorem ggX6_difference_X6_all : GoodIn wsX6_difference wsX6_all := goodIn_r _ [11, 12] rfl (by decide +kernel)
set_option maxRecDepth 20000 in
theorem gX6_difference_X6_all : GoodIn wsX6_difference (va_wsS RX6 70 yX6_all wsX6_all) := goodIn_app (goodIn_of _ (by decide +kernel)) ggX6_difference_X6_all
set_option maxRecDepth 20000 in
theorem ggX6_difference_X6_byAnswer : GoodIn wsX6_difference wsX6_byAnswer := goodIn_r _ [21, 13, 14, 15, 3, 16, 17, 5, 6, 7, 8, 22, 23, 24, 25, 26, 27, 28, 29, 30, 31, 32, 33, 34, 35, 36, 37, 38, 39, 40, 41, 42, 43, 44, 45, 46, 47, 48, 49, 50] rfl (by decide +kernel)
set_option maxRecDepth 20000 in
theorem gX6_difference_X6_byAnswer : GoodIn wsX6_difference (wsV RX6 81 RX6 yX6_byAnswer wsX6_byAnswer) := goodIn_app (goodIn_of _ (by decide +kernel)) ggX6_difference_X6_byAnswer
set_option maxRecDepth 20000 in
theorem ggX6_bits_X6_byAnswer : GoodIn wsX6_bits wsX6_byAnswer := goodIn_r _ [6, 7, 8, 9, 5, 10, 1, 11, 12, 13, 14, 15, 16, 17, 18, 19, 20, 21, 22, 23, 24, 25, 26, 27, 28, 29, 30, 31, 32, 33, 34, 35, 36, 37, 38, 39, 40, 41, 42, 43] rfl (by decide +kernel)
set_option maxRecDepth 20000 in
theorem gX6_bits_X6_byAnswer : GoodIn wsX6_bits (wsV RX6 81 RX6 yX6_byAnswer wsX6_byAnswer) := goodIn_app (goodIn_of _ (by decide +kernel)) ggX6_bits_X6_byAnswer
set_option maxRecDepth 20000 in
theorem ggX6_operation_X6_sum : GoodIn wsX6_operation wsX6_sum := goodIn_r _ [6, 7, 8, 5, 9, 10, 11, 12, 13, 14, 15, 16, 17, 18, 19, 20, 21, 1, 22, 23, 24, 25, 34, 35, 36, 37, 38, 39, 40, 41, 42, 43, 44, 45, 46, 47, 48, 49, 50, 51, 52, 53, 54, 55, 56, 57, 58, 59, 60, 61, 62] rfl (by decide +kernel)
set_option maxRecDepth 20000 in
theorem gX6_operation_X6_sum : GoodIn wsX6_operation (wsV RX6 84 RX6 yX6_sum wsX6_sum) := goodIn_app (goodIn_of _ (by decide +kernel)) ggX6_operation_X6_sum
set_option maxRecDepth 20000 in
theorem ggX6_operation_X6_bits : GoodIn wsX6_operation wsX6_bits := goodIn_r _ [29, 1, 22, 23, 24, 5, 25, 18, 19, 20, 21, 10, 11, 12, 13, 34, 35, 36, 37, 38, 39, 40, 41, 42, 43, 44, 45, 46, 47, 48, 49, 50, 51, 52, 53, 54, 55, 56, 57, 58, 59, 60, 61, 62] rfl (by decide +kernel)
set_option maxRecDepth 20000 in
theorem gX6_operation_X6_bits : GoodIn wsX6_operation (wsV RX6 88 RX6 yX6_bits wsX6_bits) := goodIn_app (goodIn_of _ (by decide +kernel)) ggX6_operation_X6_bits
set_option maxRecDepth 20000 in
theorem ggX6_operation_X6_difference : GoodIn wsX6_operation wsX6_difference := goodIn_r _ [33, 7, 8, 5, 9, 10, 11, 12, 13, 14, 15, 16, 17, 18, 19, 20, 21, 1, 22, 23, 24, 25, 34, 35, 36, 37, 38, 39, 40, 41, 42, 43, 44, 45, 46, 47, 48, 49, 50, 51, 52, 53, 54, 55, 56, 57, 58, 59, 60, 61, 62] rfl (by decide +kernel)
set_option maxRecDepth 20000 in
theorem gX6_operation_X6_difference : GoodIn wsX6_operation (wsV RX6 91 RX6 yX6_difference wsX6_difference) := goodIn_app (goodIn_of _ (by decide +kernel)) ggX6_operation_X6_difference
set_option maxRecDepth 20000 in
theorem ggX6_operation_X6_mark : GoodIn wsX6_operation wsX6_mark := goodIn_r _ [21, 1, 34, 35, 36, 37, 38, 39, 40, 41, 42, 43, 44, 45, 46, 47, 48, 49, 50, 51, 52, 53, 54, 55, 56, 57, 58, 59, 60, 61, 62] rfl (by decide +kernel)
set_option maxRecDepth 20000 in
theorem gX6_operation_X6_mark : GoodIn wsX6_operation (wsV RX6 73 RX6 yX6_mark wsX6_mark) := goodIn_app (goodIn_of _ (by decide +kernel)) ggX6_operation_X6_mark
set_option maxRecDepth 20000 in
theorem ggX6_operation_X6_all : GoodIn wsX6_operation wsX6_all := goodIn_r _ [16, 17] rfl (by decide +kernel)
set_option maxRecDepth 20000 in
theorem gX6_operation_X6_all : GoodIn wsX6_operation (va_wsS RX6 70 yX6_all wsX6_all) := goodIn_app (goodIn_of _ (by decide +kernel)) ggX6_operation_X6_all
set_option maxRecDepth 20000 in
theorem ggX6_shift_X6_top : GoodIn wsX6_shift wsX6_top := goodIn_r _ [5, 6] rfl (by decide +kernel)
set_option maxRecDepth 20000 in
theorem gX6_shift_X6_top : GoodIn wsX6_shift (va_wsS RX6 66 yX6_top wsX6_top) := goodIn_app (goodIn_of _ (by decide +kernel)) ggX6_shift_X6_top
set_option maxRecDepth 20000 in
theorem ggX6_shift_X6_all : GoodIn wsX6_shift wsX6_all := goodIn_r _ [9, 10] rfl (by decide +kernel)
set_option maxRecDepth 20000 in
theorem gX6_shift_X6_all : GoodIn wsX6_shift (va_wsS RX6 70 yX6_all wsX6_all) := goodIn_app (goodIn_of _ (by decide +kernel)) ggX6_shift_X6_all
set_option maxRecDepth 20000 in
theorem ggX6_shift_X6_mark : GoodIn wsX6_shift wsX6_mark := goodIn_r _ [14, 1, 19, 20, 21, 22, 23, 24, 25, 26, 27, 28, 29, 30, 31, 32, 33, 34, 35, 36, 37, 38, 39, 40, 41, 42, 43, 44, 45, 46, 47] rfl (by decide +kernel)
set_option maxRecDepth 20000 in
theorem gX6_shift_X6_mark : GoodIn wsX6_shift (wsV RX6 73 RX6 yX6_mark wsX6_mark) := goodIn_app (goodIn_of _ (by decide +kernel)) ggX6_shift_X6_mark
set_option maxRecDepth 20000 in
theorem ggX6_shift_X6_byAnswer : GoodIn wsX6_shift wsX6_byAnswer := goodIn_r _ [18, 11, 12, 13, 4, 14, 1, 2, 3, 5, 6, 19, 20, 21, 22, 23, 24, 25, 26, 27, 28, 29, 30, 31, 32, 33, 34, 35, 36, 37, 38, 39, 40, 41, 42, 43, 44, 45, 46, 47] rfl (by decide +kernel)
set_option maxRecDepth 20000 in
theorem gX6_shift_X6_byAnswer : GoodIn wsX6_shift (wsV RX6 81 RX6 yX6_byAnswer wsX6_byAnswer) := goodIn_app (goodIn_of _ (by decide +kernel)) ggX6_shift_X6_byAnswer
set_option maxRecDepth 20000 in
theorem ggX6_shifts_X6_shift : GoodIn wsX6_shifts wsX6_shift := goodIn_r _ [5, 6, 7, 8, 4, 9, 10, 11, 12, 13, 14, 15, 16, 17, 18, 19, 20, 21, 22, 23, 24, 25, 26, 27, 28, 29, 30, 31, 32, 33, 34, 35, 36, 37, 38, 39, 40, 41, 42, 43, 44, 45, 46, 47, 48, 49, 50, 51] rfl (by decide +kernel)
set_option maxRecDepth 20000 in
theorem gX6_shifts_X6_shift : GoodIn wsX6_shifts (wsV RX6 94 RX6 yX6_shift wsX6_shift) := goodIn_app (goodIn_of _ (by decide +kernel)) ggX6_shifts_X6_shift
set_option maxRecDepth 20000 in
theorem ggX6_adjustDecimal_X6_has : GoodIn wsX6_adjustDecimal wsX6_has := goodIn_r _ [6, 7, 26, 27, 28, 29, 30, 31, 32, 33, 34, 35, 36, 37, 38, 39, 40, 41, 42, 43, 44, 45, 46, 47, 48, 49, 50, 51, 52, 53, 54] rfl (by decide +kernel)
set_option maxRecDepth 20000 in
theorem gX6_adjustDecimal_X6_has : GoodIn wsX6_adjustDecimal (wsV RX6 97 RX6 yX6_has wsX6_has) := goodIn_app (goodIn_of _ (by decide +kernel)) ggX6_adjustDecimal_X6_has
set_option maxRecDepth 20000 in
theorem ggX6_adjustDecimal_X6_mark : GoodIn wsX6_adjustDecimal wsX6_mark := goodIn_r _ [11, 7, 26, 27, 28, 29, 30, 31, 32, 33, 34, 35, 36, 37, 38, 39, 40, 41, 42, 43, 44, 45, 46, 47, 48, 49, 50, 51, 52, 53, 54] rfl (by decide +kernel)
set_option maxRecDepth 20000 in
theorem gX6_adjustDecimal_X6_mark : GoodIn wsX6_adjustDecimal (wsV RX6 73 RX6 yX6_mark wsX6_mark) := goodIn_app (goodIn_of _ (by decide +kernel)) ggX6_adjustDecimal_X6_mark
set_option maxRecDepth 20000 in
theorem ggX6_adjustDecimal_X6_setRegister : GoodIn wsX6_adjustDecimal wsX6_setRegister := goodIn_r _ [15, 1, 16, 17, 26, 27, 28, 29, 30, 31, 32, 33, 34, 35, 36, 37, 38, 39, 40, 41, 42, 43, 44, 45, 46, 47, 48, 49, 50, 51, 52, 53, 54] rfl (by decide +kernel)
set_option maxRecDepth 20000 in
theorem gX6_adjustDecimal_X6_setRegister : GoodIn wsX6_adjustDecimal (wsV RX6 101 RX6 yX6_setRegister wsX6_setRegister) := goodIn_app (goodIn_of _ (by decide +kernel)) ggX6_adjustDecimal_X6_setRegister
set_option maxRecDepth 20000 in
theorem ggX6_adjustDecimal_X6_byAnswer : GoodIn wsX6_adjustDecimal wsX6_byAnswer := goodIn_r _ [21, 8, 9, 10, 5, 11, 7, 22, 23, 24, 25, 26, 27, 28, 29, 30, 31, 32, 33, 34, 35, 36, 37, 38, 39, 40, 41, 42, 43, 44, 45, 46, 47, 48, 49, 50, 51, 52, 53, 54] rfl (by decide +kernel)
set_option maxRecDepth 20000 in
theorem gX6_adjustDecimal_X6_byAnswer : GoodIn wsX6_adjustDecimal (wsV RX6 81 RX6 yX6_byAnswer wsX6_byAnswer) := goodIn_app (goodIn_of _ (by decide +kernel)) ggX6_adjustDecimal_X6_byAnswer
set_option maxRecDepth 20000 in
theorem ggX6_adjustDigit_X6_has : GoodIn wsX6_adjustDigit wsX6_has := goodIn_r _ [6, 7, 12, 13, 14, 15, 16, 17, 18, 19, 20, 21, 22, 23, 24, 25, 26, 27, 28, 29, 30, 31, 32, 33, 34, 35, 36, 37, 38, 39, 40] rfl (by decide +kernel)
set_option maxRecDepth 20000 in
theorem gX6_adjustDigit_X6_has : GoodIn wsX6_adjustDigit (wsV RX6 97 RX6 yX6_has wsX6_has) := goodIn_app (goodIn_of _ (by decide +kernel)) ggX6_adjustDigit_X6_has
set_option maxRecDepth 20000 in
theorem ggX6_adjustDigit_X6_mark : GoodIn wsX6_adjustDigit wsX6_mark := goodIn_r _ [11, 7, 12, 13, 14, 15, 16, 17, 18, 19, 20, 21, 22, 23, 24, 25, 26, 27, 28, 29, 30, 31, 32, 33, 34, 35, 36, 37, 38, 39, 40] rfl (by decide +kernel)
set_option maxRecDepth 20000 in
theorem gX6_adjustDigit_X6_mark : GoodIn wsX6_adjustDigit (wsV RX6 73 RX6 yX6_mark wsX6_mark) := goodIn_app (goodIn_of _ (by decide +kernel)) ggX6_adjustDigit_X6_mark
set_option maxRecDepth 20000 in
theorem ggX6_product_X6_register : GoodIn wsX6_product wsX6_register := goodIn_r _ [7, 1, 23, 24, 25, 26, 27, 28, 29, 30, 31, 32, 33, 34, 35, 36, 37, 38, 39, 40, 41, 42, 43, 44, 45, 46, 47, 48, 49, 50, 51] rfl (by decide +kernel)
set_option maxRecDepth 20000 in
theorem gX6_product_X6_register : GoodIn wsX6_product (wsV RX6 105 RX6 yX6_register wsX6_register) := goodIn_app (goodIn_of _ (by decide +kernel)) ggX6_product_X6_register
set_option maxRecDepth 20000 in
theorem ggX6_product_X6_signed : GoodIn wsX6_product wsX6_signed := goodIn_r _ [10, 11, 12, 6, 13, 14, 15, 16, 17, 2] rfl (by decide +kernel)
set_option maxRecDepth 20000 in
theorem gX6_product_X6_signed : GoodIn wsX6_product (va_wsS RX6 77 yX6_signed wsX6_signed) := goodIn_app (goodIn_of _ (by decide +kernel)) ggX6_product_X6_signed
set_option maxRecDepth 20000 in
theorem ggX6_product_X6_all : GoodIn wsX6_product wsX6_all := goodIn_r _ [17, 2] rfl (by decide +kernel)
set_option maxRecDepth 20000 in
theorem gX6_product_X6_all : GoodIn wsX6_product (va_wsS RX6 70 yX6_all wsX6_all) := goodIn_app (goodIn_of _ (by decide +kernel)) ggX6_product_X6_all
set_option maxRecDepth 20000 in
theorem ggX6_product_X6_mark : GoodIn wsX6_product wsX6_mark := goodIn_r _ [21, 22, 23, 24, 25, 26, 27, 28, 29, 30, 31, 32, 33, 34, 35, 36, 37, 38, 39, 40, 41, 42, 43, 44, 45, 46, 47, 48, 49, 50, 51] rfl (by decide +kernel)
set_option maxRecDepth 20000 in
theorem gX6_product_X6_mark : GoodIn wsX6_product (wsV RX6 73 RX6 yX6_mark wsX6_mark) := goodIn_app (goodIn_of _ (by decide +kernel)) ggX6_product_X6_mark
set_option maxRecDepth 20000 in
theorem ggX6_quotient_X6_signed : GoodIn wsX6_quotient wsX6_signed := goodIn_r _ [9, 10, 11, 8, 12, 13, 14, 15, 16, 5] rfl (by decide +kernel)
set_option maxRecDepth 20000 in
theorem gX6_quotient_X6_signed : GoodIn wsX6_quotient (va_wsS RX6 77 yX6_signed wsX6_signed) := goodIn_app (goodIn_of _ (by decide +kernel)) ggX6_quotient_X6_signed
set_option maxRecDepth 20000 in
theorem ggX6_quotient_X6_top : GoodIn wsX6_quotient wsX6_top := goodIn_r _ [12, 13] rfl (by decide +kernel)
set_option maxRecDepth 20000 in
theorem gX6_quotient_X6_top : GoodIn wsX6_quotient (va_wsS RX6 66 yX6_top wsX6_top) := goodIn_app (goodIn_of _ (by decide +kernel)) ggX6_quotient_X6_top
set_option maxRecDepth 20000 in
theorem ggX6_quotient_X6_all : GoodIn wsX6_quotient wsX6_all := goodIn_r _ [16, 5] rfl (by decide +kernel)
set_option maxRecDepth 20000 in
theorem gX6_quotient_X6_all : GoodIn wsX6_quotient (va_wsS RX6 70 yX6_all wsX6_all) := goodIn_app (goodIn_of _ (by decide +kernel)) ggX6_quotient_X6_all
set_option maxRecDepth 20000 in
theorem ggX6_holds_X6_has : GoodIn wsX6_holds wsX6_has := goodIn_r _ [5, 6, 7, 8, 9, 10, 11, 12, 13, 14, 15, 16, 17, 18, 19, 20, 21, 22, 23, 24, 25, 26, 27, 28, 29, 30, 31, 32, 33, 34, 35] rfl (by decide +kernel)
set_option maxRecDepth 20000 in
theorem gX6_holds_X6_has : GoodIn wsX6_holds (wsV RX6 97 RX6 yX6_has wsX6_has) := goodIn_app (goodIn_of _ (by decide +kernel)) ggX6_holds_X6_has
set_option maxRecDepth 20000 in
theorem ggX6_fetch_X6_placeOf : GoodIn wsX6_fetch wsX6_placeOf := goodIn_r _ [6, 7, 8] rfl (by decide +kernel)
set_option maxRecDepth 20000 in
theorem gX6_fetch_X6_placeOf : GoodIn wsX6_fetch (va_wsS RX6 41 yX6_placeOf wsX6_placeOf) := goodIn_app (goodIn_of _ (by decide +kernel)) ggX6_fetch_X6_placeOf
set_option maxRecDepth 20000 in
theorem ggX6_fetch_X6_load : GoodIn wsX6_fetch wsX6_load := goodIn_r _ [12, 13, 14, 15, 16, 17, 18, 19, 20, 21, 22, 23, 24, 25, 26, 27, 28, 29, 30, 31, 32, 33, 34, 35, 36, 37, 38, 39, 40, 41, 42, 43] rfl (by decide +kernel)
set_option maxRecDepth 20000 in
theorem gX6_fetch_X6_load : GoodIn wsX6_fetch (wsV RX6 45 RX6 yX6_load wsX6_load) := goodIn_app (goodIn_of _ (by decide +kernel)) ggX6_fetch_X6_load
set_option maxRecDepth 20000 in
theorem ggX6_fetchWord_X6_fetch : GoodIn wsX6_fetchWord wsX6_fetch := goodIn_r _ [5, 6, 7, 8, 9, 4, 10, 11, 12, 13, 14, 15, 16, 17, 18, 19, 20, 21, 22, 23, 24, 25, 26, 27, 28, 29, 30, 31, 32, 33, 34, 35, 36, 37, 38, 39, 40, 41, 42, 43, 44, 45, 46, 47] rfl (by decide +kernel)
set_option maxRecDepth 20000 in
theorem gX6_fetchWord_X6_fetch : GoodIn wsX6_fetchWord (wsV RX6 117 RX6 yX6_fetch wsX6_fetch) := goodIn_app (goodIn_of _ (by decide +kernel)) ggX6_fetchWord_X6_fetch
set_option maxRecDepth 20000 in
theorem ggX6_fetchNumber_X6_fetchWord : GoodIn wsX6_fetchNumber wsX6_fetchWord := goodIn_r _ [5, 6, 7, 8, 4, 9, 10, 11, 12, 13, 14, 15, 16, 17, 18, 19, 20, 21, 22, 23, 24, 25, 26, 27, 28, 29, 30, 31, 32, 33, 34, 35, 36, 37, 38, 39, 40, 41, 42, 43, 44, 45, 46, 47, 48, 49, 50, 51] rfl (by decide +kernel)
set_option maxRecDepth 20000 in
theorem gX6_fetchNumber_X6_fetchWord : GoodIn wsX6_fetchNumber (wsV RX6 121 RX6 yX6_fetchWord wsX6_fetchWord) := goodIn_app (goodIn_of _ (by decide +kernel)) ggX6_fetchNumber_X6_fetchWord
set_option maxRecDepth 20000 in
theorem ggX6_fetchNumber_X6_fetch : GoodIn wsX6_fetchNumber wsX6_fetch := goodIn_r _ [9, 10, 11, 12, 13, 4, 14, 15, 16, 17, 18, 19, 20, 21, 22, 23, 24, 25, 26, 27, 28, 29, 30, 31, 32, 33, 34, 35, 36, 37, 38, 39, 40, 41, 42, 43, 44, 45, 46, 47, 48, 49, 50, 51] rfl (by decide +kernel)
set_option maxRecDepth 20000 in
theorem gX6_fetchNumber_X6_fetch : GoodIn wsX6_fetchNumber (wsV RX6 117 RX6 yX6_fetch wsX6_fetch) := goodIn_app (goodIn_of _ (by decide +kernel)) ggX6_fetchNumber_X6_fetch
set_option maxRecDepth 20000 in
theorem ggX6_fetchMode_X6_fetch : GoodIn wsX6_fetchMode wsX6_fetch := goodIn_r _ [12, 13, 14, 15, 16, 11, 17, 5, 18, 19, 20, 21, 22, 23, 24, 37, 38, 39, 40, 41, 42, 43, 44, 45, 46, 47, 48, 49, 50, 51, 52, 53, 54, 55, 56, 57, 58, 59, 60, 61, 62, 63, 64, 65] rfl (by decide +kernel)
set_option maxRecDepth 20000 in
theorem gX6_fetchMode_X6_fetch : GoodIn wsX6_fetchMode (wsV RX6 117 RX6 yX6_fetch wsX6_fetch) := goodIn_app (goodIn_of _ (by decide +kernel)) ggX6_fetchMode_X6_fetch
set_option maxRecDepth 20000 in
theorem ggX6_fetchMode_X6_fetchWord : GoodIn wsX6_fetchMode wsX6_fetchWord := goodIn_r _ [28, 8, 9, 10, 11, 12, 13, 14, 15, 16, 17, 5, 18, 19, 20, 21, 22, 23, 24, 37, 38, 39, 40, 41, 42, 43, 44, 45, 46, 47, 48, 49, 50, 51, 52, 53, 54, 55, 56, 57, 58, 59, 60, 61, 62, 63, 64, 65] rfl (by decide +kernel)
set_option maxRecDepth 20000 in
theorem gX6_fetchMode_X6_fetchWord : GoodIn wsX6_fetchMode (wsV RX6 121 RX6 yX6_fetchWord wsX6_fetchWord) := goodIn_app (goodIn_of _ (by decide +kernel)) ggX6_fetchMode_X6_fetchWord
set_option maxRecDepth 20000 in
theorem ggX6_fetchMode_X6_extended : GoodIn wsX6_fetchMode wsX6_extended := goodIn_r _ [31] rfl (by decide +kernel)
set_option maxRecDepth 20000 in
theorem gX6_fetchMode_X6_extended : GoodIn wsX6_fetchMode (va_wsS RX6 136 yX6_extended wsX6_extended) := goodIn_app (goodIn_of _ (by decide +kernel)) ggX6_fetchMode_X6_extended
set_option maxRecDepth 20000 in
theorem ggX6_fetchMode_X6_segmentOr : GoodIn wsX6_fetchMode wsX6_segmentOr := goodIn_r _ [35, 13, 36, 37, 38, 39, 40, 41, 42, 43, 44, 45, 46, 47, 48, 49, 50, 51, 52, 53, 54, 55, 56, 57, 58, 59, 60, 61, 62, 63, 64, 65] rfl (by decide +kernel)
set_option maxRecDepth 20000 in
theorem gX6_fetchMode_X6_segmentOr : GoodIn wsX6_fetchMode (wsV RX6 142 RX6 yX6_segmentOr wsX6_segmentOr) := goodIn_app (goodIn_of _ (by decide +kernel)) ggX6_fetchMode_X6_segmentOr
set_option maxRecDepth 20000 in
theorem ggX6_follows_X6_hasMode : GoodIn wsX6_follows wsX6_hasMode := goodIn_r _ [11, 1, 56, 57, 58, 59, 60, 61, 62, 63, 64, 65, 66, 67, 68, 69, 70, 71, 72, 73, 74, 75, 76, 77, 78, 79, 80, 81, 82, 83, 84] rfl (by decide +kernel)
set_option maxRecDepth 20000 in
theorem gX6_follows_X6_hasMode : GoodIn wsX6_follows (wsV RX6 151 RX6 yX6_hasMode wsX6_hasMode) := goodIn_app (goodIn_of _ (by decide +kernel)) ggX6_follows_X6_hasMode
