set_option maxRecDepth 20000 in
theorem ggX8_move_X8_high : GoodIn wsX8_move wsX8_high := goodIn_r _ [5] (by decide +kernel) (by decide +kernel)
set_option maxRecDepth 20000 in
theorem gX8_move_X8_high : GoodIn wsX8_move (va_wsS RX8 65 yX8_high wsX8_high) := goodIn_app (goodIn_of _ (by decide +kernel)) ggX8_move_X8_high
set_option maxRecDepth 20000 in
theorem ggX8_multiply_X8_empty : GoodIn wsX8_multiply wsX8_empty := goodIn_r _ [6] (by decide +kernel) (by decide +kernel)
set_option maxRecDepth 20000 in
theorem gX8_multiply_X8_empty : GoodIn wsX8_multiply (va_wsS RX8 69 yX8_empty wsX8_empty) := goodIn_app (goodIn_of _ (by decide +kernel)) ggX8_multiply_X8_empty
set_option maxRecDepth 20000 in
theorem ggX8_multiply_X8_high : GoodIn wsX8_multiply wsX8_high := goodIn_r _ [9] (by decide +kernel) (by decide +kernel)
set_option maxRecDepth 20000 in
theorem gX8_multiply_X8_high : GoodIn wsX8_multiply (va_wsS RX8 65 yX8_high wsX8_high) := goodIn_app (goodIn_of _ (by decide +kernel)) ggX8_multiply_X8_high
set_option maxRecDepth 20000 in
theorem ggX8_divide_X8_high : GoodIn wsX8_divide wsX8_high := goodIn_r _ [6] (by decide +kernel) (by decide +kernel)
set_option maxRecDepth 20000 in
theorem gX8_divide_X8_high : GoodIn wsX8_divide (va_wsS RX8 65 yX8_high wsX8_high) := goodIn_app (goodIn_of _ (by decide +kernel)) ggX8_divide_X8_high
set_option maxRecDepth 20000 in
theorem ggX8_divide_X8_inverse : GoodIn wsX8_divide wsX8_inverse := goodIn_r _ [9, 2] (by decide +kernel) (by decide +kernel)
set_option maxRecDepth 20000 in
theorem gX8_divide_X8_inverse : GoodIn wsX8_divide (va_wsS RX8 73 yX8_inverse wsX8_inverse) := goodIn_app (goodIn_of _ (by decide +kernel)) ggX8_divide_X8_inverse
set_option maxRecDepth 20000 in
theorem ggX8_divide_X8_empty : GoodIn wsX8_divide wsX8_empty := goodIn_r _ [12] (by decide +kernel) (by decide +kernel)
set_option maxRecDepth 20000 in
theorem gX8_divide_X8_empty : GoodIn wsX8_divide (va_wsS RX8 69 yX8_empty wsX8_empty) := goodIn_app (goodIn_of _ (by decide +kernel)) ggX8_divide_X8_empty
set_option maxRecDepth 20000 in
theorem ggX8_divide_X8_modulo : GoodIn wsX8_divide wsX8_modulo := goodIn_r _ [15, 2] (by decide +kernel) (by decide +kernel)
set_option maxRecDepth 20000 in
theorem gX8_divide_X8_modulo : GoodIn wsX8_divide (va_wsS RX8 77 yX8_modulo wsX8_modulo) := goodIn_app (goodIn_of _ (by decide +kernel)) ggX8_divide_X8_modulo
set_option maxRecDepth 20000 in
theorem ggX8_common_X8_high : GoodIn wsX8_common wsX8_high := goodIn_r _ [7] (by decide +kernel) (by decide +kernel)
set_option maxRecDepth 20000 in
theorem gX8_common_X8_high : GoodIn wsX8_common (va_wsS RX8 65 yX8_high wsX8_high) := goodIn_app (goodIn_of _ (by decide +kernel)) ggX8_common_X8_high
set_option maxRecDepth 20000 in
theorem ggX8_common_X8_divide : GoodIn wsX8_common wsX8_divide := goodIn_r _ [11, 12, 3, 4, 5, 6, 7, 13, 14, 15, 16, 17, 18, 19, 20, 21, 22, 23, 24, 25, 26, 27, 28, 29, 30, 31, 32, 33, 34, 35, 36, 37, 38, 39] (by decide +kernel) (by decide +kernel)
set_option maxRecDepth 20000 in
theorem gX8_common_X8_divide : GoodIn wsX8_common (wsV RX8 80 RX8 yX8_divide wsX8_divide) := goodIn_app (goodIn_of _ (by decide +kernel)) ggX8_common_X8_divide
set_option maxRecDepth 20000 in
theorem ggX8_common_X8_inverse : GoodIn wsX8_common wsX8_inverse := goodIn_r _ [15, 3] (by decide +kernel) (by decide +kernel)
set_option maxRecDepth 20000 in
theorem gX8_common_X8_inverse : GoodIn wsX8_common (va_wsS RX8 73 yX8_inverse wsX8_inverse) := goodIn_app (goodIn_of _ (by decide +kernel)) ggX8_common_X8_inverse
set_option maxRecDepth 20000 in
theorem ggX8_isPower_X8_in : GoodIn wsX8_isPower wsX8_in := goodIn_r _ [6] (by decide +kernel) (by decide +kernel)
set_option maxRecDepth 20000 in
theorem gX8_isPower_X8_in : GoodIn wsX8_isPower (va_wsS RX8 86 yX8_in wsX8_in) := goodIn_app (goodIn_of _ (by decide +kernel)) ggX8_isPower_X8_in
set_option maxRecDepth 20000 in
theorem ggX8_put_X8_isPower : GoodIn wsX8_put wsX8_isPower := goodIn_r _ [7, 8, 9, 10, 11, 6, 12, 17, 18, 19, 20, 21, 22, 23, 24, 25, 26, 27, 28, 29, 30, 31, 32, 33, 34] (by decide +kernel) (by decide +kernel)
set_option maxRecDepth 20000 in
theorem gX8_put_X8_isPower : GoodIn wsX8_put (wsV RX8 90 RX8 yX8_isPower wsX8_isPower) := goodIn_app (goodIn_of _ (by decide +kernel)) ggX8_put_X8_isPower
set_option maxRecDepth 20000 in
theorem ggX8_put_X8_modulo : GoodIn wsX8_put wsX8_modulo := goodIn_r _ [15, 16] (by decide +kernel) (by decide +kernel)
set_option maxRecDepth 20000 in
theorem gX8_put_X8_modulo : GoodIn wsX8_put (va_wsS RX8 77 yX8_modulo wsX8_modulo) := goodIn_app (goodIn_of _ (by decide +kernel)) ggX8_put_X8_modulo
set_option maxRecDepth 20000 in
theorem ggX8_at_X8_isPower : GoodIn wsX8_at wsX8_isPower := goodIn_r _ [7, 8, 9, 10, 11, 6, 12, 13, 14, 15, 16, 17, 18, 19, 20, 21, 22, 23, 24, 25, 26, 27, 28, 29, 30] (by decide +kernel) (by decide +kernel)
set_option maxRecDepth 20000 in
theorem gX8_at_X8_isPower : GoodIn wsX8_at (wsV RX8 90 RX8 yX8_isPower wsX8_isPower) := goodIn_app (goodIn_of _ (by decide +kernel)) ggX8_at_X8_isPower
set_option maxRecDepth 20000 in
theorem ggX8_shift_X8_modulo : GoodIn wsX8_shift wsX8_modulo := goodIn_r _ [7, 8] (by decide +kernel) (by decide +kernel)
set_option maxRecDepth 20000 in
theorem gX8_shift_X8_modulo : GoodIn wsX8_shift (va_wsS RX8 77 yX8_modulo wsX8_modulo) := goodIn_app (goodIn_of _ (by decide +kernel)) ggX8_shift_X8_modulo
set_option maxRecDepth 20000 in
theorem ggX8_shift_X8_move : GoodIn wsX8_shift wsX8_move := goodIn_r _ [11, 8, 12, 13, 6, 14] (by decide +kernel) (by decide +kernel)
set_option maxRecDepth 20000 in
theorem gX8_shift_X8_move : GoodIn wsX8_shift (va_wsS RX8 94 yX8_move wsX8_move) := goodIn_app (goodIn_of _ (by decide +kernel)) ggX8_shift_X8_move
set_option maxRecDepth 20000 in
theorem ggX8_clear_X8_empty : GoodIn wsX8_clear wsX8_empty := goodIn_r _ [7] (by decide +kernel) (by decide +kernel)
set_option maxRecDepth 20000 in
theorem gX8_clear_X8_empty : GoodIn wsX8_clear (va_wsS RX8 69 yX8_empty wsX8_empty) := goodIn_app (goodIn_of _ (by decide +kernel)) ggX8_clear_X8_empty
set_option maxRecDepth 20000 in
theorem ggX8_isNone_X8_high : GoodIn wsX8_isNone wsX8_high := goodIn_r _ [6] (by decide +kernel) (by decide +kernel)
set_option maxRecDepth 20000 in
theorem gX8_isNone_X8_high : GoodIn wsX8_isNone (va_wsS RX8 65 yX8_high wsX8_high) := goodIn_app (goodIn_of _ (by decide +kernel)) ggX8_isNone_X8_high
set_option maxRecDepth 20000 in
theorem ggX8_findSplit_X8_copy : GoodIn wsX8_findSplit wsX8_copy := goodIn_r _ [15] (by decide +kernel) (by decide +kernel)
set_option maxRecDepth 20000 in
theorem gX8_findSplit_X8_copy : GoodIn wsX8_findSplit (va_wsS RX8 98 yX8_copy wsX8_copy) := goodIn_app (goodIn_of _ (by decide +kernel)) ggX8_findSplit_X8_copy
set_option maxRecDepth 20000 in
theorem ggX8_findSplit_X8_empty : GoodIn wsX8_findSplit wsX8_empty := goodIn_r _ [18] (by decide +kernel) (by decide +kernel)
set_option maxRecDepth 20000 in
theorem gX8_findSplit_X8_empty : GoodIn wsX8_findSplit (va_wsS RX8 69 yX8_empty wsX8_empty) := goodIn_app (goodIn_of _ (by decide +kernel)) ggX8_findSplit_X8_empty
set_option maxRecDepth 20000 in
theorem ggX8_findSplit_X8_move : GoodIn wsX8_findSplit wsX8_move := goodIn_r _ [21, 22, 23, 24, 14, 25] (by decide +kernel) (by decide +kernel)
set_option maxRecDepth 20000 in
theorem gX8_findSplit_X8_move : GoodIn wsX8_findSplit (va_wsS RX8 94 yX8_move wsX8_move) := goodIn_app (goodIn_of _ (by decide +kernel)) ggX8_findSplit_X8_move
set_option maxRecDepth 20000 in
theorem ggX8_findSplit_X8_common : GoodIn wsX8_findSplit wsX8_common := goodIn_r _ [29, 7, 6, 22, 23, 24, 14, 25, 30, 31, 32, 33, 9, 34, 35, 36, 16, 17, 18, 37, 38, 39, 44, 45, 46, 47, 48, 49, 50, 51, 52, 53, 54, 55, 56, 57, 58, 59, 60, 61] (by decide +kernel) (by decide +kernel)
set_option maxRecDepth 20000 in
theorem gX8_findSplit_X8_common : GoodIn wsX8_findSplit (wsV RX8 101 RX8 yX8_common wsX8_common) := goodIn_app (goodIn_of _ (by decide +kernel)) ggX8_findSplit_X8_common
set_option maxRecDepth 20000 in
theorem ggX8_findSplit_X8_high : GoodIn wsX8_findSplit wsX8_high := goodIn_r _ [25] (by decide +kernel) (by decide +kernel)
set_option maxRecDepth 20000 in
theorem gX8_findSplit_X8_high : GoodIn wsX8_findSplit (va_wsS RX8 65 yX8_high wsX8_high) := goodIn_app (goodIn_of _ (by decide +kernel)) ggX8_findSplit_X8_high
set_option maxRecDepth 20000 in
theorem ggX8_findSplit_X8_divide : GoodIn wsX8_findSplit wsX8_divide := goodIn_r _ [33, 9, 22, 23, 24, 14, 25, 34, 35, 36, 16, 17, 18, 37, 38, 39, 44, 45, 46, 47, 48, 49, 50, 51, 52, 53, 54, 55, 56, 57, 58, 59, 60, 61] (by decide +kernel) (by decide +kernel)
set_option maxRecDepth 20000 in
theorem gX8_findSplit_X8_divide : GoodIn wsX8_findSplit (wsV RX8 80 RX8 yX8_divide wsX8_divide) := goodIn_app (goodIn_of _ (by decide +kernel)) ggX8_findSplit_X8_divide
set_option maxRecDepth 20000 in
theorem ggX8_findSplit_X8_multiply : GoodIn wsX8_findSplit wsX8_multiply := goodIn_r _ [43, 11, 22, 16, 17, 14, 18, 23, 24, 25, 44, 45, 46, 47, 48, 49, 50, 51, 52, 53, 54, 55, 56, 57, 58, 59, 60, 61] (by decide +kernel) (by decide +kernel)
set_option maxRecDepth 20000 in
theorem gX8_findSplit_X8_multiply : GoodIn wsX8_findSplit (wsV RX8 106 RX8 yX8_multiply wsX8_multiply) := goodIn_app (goodIn_of _ (by decide +kernel)) ggX8_findSplit_X8_multiply
set_option maxRecDepth 20000 in
theorem ggX8_found_X8_isNone : GoodIn wsX8_found wsX8_isNone := goodIn_r _ [8, 9, 10, 11, 12, 7, 13, 57, 58, 59, 60, 61, 62, 63, 64, 65, 66, 67, 68, 69, 70, 71, 72, 73, 74] (by decide +kernel) (by decide +kernel)
set_option maxRecDepth 20000 in
theorem gX8_found_X8_isNone : GoodIn wsX8_found (wsV RX8 109 RX8 yX8_isNone wsX8_isNone) := goodIn_app (goodIn_of _ (by decide +kernel)) ggX8_found_X8_isNone
set_option maxRecDepth 20000 in
theorem ggX8_found_X8_in : GoodIn wsX8_found wsX8_in := goodIn_r _ [16] (by decide +kernel) (by decide +kernel)
set_option maxRecDepth 20000 in
theorem gX8_found_X8_in : GoodIn wsX8_found (va_wsS RX8 86 yX8_in wsX8_in) := goodIn_app (goodIn_of _ (by decide +kernel)) ggX8_found_X8_in
set_option maxRecDepth 20000 in
theorem ggX8_found_X8_findSplit : GoodIn wsX8_found wsX8_findSplit := goodIn_r _ [20, 21, 9, 22, 10, 23, 24, 25, 3, 26, 27, 28, 29, 30, 7, 31, 32, 33, 34, 35, 36, 37, 38, 11, 12, 13, 39, 40, 41, 42, 43, 44, 45, 46, 47, 48, 49, 50, 51, 52, 53, 54, 55, 56, 57, 58, 59, 60, 61, 62, 63, 64, 65, 66, 67, 68, 69, 70, 71, 72, 73, 74] (by decide +kernel) (by decide +kernel)
set_option maxRecDepth 20000 in
theorem gX8_found_X8_findSplit : GoodIn wsX8_found (wsV RX8 115 RX8 yX8_findSplit wsX8_findSplit) := goodIn_app (goodIn_of _ (by decide +kernel)) ggX8_found_X8_findSplit
set_option maxRecDepth 20000 in
theorem ggX8_takes_X8_isNone : GoodIn wsX8_takes wsX8_isNone := goodIn_r _ [11, 12, 13, 14, 15, 10, 16, 57, 58, 59, 60, 61, 62, 63, 64, 65, 66, 67, 68, 69, 70, 71, 72, 73, 74] (by decide +kernel) (by decide +kernel)
set_option maxRecDepth 20000 in
theorem gX8_takes_X8_isNone : GoodIn wsX8_takes (wsV RX8 109 RX8 yX8_isNone wsX8_isNone) := goodIn_app (goodIn_of _ (by decide +kernel)) ggX8_takes_X8_isNone
set_option maxRecDepth 20000 in
theorem ggX8_takes_X8_in : GoodIn wsX8_takes wsX8_in := goodIn_r _ [19] (by decide +kernel) (by decide +kernel)
set_option maxRecDepth 20000 in
theorem gX8_takes_X8_in : GoodIn wsX8_takes (va_wsS RX8 86 yX8_in wsX8_in) := goodIn_app (goodIn_of _ (by decide +kernel)) ggX8_takes_X8_in
set_option maxRecDepth 20000 in
theorem ggX8_takes_X8_findSplit : GoodIn wsX8_takes wsX8_findSplit := goodIn_r _ [23, 4, 12, 5, 13, 6, 24, 25, 26, 27, 28, 3, 29, 30, 10, 31, 32, 33, 34, 35, 36, 37, 38, 14, 15, 16, 39, 40, 41, 42, 43, 44, 45, 46, 47, 48, 49, 50, 51, 52, 53, 54, 55, 56, 57, 58, 59, 60, 61, 62, 63, 64, 65, 66, 67, 68, 69, 70, 71, 72, 73, 74] (by decide +kernel) (by decide +kernel)
set_option maxRecDepth 20000 in
theorem gX8_takes_X8_findSplit : GoodIn wsX8_takes (wsV RX8 115 RX8 yX8_findSplit wsX8_findSplit) := goodIn_app (goodIn_of _ (by decide +kernel)) ggX8_takes_X8_findSplit
set_option maxRecDepth 20000 in
theorem ggX8_takes_X8_copy : GoodIn wsX8_takes wsX8_copy := goodIn_r _ [31] (by decide +kernel) (by decide +kernel)
set_option maxRecDepth 20000 in
theorem gX8_takes_X8_copy : GoodIn wsX8_takes (va_wsS RX8 98 yX8_copy wsX8_copy) := goodIn_app (goodIn_of _ (by decide +kernel)) ggX8_takes_X8_copy
set_option maxRecDepth 20000 in
theorem ggX8_degree_X8_takes : GoodIn wsX8_degree wsX8_takes := goodIn_r _ [6, 7, 8, 1, 9, 10, 11, 12, 13, 14, 5, 15, 16, 17, 18, 19, 20, 21, 22, 23, 24, 25, 26, 27, 28, 29, 30, 31, 32, 33, 34, 35, 36, 37, 38, 39, 40, 41, 42, 43, 44, 45, 46, 47, 48, 49, 50, 51, 52, 53, 54, 55, 56, 57, 58, 59, 60, 61, 62, 63, 64, 65, 66, 67, 68, 69, 70, 71, 72, 73, 74, 75, 76, 77, 78] (by decide +kernel) (by decide +kernel)
set_option maxRecDepth 20000 in
theorem gX8_degree_X8_takes : GoodIn wsX8_degree (wsV RX8 120 RX8 yX8_takes wsX8_takes) := goodIn_app (goodIn_of _ (by decide +kernel)) ggX8_degree_X8_takes
set_option maxRecDepth 20000 in
theorem ggX8_degree_X8_high : GoodIn wsX8_degree wsX8_high := goodIn_r _ [20] (by decide +kernel) (by decide +kernel)
set_option maxRecDepth 20000 in
theorem gX8_degree_X8_high : GoodIn wsX8_degree (va_wsS RX8 65 yX8_high wsX8_high) := goodIn_app (goodIn_of _ (by decide +kernel)) ggX8_degree_X8_high
set_option maxRecDepth 20000 in
theorem ggX8_split_X8_takes : GoodIn wsX8_split wsX8_takes := goodIn_r _ [7, 8, 9, 2, 10, 11, 12, 13, 14, 15, 6, 16, 17, 18, 19, 20, 21, 22, 23, 24, 25, 26, 27, 28, 29, 30, 31, 32, 33, 34, 35, 36, 37, 38, 39, 40, 41, 42, 43, 44, 45, 46, 47, 48, 49, 50, 51, 52, 53, 54, 55, 56, 57, 58, 59, 60, 61, 62, 63, 64, 65, 66, 67, 68, 69, 70, 71, 72, 73, 74, 75, 76, 77, 78, 79] (by decide +kernel) (by decide +kernel)
set_option maxRecDepth 20000 in
theorem gX8_split_X8_takes : GoodIn wsX8_split (wsV RX8 120 RX8 yX8_takes wsX8_takes) := goodIn_app (goodIn_of _ (by decide +kernel)) ggX8_split_X8_takes
set_option maxRecDepth 20000 in
theorem ggX8_split_X8_in : GoodIn wsX8_split wsX8_in := goodIn_r _ [24] (by decide +kernel) (by decide +kernel)
set_option maxRecDepth 20000 in
theorem gX8_split_X8_in : GoodIn wsX8_split (va_wsS RX8 86 yX8_in wsX8_in) := goodIn_app (goodIn_of _ (by decide +kernel)) ggX8_split_X8_in
set_option maxRecDepth 20000 in
theorem ggX8_fill_X8_copy : GoodIn wsX8_fill wsX8_copy := goodIn_r _ [13] (by decide +kernel) (by decide +kernel)
set_option maxRecDepth 20000 in
theorem gX8_fill_X8_copy : GoodIn wsX8_fill (va_wsS RX8 98 yX8_copy wsX8_copy) := goodIn_app (goodIn_of _ (by decide +kernel)) ggX8_fill_X8_copy
set_option maxRecDepth 20000 in
theorem ggX8_fill_X8_move : GoodIn wsX8_fill wsX8_move := goodIn_r _ [16, 6, 17, 18, 12, 19] (by decide +kernel) (by decide +kernel)
set_option maxRecDepth 20000 in
theorem gX8_fill_X8_move : GoodIn wsX8_fill (va_wsS RX8 94 yX8_move wsX8_move) := goodIn_app (goodIn_of _ (by decide +kernel)) ggX8_fill_X8_move
set_option maxRecDepth 20000 in
theorem ggX8_fill_X8_empty : GoodIn wsX8_fill wsX8_empty := goodIn_r _ [22] (by decide +kernel) (by decide +kernel)
set_option maxRecDepth 20000 in
theorem gX8_fill_X8_empty : GoodIn wsX8_fill (va_wsS RX8 69 yX8_empty wsX8_empty) := goodIn_app (goodIn_of _ (by decide +kernel)) ggX8_fill_X8_empty
set_option maxRecDepth 20000 in
theorem ggX8_fill_X8_multiply : GoodIn wsX8_fill wsX8_multiply := goodIn_r _ [26, 7, 6, 20, 21, 12, 22, 17, 18, 19, 27, 28, 29, 30, 31, 32, 33, 34, 35, 36, 37, 38, 39, 40, 41, 42, 43, 44] (by decide +kernel) (by decide +kernel)
set_option maxRecDepth 20000 in
theorem gX8_fill_X8_multiply : GoodIn wsX8_fill (wsV RX8 106 RX8 yX8_multiply wsX8_multiply) := goodIn_app (goodIn_of _ (by decide +kernel)) ggX8_fill_X8_multiply
set_option maxRecDepth 20000 in
theorem ggX8_solve_X8_findSplit : GoodIn wsX8_solve wsX8_findSplit := goodIn_r _ [8, 9, 10, 11, 12, 13, 14, 15, 16, 17, 18, 19, 20, 21, 7, 22, 23, 24, 25, 26, 27, 28, 29, 30, 31, 32, 33, 34, 35, 36, 37, 38, 39, 40, 41, 42, 43, 44, 45, 46, 47, 48, 49, 50, 59, 60, 61, 62, 63, 64, 65, 66, 67, 68, 69, 70, 71, 72, 73, 74, 75, 76] (by decide +kernel) (by decide +kernel)
set_option maxRecDepth 20000 in
theorem gX8_solve_X8_findSplit : GoodIn wsX8_solve (wsV RX8 115 RX8 yX8_findSplit wsX8_findSplit) := goodIn_app (goodIn_of _ (by decide +kernel)) ggX8_solve_X8_findSplit
set_option maxRecDepth 20000 in
theorem ggX8_solve_X8_fill : GoodIn wsX8_solve wsX8_fill := goodIn_r _ [54, 15, 11, 18, 14, 1, 29, 19, 9, 13, 20, 21, 7, 22, 26, 27, 28, 30, 31, 32, 23, 24, 25, 47, 48, 49, 50, 59, 60, 61, 62, 63, 64, 65, 66, 67, 68, 69, 70, 71, 72, 73, 74, 75, 76] (by decide +kernel) (by decide +kernel)
set_option maxRecDepth 20000 in
theorem gX8_solve_X8_fill : GoodIn wsX8_solve (wsV RX8 125 RX8 yX8_fill wsX8_fill) := goodIn_app (goodIn_of _ (by decide +kernel)) ggX8_solve_X8_fill
set_option maxRecDepth 20000 in
theorem ggX8_solve_X8_bringOut : GoodIn wsX8_solve wsX8_bringOut := goodIn_r _ [58, 1, 29, 41, 42, 7, 43, 44, 45, 46, 59, 60, 61, 62, 63, 64, 65, 66, 67, 68, 69, 70, 71, 72, 73, 74, 75, 76] (by decide +kernel) (by decide +kernel)
set_option maxRecDepth 20000 in
theorem gX8_solve_X8_bringOut : GoodIn wsX8_solve (wsV RX8 128 RX8 yX8_bringOut wsX8_bringOut) := goodIn_app (goodIn_of _ (by decide +kernel)) ggX8_solve_X8_bringOut
set_option maxRecDepth 20000 in
theorem ggX8_solve_X8_empty : GoodIn wsX8_solve wsX8_empty := goodIn_r _ [25] (by decide +kernel) (by decide +kernel)
set_option maxRecDepth 20000 in
theorem gX8_solve_X8_empty : GoodIn wsX8_solve (va_wsS RX8 69 yX8_empty wsX8_empty) := goodIn_app (goodIn_of _ (by decide +kernel)) ggX8_solve_X8_empty
set_option maxRecDepth 20000 in
theorem ggX8_bringOut_X8_inverse : GoodIn wsX8_bringOut wsX8_inverse := goodIn_r _ [6, 2] (by decide +kernel) (by decide +kernel)
set_option maxRecDepth 20000 in
theorem gX8_bringOut_X8_inverse : GoodIn wsX8_bringOut (va_wsS RX8 73 yX8_inverse wsX8_inverse) := goodIn_app (goodIn_of _ (by decide +kernel)) ggX8_bringOut_X8_inverse
set_option maxRecDepth 20000 in
theorem ggX8_bringOut_X8_modulo : GoodIn wsX8_bringOut wsX8_modulo := goodIn_r _ [9, 2] (by decide +kernel) (by decide +kernel)
set_option maxRecDepth 20000 in
theorem gX8_bringOut_X8_modulo : GoodIn wsX8_bringOut (va_wsS RX8 77 yX8_modulo wsX8_modulo) := goodIn_app (goodIn_of _ (by decide +kernel)) ggX8_bringOut_X8_modulo
set_option maxRecDepth 20000 in
theorem ggX8_run_X8_isNone : GoodIn wsX8_run wsX8_isNone := goodIn_r _ [6, 7, 8, 9, 10, 5, 11, 68, 69, 70, 71, 72, 73, 74, 75, 76, 77, 78, 79, 80, 81, 82, 83, 84, 85] (by decide +kernel) (by decide +kernel)
set_option maxRecDepth 20000 in
theorem gX8_run_X8_isNone : GoodIn wsX8_run (wsV RX8 109 RX8 yX8_isNone wsX8_isNone) := goodIn_app (goodIn_of _ (by decide +kernel)) ggX8_run_X8_isNone
set_option maxRecDepth 20000 in
theorem ggX8_run_X8_solve : GoodIn wsX8_run wsX8_solve := goodIn_r _ [15, 16, 17, 18, 19, 20, 21, 5, 22, 23, 7, 24, 8, 25, 26, 27, 28, 29, 30, 31, 32, 33, 34, 35, 36, 37, 38, 39, 40, 41, 9, 10, 11, 42, 43, 44, 45, 46, 47, 48, 49, 50, 51, 52, 53, 54, 55, 56, 57, 58, 59, 60, 61, 62, 63, 64, 65, 66, 67, 68, 69, 70, 71, 72, 73, 74, 75, 76, 77, 78, 79, 80, 81, 82, 83, 84, 85] (by decide +kernel) (by decide +kernel)
set_option maxRecDepth 20000 in
theorem gX8_run_X8_solve : GoodIn wsX8_run (wsV RX8 132 RX8 yX8_solve wsX8_solve) := goodIn_app (goodIn_of _ (by decide +kernel)) ggX8_run_X8_solve
set_option maxRecDepth 20000 in
theorem ggX8_isAnswered_X8_isNone : GoodIn wsX8_isAnswered wsX8_isNone := goodIn_r _ [7, 8, 9, 10, 11, 6, 12, 69, 70, 71, 72, 73, 74, 75, 76, 77, 78, 79, 80, 81, 82, 83, 84, 85, 86] (by decide +kernel) (by decide +kernel)
set_option maxRecDepth 20000 in
theorem gX8_isAnswered_X8_isNone : GoodIn wsX8_isAnswered (wsV RX8 109 RX8 yX8_isNone wsX8_isNone) := goodIn_app (goodIn_of _ (by decide +kernel)) ggX8_isAnswered_X8_isNone
set_option maxRecDepth 20000 in
theorem ggX8_isAnswered_X8_solve : GoodIn wsX8_isAnswered wsX8_solve := goodIn_r _ [16, 17, 18, 19, 20, 21, 22, 6, 23, 24, 8, 25, 9, 26, 27, 28, 29, 30, 31, 32, 33, 34, 35, 36, 37, 38, 39, 40, 41, 42, 10, 11, 12, 43, 44, 45, 46, 47, 48, 49, 50, 51, 52, 53, 54, 55, 56, 57, 58, 59, 60, 61, 62, 63, 64, 65, 66, 67, 68, 69, 70, 71, 72, 73, 74, 75, 76, 77, 78, 79, 80, 81, 82, 83, 84, 85, 86] (by decide +kernel) (by decide +kernel)
set_option maxRecDepth 20000 in
theorem gX8_isAnswered_X8_solve : GoodIn wsX8_isAnswered (wsV RX8 132 RX8 yX8_solve wsX8_solve) := goodIn_app (goodIn_of _ (by decide +kernel)) ggX8_isAnswered_X8_solve
set_option maxRecDepth 20000 in
theorem ggX8_answer_X8_isAnswered : GoodIn wsX8_answer wsX8_isAnswered := goodIn_r _ [7, 8, 9, 10, 11, 12, 6, 13, 14, 15, 16, 17, 18, 19, 20, 21, 22, 23, 24, 2, 25, 26, 27, 28, 29, 30, 31, 32, 33, 34, 35, 36, 37, 38, 39, 40, 41, 42, 43, 44, 45, 46, 47, 48, 49, 50, 51, 52, 53, 54, 55, 56, 57, 58, 59, 60, 61, 62, 63, 64, 65, 66, 67, 68, 69, 70, 71, 72, 73, 77, 78, 79, 80, 81, 82, 83, 84, 85, 86, 87, 88, 89, 90, 91, 92, 93, 94] (by decide +kernel) (by decide +kernel)
set_option maxRecDepth 20000 in
theorem gX8_answer_X8_isAnswered : GoodIn wsX8_answer (wsV RX8 139 RX8 yX8_isAnswered wsX8_isAnswered) := goodIn_app (goodIn_of _ (by decide +kernel)) ggX8_answer_X8_isAnswered
set_option maxRecDepth 20000 in
theorem ggX8_answer_X8_in : GoodIn wsX8_answer wsX8_in := goodIn_r _ [76] (by decide +kernel) (by decide +kernel)
set_option maxRecDepth 20000 in
theorem gX8_answer_X8_in : GoodIn wsX8_answer (va_wsS RX8 86 yX8_in wsX8_in) := goodIn_app (goodIn_of _ (by decide +kernel)) ggX8_answer_X8_in
set_option maxRecDepth 20000 in
theorem ggX8_isClosed_X8_isAnswered : GoodIn wsX8_isClosed wsX8_isAnswered := goodIn_r _ [16, 17, 18, 19, 20, 21, 15, 22, 23, 24, 25, 26, 27, 28, 29, 30, 31, 32, 33, 4, 34, 35, 36, 37, 38, 2, 8, 9, 1, 39, 10, 3, 6, 40, 41, 42, 43, 44, 45, 46, 47, 48, 11, 49, 50, 51, 52, 53, 54, 55, 56, 57, 58, 59, 60, 61, 62, 63, 64, 65, 66, 67, 68, 69, 70, 71, 72, 73, 74, 75, 76, 77, 78, 79, 80, 81, 82, 83, 84, 85, 86, 87, 88, 89, 90, 91, 92] (by decide +kernel) (by decide +kernel)
set_option maxRecDepth 20000 in
theorem gX8_isClosed_X8_isAnswered : GoodIn wsX8_isClosed (wsV RX8 139 RX8 yX8_isAnswered wsX8_isAnswered) := goodIn_app (goodIn_of _ (by decide +kernel)) ggX8_isClosed_X8_isAnswered
set_option maxRecDepth 20000 in
theorem ggX8_isClosed_X8_copy : GoodIn wsX8_isClosed wsX8_copy := goodIn_r _ [42] (by decide +kernel) (by decide +kernel)
set_option maxRecDepth 20000 in
theorem gX8_isClosed_X8_copy : GoodIn wsX8_isClosed (va_wsS RX8 98 yX8_copy wsX8_copy) := goodIn_app (goodIn_of _ (by decide +kernel)) ggX8_isClosed_X8_copy
set_option maxRecDepth 20000 in
theorem ggX8_isClosed_X8_move : GoodIn wsX8_isClosed wsX8_move := goodIn_r _ [48, 11, 25, 26, 15, 27] (by decide +kernel) (by decide +kernel)
set_option maxRecDepth 20000 in
theorem gX8_isClosed_X8_move : GoodIn wsX8_isClosed (va_wsS RX8 94 yX8_move wsX8_move) := goodIn_app (goodIn_of _ (by decide +kernel)) ggX8_isClosed_X8_move
set_option maxRecDepth 20000 in
theorem ggX8_isClosed_X8_multiply : GoodIn wsX8_isClosed wsX8_multiply := goodIn_r _ [66, 6, 11, 43, 44, 15, 45, 25, 26, 27, 75, 76, 77, 78, 79, 80, 81, 82, 83, 84, 85, 86, 87, 88, 89, 90, 91, 92] (by decide +kernel) (by decide +kernel)
set_option maxRecDepth 20000 in
theorem gX8_isClosed_X8_multiply : GoodIn wsX8_isClosed (wsV RX8 106 RX8 yX8_multiply wsX8_multiply) := goodIn_app (goodIn_of _ (by decide +kernel)) ggX8_isClosed_X8_multiply
set_option maxRecDepth 20000 in
theorem ggX8_isClosed_X8_common : GoodIn wsX8_isClosed wsX8_common := goodIn_r _ [52, 1, 9, 11, 25, 26, 15, 27, 53, 54, 55, 56, 10, 57, 58, 59, 43, 44, 45, 60, 61, 62, 75, 76, 77, 78, 79, 80, 81, 82, 83, 84, 85, 86, 87, 88, 89, 90, 91, 92] (by decide +kernel) (by decide +kernel)
set_option maxRecDepth 20000 in
theorem gX8_isClosed_X8_common : GoodIn wsX8_isClosed (wsV RX8 101 RX8 yX8_common wsX8_common) := goodIn_app (goodIn_of _ (by decide +kernel)) ggX8_isClosed_X8_common
set_option maxRecDepth 20000 in
theorem ggX8_isClosed_X8_divide : GoodIn wsX8_isClosed wsX8_divide := goodIn_r _ [56, 10, 11, 25, 26, 15, 27, 57, 58, 59, 43, 44, 45, 60, 61, 62, 75, 76, 77, 78, 79, 80, 81, 82, 83, 84, 85, 86, 87, 88, 89, 90, 91, 92] (by decide +kernel) (by decide +kernel)
set_option maxRecDepth 20000 in
theorem gX8_isClosed_X8_divide : GoodIn wsX8_isClosed (wsV RX8 80 RX8 yX8_divide wsX8_divide) := goodIn_app (goodIn_of _ (by decide +kernel)) ggX8_isClosed_X8_divide
set_option maxRecDepth 20000 in
theorem ggX8_isClosed_X8_high : GoodIn wsX8_isClosed wsX8_high := goodIn_r _ [27] (by decide +kernel) (by decide +kernel)
set_option maxRecDepth 20000 in
theorem gX8_isClosed_X8_high : GoodIn wsX8_isClosed (va_wsS RX8 65 yX8_high wsX8_high) := goodIn_app (goodIn_of _ (by decide +kernel)) ggX8_isClosed_X8_high
set_option maxRecDepth 20000 in
theorem ggX8_isClosed_X8_inverse : GoodIn wsX8_isClosed wsX8_inverse := goodIn_r _ [59, 11] (by decide +kernel) (by decide +kernel)
set_option maxRecDepth 20000 in
theorem gX8_isClosed_X8_inverse : GoodIn wsX8_isClosed (va_wsS RX8 73 yX8_inverse wsX8_inverse) := goodIn_app (goodIn_of _ (by decide +kernel)) ggX8_isClosed_X8_inverse
set_option maxRecDepth 20000 in
theorem ggX8_closed_X8_isClosed : GoodIn wsX8_closed wsX8_isClosed := goodIn_r _ [8, 9, 10, 11, 12, 2, 13, 3, 14, 15, 16, 17, 18, 19, 20, 7, 21, 22, 23, 24, 25, 26, 27, 28, 29, 30, 31, 32, 33, 34, 35, 36, 37, 38, 39, 40, 41, 42, 43, 44, 45, 46, 47, 48, 49, 50, 51, 52, 53, 54, 55, 56, 57, 58, 59, 60, 61, 62, 63, 64, 65, 66, 67, 68, 69, 70, 71, 72, 73, 74, 75, 76, 77, 78, 79, 83, 84, 85, 86, 87, 88, 89, 90, 91, 92, 93, 94, 95, 96, 97, 98, 99, 100] (by decide +kernel) (by decide +kernel)
set_option maxRecDepth 20000 in
theorem gX8_closed_X8_isClosed : GoodIn wsX8_closed (wsV RX8 144 RX8 yX8_isClosed wsX8_isClosed) := goodIn_app (goodIn_of _ (by decide +kernel)) ggX8_closed_X8_isClosed
set_option maxRecDepth 20000 in
theorem ggX8_closed_X8_in : GoodIn wsX8_closed wsX8_in := goodIn_r _ [82] (by decide +kernel) (by decide +kernel)
set_option maxRecDepth 20000 in
theorem gX8_closed_X8_in : GoodIn wsX8_closed (va_wsS RX8 86 yX8_in wsX8_in) := goodIn_app (goodIn_of _ (by decide +kernel)) ggX8_closed_X8_in
set_option maxRecDepth 20000 in
theorem ggX8_value_X8_isClosed : GoodIn wsX8_value wsX8_isClosed := goodIn_r _ [8, 9, 10, 11, 12, 2, 13, 1, 14, 15, 16, 3, 17, 18, 19, 7, 20, 21, 22, 23, 24, 25, 26, 27, 28, 29, 30, 31, 32, 33, 34, 35, 36, 37, 38, 39, 40, 41, 42, 43, 44, 45, 46, 47, 48, 49, 50, 51, 52, 53, 54, 55, 56, 57, 58, 59, 60, 61, 62, 63, 64, 65, 66, 67, 68, 69, 70, 71, 72, 73, 74, 75, 76, 77, 78, 82, 83, 84, 85, 86, 87, 88, 89, 90, 91, 92, 93, 94, 95, 96, 97, 98, 99] (by decide +kernel) (by decide +kernel)
set_option maxRecDepth 20000 in
theorem gX8_value_X8_isClosed : GoodIn wsX8_value (wsV RX8 144 RX8 yX8_isClosed wsX8_isClosed) := goodIn_app (goodIn_of _ (by decide +kernel)) ggX8_value_X8_isClosed
set_option maxRecDepth 20000 in
theorem ggX8_value_X8_modulo : GoodIn wsX8_value wsX8_modulo := goodIn_r _ [66, 3] (by decide +kernel) (by decide +kernel)
set_option maxRecDepth 20000 in
theorem gX8_value_X8_modulo : GoodIn wsX8_value (va_wsS RX8 77 yX8_modulo wsX8_modulo) := goodIn_app (goodIn_of _ (by decide +kernel)) ggX8_value_X8_modulo
set_option maxRecDepth 20000 in
theorem ggX8_value_X8_valueAt : GoodIn wsX8_value wsX8_valueAt := goodIn_r _ [81, 3] (by decide +kernel) (by decide +kernel)
set_option maxRecDepth 20000 in
theorem gX8_value_X8_valueAt : GoodIn wsX8_value (va_wsS RX8 147 yX8_valueAt wsX8_valueAt) := goodIn_app (goodIn_of _ (by decide +kernel)) ggX8_value_X8_valueAt
set_option maxRecDepth 20000 in
theorem ggX8_value_X8_inverse : GoodIn wsX8_value wsX8_inverse := goodIn_r _ [63, 3] (by decide +kernel) (by decide +kernel)
set_option maxRecDepth 20000 in
theorem gX8_value_X8_inverse : GoodIn wsX8_value (va_wsS RX8 73 yX8_inverse wsX8_inverse) := goodIn_app (goodIn_of _ (by decide +kernel)) ggX8_value_X8_inverse
set_option maxRecDepth 20000 in
theorem ggX8_reaches_X8_valueAt : GoodIn wsX8_reaches wsX8_valueAt := goodIn_r _ [8, 4] (by decide +kernel) (by decide +kernel)
set_option maxRecDepth 20000 in
theorem gX8_reaches_X8_valueAt : GoodIn wsX8_reaches (va_wsS RX8 147 yX8_valueAt wsX8_valueAt) := goodIn_app (goodIn_of _ (by decide +kernel)) ggX8_reaches_X8_valueAt
set_option maxRecDepth 20000 in
theorem ggX8_reaches_X8_inverse : GoodIn wsX8_reaches wsX8_inverse := goodIn_r _ [11, 4] (by decide +kernel) (by decide +kernel)
set_option maxRecDepth 20000 in
theorem gX8_reaches_X8_inverse : GoodIn wsX8_reaches (va_wsS RX8 73 yX8_inverse wsX8_inverse) := goodIn_app (goodIn_of _ (by decide +kernel)) ggX8_reaches_X8_inverse
set_option maxRecDepth 20000 in
theorem ggX8_term_X8_in : GoodIn wsX8_term wsX8_in := goodIn_r _ [7] (by decide +kernel) (by decide +kernel)
set_option maxRecDepth 20000 in
theorem gX8_term_X8_in : GoodIn wsX8_term (va_wsS RX8 86 yX8_in wsX8_in) := goodIn_app (goodIn_of _ (by decide +kernel)) ggX8_term_X8_in
set_option maxRecDepth 20000 in
theorem ggX8_term_X8_raise : GoodIn wsX8_term wsX8_raise := goodIn_r _ [11, 2, 25, 26, 27, 28, 29, 30, 31, 32, 33, 34, 35, 36, 37, 38, 39, 40, 41, 42] (by decide +kernel) (by decide +kernel)
set_option maxRecDepth 20000 in
theorem gX8_term_X8_raise : GoodIn wsX8_term (wsV RX8 153 RX8 yX8_raise wsX8_raise) := goodIn_app (goodIn_of _ (by decide +kernel)) ggX8_term_X8_raise
set_option maxRecDepth 20000 in
theorem ggX8_term_X8_reaches : GoodIn wsX8_term wsX8_reaches := goodIn_r _ [15, 3, 16, 17, 18, 19, 20, 6, 21, 22, 23, 24, 25, 26, 27, 28, 29, 30, 31, 32, 33, 34, 35, 36, 37, 38, 39, 40, 41, 42] (by decide +kernel) (by decide +kernel)
set_option maxRecDepth 20000 in
theorem gX8_term_X8_reaches : GoodIn wsX8_term (wsV RX8 157 RX8 yX8_reaches wsX8_reaches) := goodIn_app (goodIn_of _ (by decide +kernel)) ggX8_term_X8_reaches
set_option maxRecDepth 20000 in
theorem ggX8_sum_X8_in : GoodIn wsX8_sum wsX8_in := goodIn_r _ [8] (by decide +kernel) (by decide +kernel)
set_option maxRecDepth 20000 in
theorem gX8_sum_X8_in : GoodIn wsX8_sum (va_wsS RX8 86 yX8_in wsX8_in) := goodIn_app (goodIn_of _ (by decide +kernel)) ggX8_sum_X8_in
set_option maxRecDepth 20000 in
theorem ggX8_sum_X8_raise : GoodIn wsX8_sum wsX8_raise := goodIn_r _ [12, 2, 25, 26, 27, 28, 29, 30, 31, 32, 33, 34, 35, 36, 37, 38, 39, 40, 41, 42] (by decide +kernel) (by decide +kernel)
set_option maxRecDepth 20000 in
theorem gX8_sum_X8_raise : GoodIn wsX8_sum (wsV RX8 153 RX8 yX8_raise wsX8_raise) := goodIn_app (goodIn_of _ (by decide +kernel)) ggX8_sum_X8_raise
set_option maxRecDepth 20000 in
theorem ggX8_sum_X8_reaches : GoodIn wsX8_sum wsX8_reaches := goodIn_r _ [16, 3, 17, 18, 4, 19, 20, 7, 21, 22, 23, 24, 25, 26, 27, 28, 29, 30, 31, 32, 33, 34, 35, 36, 37, 38, 39, 40, 41, 42] (by decide +kernel) (by decide +kernel)
set_option maxRecDepth 20000 in
theorem gX8_sum_X8_reaches : GoodIn wsX8_sum (wsV RX8 157 RX8 yX8_reaches wsX8_reaches) := goodIn_app (goodIn_of _ (by decide +kernel)) ggX8_sum_X8_reaches
