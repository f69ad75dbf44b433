set_option maxRecDepth 20000 in
theorem ggX7_init_X4_init : GoodIn wsX7_init wsX4_init := goodIn_r _ [30, 31, 2, 3, 32, 33, 34, 104, 105] (by decide +kernel) (by decide +kernel)
set_option maxRecDepth 20000 in
theorem gX7_init_X4_init_n9 : GoodIn wsX7_init (wsX4_init) := ggX7_init_X4_init
set_option maxRecDepth 20000 in
theorem ggX7_init_X0_init : GoodIn wsX7_init wsX0_init := goodIn_r _ [36, 37, 2, 3, 38, 5, 6, 39, 40, 41, 42, 29, 30, 31, 32, 33, 34, 104, 105, 113, 114, 115, 116] (by decide +kernel) (by decide +kernel)
set_option maxRecDepth 20000 in
theorem gX7_init_X0_init_n21 : GoodIn wsX7_init (wsX0_init) := ggX7_init_X0_init
set_option maxRecDepth 20000 in
theorem ggX7_init_X6_init : GoodIn wsX7_init wsX6_init := goodIn_r _ [44, 45, 2, 3, 46, 5, 6, 47, 48, 49, 50, 32, 51, 52, 29, 30, 31, 33, 34, 104, 105, 117, 118, 119, 120, 121, 122] (by decide +kernel) (by decide +kernel)
set_option maxRecDepth 20000 in
theorem gX7_init_X6_init_n28 : GoodIn wsX7_init (wsX6_init) := ggX7_init_X6_init
set_option maxRecDepth 20000 in
theorem ggX7_init_X1_init : GoodIn wsX7_init wsX1_init := goodIn_r _ [55, 56, 2, 3, 57, 58, 59, 60, 61, 62, 63, 5, 6, 64, 65, 66, 67, 68, 69, 70, 71, 72, 73, 74, 29, 30, 31, 32, 33, 34, 75, 76, 77, 78, 79, 80, 81, 82, 83, 84, 85, 86, 123, 124, 125, 126, 127, 128, 129, 130, 136, 137, 104, 105] (by decide +kernel) (by decide +kernel)
set_option maxRecDepth 20000 in
theorem gX7_init_X1_init : GoodIn wsX7_init (wsX1_init) := ggX7_init_X1_init
set_option maxRecDepth 20000 in
theorem ggX7_init_X2_init : GoodIn wsX7_init wsX2_init := goodIn_r _ [88, 89, 2, 3, 90, 5, 6, 91, 92, 93, 29, 30, 31, 32, 33, 34, 104, 105, 131, 132, 133] (by decide +kernel) (by decide +kernel)
set_option maxRecDepth 20000 in
theorem gX7_init_X2_init_n42 : GoodIn wsX7_init (wsX2_init) := ggX7_init_X2_init
set_option maxRecDepth 20000 in
theorem ggX7_init_X5_init : GoodIn wsX7_init wsX5_init := goodIn_r _ [96, 97, 2, 3, 32, 98, 99, 134, 135] (by decide +kernel) (by decide +kernel)
set_option maxRecDepth 20000 in
theorem gX7_init_X5_init : GoodIn wsX7_init (wsX5_init) := ggX7_init_X5_init
set_option maxRecDepth 20000 in
theorem ggX7_init_X4_becomeNumber : GoodIn wsX7_init wsX4_becomeNumber := goodIn_r _ [103, 33, 34, 104, 105] (by decide +kernel) (by decide +kernel)
set_option maxRecDepth 20000 in
theorem gX7_init_X4_becomeNumber : GoodIn wsX7_init (wsV RX7 54 RX4 yX4_becomeNumber wsX4_becomeNumber) := goodIn_app (goodIn_of _ (by decide +kernel)) ggX7_init_X4_becomeNumber
set_option maxRecDepth 20000 in
theorem ggX7_put_X7_requirePower : GoodIn wsX7_put wsX7_requirePower := goodIn_ca (goodIn_r _ [6, 7, 8] (by decide +kernel) (by decide +kernel)) (goodIn_sub (fun _ h => List.mem_cons_of_mem _ (List.mem_append_right _ h)) (by decide +kernel))
set_option maxRecDepth 20000 in
theorem gX7_put_X7_requirePower : GoodIn wsX7_put (wsV RX7 58 RX7 yX7_requirePower wsX7_requirePower) := goodIn_app (goodIn_of _ (by decide +kernel)) ggX7_put_X7_requirePower
set_option maxRecDepth 20000 in
theorem ggX7_put_X7_side : GoodIn wsX7_put wsX7_side := goodIn_r _ [12, 13, 14, 70, 71, 72, 73, 74, 75, 76] (by decide +kernel) (by decide +kernel)
set_option maxRecDepth 20000 in
theorem gX7_put_X7_side : GoodIn wsX7_put (wsV RX7 61 RX7 yX7_side wsX7_side) := goodIn_app (goodIn_of _ (by decide +kernel)) ggX7_put_X7_side
set_option maxRecDepth 20000 in
theorem ggX7_put_J9_floorMod_f86c9 : GoodIn wsX7_put wsJ9_floorMod_f86c9 := goodIn_r _ [18] (by decide +kernel) (by decide +kernel)
set_option maxRecDepth 20000 in
theorem gX7_put_J9_floorMod_f86c9 : GoodIn wsX7_put (va_wsS RX7 67 yJ9_floorMod_f86c9 wsJ9_floorMod_f86c9) := goodIn_app (goodIn_of _ (by decide +kernel)) ggX7_put_J9_floorMod_f86c9
set_option maxRecDepth 20000 in
theorem ggX7_put_X4_number : GoodIn wsX7_put wsX4_number := goodIn_r _ [23, 24, 77, 78] (by decide +kernel) (by decide +kernel)
set_option maxRecDepth 20000 in
theorem gX7_put_X4_number : GoodIn wsX7_put (wsV RX7 73 RX4 yX4_number wsX4_number) := goodIn_app (goodIn_of _ (by decide +kernel)) ggX7_put_X4_number
set_option maxRecDepth 20000 in
theorem ggX7_put_X4_setNumber : GoodIn wsX7_put wsX4_setNumber := goodIn_r _ [28, 24, 29, 30, 31, 32, 33, 34, 35, 36, 22, 37, 77, 78] (by decide +kernel) (by decide +kernel)
set_option maxRecDepth 20000 in
theorem gX7_put_X4_setNumber : GoodIn wsX7_put (wsV RX7 77 RX4 yX4_setNumber wsX4_setNumber) := goodIn_app (goodIn_of _ (by decide +kernel)) ggX7_put_X4_setNumber
set_option maxRecDepth 20000 in
theorem ggX7_put_X7_forget : GoodIn wsX7_put wsX7_forget := goodIn_r _ [41, 42, 43, 44, 45, 46, 47, 48, 49, 50, 51, 52, 53, 54, 55, 56, 57, 58, 59, 60, 61, 62, 63, 64, 65, 66, 67, 68, 69, 70, 71, 72, 73, 74, 75, 76, 79, 80, 81, 82, 83, 84, 85, 86, 87, 88, 89, 90, 91, 92, 93, 94, 95, 96, 97] (by decide +kernel) (by decide +kernel)
set_option maxRecDepth 20000 in
theorem gX7_put_X7_forget : GoodIn wsX7_put (wsV RX7 81 RX7 yX7_forget wsX7_forget) := goodIn_app (goodIn_of _ (by decide +kernel)) ggX7_put_X7_forget
set_option maxRecDepth 20000 in
theorem ggX7_at_X7_requirePower : GoodIn wsX7_at wsX7_requirePower := goodIn_ca (goodIn_r _ [5, 6, 7] (by decide +kernel) (by decide +kernel)) (goodIn_sub (fun _ h => List.mem_cons_of_mem _ (List.mem_append_right _ h)) (by decide +kernel))
set_option maxRecDepth 20000 in
theorem gX7_at_X7_requirePower : GoodIn wsX7_at (wsV RX7 58 RX7 yX7_requirePower wsX7_requirePower) := goodIn_app (goodIn_of _ (by decide +kernel)) ggX7_at_X7_requirePower
set_option maxRecDepth 20000 in
theorem ggX7_at_X7_side : GoodIn wsX7_at wsX7_side := goodIn_r _ [11, 12, 13, 20, 21, 22, 23, 24, 25, 26] (by decide +kernel) (by decide +kernel)
set_option maxRecDepth 20000 in
theorem gX7_at_X7_side : GoodIn wsX7_at (wsV RX7 61 RX7 yX7_side wsX7_side) := goodIn_app (goodIn_of _ (by decide +kernel)) ggX7_at_X7_side
set_option maxRecDepth 20000 in
theorem ggX7_at_X4_number : GoodIn wsX7_at wsX4_number := goodIn_r _ [18, 19, 27, 28] (by decide +kernel) (by decide +kernel)
set_option maxRecDepth 20000 in
theorem gX7_at_X4_number : GoodIn wsX7_at (wsV RX7 73 RX4 yX4_number wsX4_number) := goodIn_app (goodIn_of _ (by decide +kernel)) ggX7_at_X4_number
set_option maxRecDepth 20000 in
theorem ggX7_found_X7_requireRatio : GoodIn wsX7_found wsX7_requireRatio := goodIn_ca (goodIn_r _ [11, 12, 13, 4, 5, 14, 15, 16, 17, 18, 19, 113, 114, 115, 116, 117, 118, 119, 120, 121] (by decide +kernel) (by decide +kernel)) (goodIn_sub (fun _ h => List.mem_cons_of_mem _ (List.mem_append_right _ h)) (by decide +kernel))
set_option maxRecDepth 20000 in
theorem gX7_found_X7_requireRatio : GoodIn wsX7_found (wsV RX7 84 RX7 yX7_requireRatio wsX7_requireRatio) := goodIn_app (goodIn_of _ (by decide +kernel)) ggX7_found_X7_requireRatio
set_option maxRecDepth 20000 in
theorem ggX7_found_X6_renew : GoodIn wsX7_found wsX6_renew := goodIn_r _ [24, 25, 26, 27, 28, 29, 30, 31, 32, 33, 17, 34, 35, 19, 36, 37, 38, 39, 40, 41, 42, 43, 44, 45, 46, 47, 48, 49, 50, 51, 52, 53, 54, 55, 56, 57, 58, 59, 60, 61, 62, 15, 16, 18, 63, 64, 65, 66, 67, 68, 69, 70, 71, 72, 73, 10, 74, 75, 76, 77, 78, 79, 80, 81, 82, 83, 84, 85, 86, 87, 88, 89, 90, 91, 92, 93, 94, 95, 96, 97, 98, 99, 100, 101, 102, 103, 104, 105, 106, 107, 108, 122, 123, 124, 125, 126, 127, 120, 121, 128, 129, 130, 131] (by decide +kernel) (by decide +kernel)
set_option maxRecDepth 20000 in
theorem gX7_found_X6_renew : GoodIn wsX7_found (wsV RX7 94 RX6 yX6_renew wsX6_renew) := goodIn_app (goodIn_of _ (by decide +kernel)) ggX7_found_X6_renew
set_option maxRecDepth 20000 in
theorem ggX7_found_X6_commonDegree : GoodIn wsX7_found wsX6_commonDegree := goodIn_r _ [112, 29, 122, 123, 124, 125, 126, 127] (by decide +kernel) (by decide +kernel)
set_option maxRecDepth 20000 in
theorem gX7_found_X6_commonDegree : GoodIn wsX7_found (wsV RX7 98 RX6 yX6_commonDegree wsX6_commonDegree) := goodIn_app (goodIn_of _ (by decide +kernel)) ggX7_found_X6_commonDegree
set_option maxRecDepth 20000 in
theorem ggX7_degree_X7_requireRatio : GoodIn wsX7_degree wsX7_requireRatio := goodIn_ca (goodIn_r _ [9, 10, 11, 2, 3, 12, 13, 14, 15, 16, 17, 118, 119, 120, 121, 122, 123, 124, 125, 126] (by decide +kernel) (by decide +kernel)) (goodIn_sub (fun _ h => List.mem_cons_of_mem _ (List.mem_append_left _ (List.mem_append_right _ h))) (by decide +kernel))
set_option maxRecDepth 20000 in
theorem gX7_degree_X7_requireRatio : GoodIn wsX7_degree (wsV RX7 84 RX7 yX7_requireRatio wsX7_requireRatio) := goodIn_app (goodIn_of _ (by decide +kernel)) ggX7_degree_X7_requireRatio
set_option maxRecDepth 20000 in
theorem ggX7_degree_X7_requirePart : GoodIn wsX7_degree wsX7_requirePart := goodIn_ca (goodIn_r _ [21, 22, 23] (by decide +kernel) (by decide +kernel)) (goodIn_sub (fun _ h => List.mem_cons_of_mem _ (List.mem_append_right _ h)) (by decide +kernel))
set_option maxRecDepth 20000 in
theorem gX7_degree_X7_requirePart : GoodIn wsX7_degree (wsV RX7 101 RX7 yX7_requirePart wsX7_requirePart) := goodIn_app (goodIn_of _ (by decide +kernel)) ggX7_degree_X7_requirePart
set_option maxRecDepth 20000 in
theorem ggX7_degree_X6_renew : GoodIn wsX7_degree wsX6_renew := goodIn_r _ [28, 29, 30, 31, 32, 33, 34, 35, 36, 37, 15, 38, 39, 17, 40, 41, 42, 43, 44, 45, 46, 47, 48, 49, 50, 51, 52, 53, 54, 55, 56, 57, 58, 59, 60, 61, 62, 63, 64, 65, 66, 13, 14, 16, 67, 68, 69, 70, 71, 72, 73, 74, 75, 76, 77, 8, 78, 79, 80, 81, 82, 83, 84, 85, 86, 87, 88, 89, 90, 91, 92, 93, 94, 95, 96, 97, 98, 99, 100, 101, 102, 103, 104, 105, 106, 107, 108, 109, 110, 111, 112, 127, 128, 129, 130, 131, 132, 125, 126, 133, 134, 135, 136] (by decide +kernel) (by decide +kernel)
set_option maxRecDepth 20000 in
theorem gX7_degree_X6_renew : GoodIn wsX7_degree (wsV RX7 94 RX6 yX6_renew wsX6_renew) := goodIn_app (goodIn_of _ (by decide +kernel)) ggX7_degree_X6_renew
set_option maxRecDepth 20000 in
theorem ggX7_degree_X6_part : GoodIn wsX7_degree wsX6_part := goodIn_r _ [116, 30, 31, 32, 127, 128, 129, 130, 131, 132] (by decide +kernel) (by decide +kernel)
set_option maxRecDepth 20000 in
theorem gX7_degree_X6_part : GoodIn wsX7_degree (wsV RX7 104 RX6 yX6_part wsX6_part) := goodIn_app (goodIn_of _ (by decide +kernel)) ggX7_degree_X6_part
set_option maxRecDepth 20000 in
theorem ggX7_degree_X4_highest : GoodIn wsX7_degree wsX4_highest := goodIn_r _ [104, 17, 125, 126] (by decide +kernel) (by decide +kernel)
set_option maxRecDepth 20000 in
theorem gX7_degree_X4_highest : GoodIn wsX7_degree (wsV RX7 108 RX4 yX4_highest wsX4_highest) := goodIn_app (goodIn_of _ (by decide +kernel)) ggX7_degree_X4_highest
set_option maxRecDepth 20000 in
theorem ggX7_split_X7_requireRatio : GoodIn wsX7_split wsX7_requireRatio := goodIn_ca (goodIn_r _ [9, 10, 11, 2, 3, 12, 13, 14, 15, 16, 17, 118, 119, 120, 121, 122, 123, 124, 125, 126] (by decide +kernel) (by decide +kernel)) (goodIn_sub (fun _ h => List.mem_cons_of_mem _ (List.mem_append_left _ (List.mem_append_right _ h))) (by decide +kernel))
set_option maxRecDepth 20000 in
theorem gX7_split_X7_requireRatio : GoodIn wsX7_split (wsV RX7 84 RX7 yX7_requireRatio wsX7_requireRatio) := goodIn_app (goodIn_of _ (by decide +kernel)) ggX7_split_X7_requireRatio
set_option maxRecDepth 20000 in
theorem ggX7_split_X7_requirePart : GoodIn wsX7_split wsX7_requirePart := goodIn_ca (goodIn_r _ [21, 22, 23] (by decide +kernel) (by decide +kernel)) (goodIn_sub (fun _ h => List.mem_cons_of_mem _ (List.mem_append_right _ h)) (by decide +kernel))
set_option maxRecDepth 20000 in
theorem gX7_split_X7_requirePart : GoodIn wsX7_split (wsV RX7 101 RX7 yX7_requirePart wsX7_requirePart) := goodIn_app (goodIn_of _ (by decide +kernel)) ggX7_split_X7_requirePart
set_option maxRecDepth 20000 in
theorem ggX7_split_X6_renew : GoodIn wsX7_split wsX6_renew := goodIn_r _ [28, 29, 30, 31, 32, 33, 34, 35, 36, 37, 15, 38, 39, 17, 40, 41, 42, 43, 44, 45, 46, 47, 48, 49, 50, 51, 52, 53, 54, 55, 56, 57, 58, 59, 60, 61, 62, 63, 64, 65, 66, 13, 14, 16, 67, 68, 69, 70, 71, 72, 73, 74, 75, 76, 77, 8, 78, 79, 80, 81, 82, 83, 84, 85, 86, 87, 88, 89, 90, 91, 92, 93, 94, 95, 96, 97, 98, 99, 100, 101, 102, 103, 104, 105, 106, 107, 108, 109, 110, 111, 112, 127, 128, 129, 130, 131, 132, 125, 126, 133, 134, 135, 136] (by decide +kernel) (by decide +kernel)
set_option maxRecDepth 20000 in
theorem gX7_split_X6_renew : GoodIn wsX7_split (wsV RX7 94 RX6 yX6_renew wsX6_renew) := goodIn_app (goodIn_of _ (by decide +kernel)) ggX7_split_X6_renew
set_option maxRecDepth 20000 in
theorem ggX7_split_X6_part : GoodIn wsX7_split wsX6_part := goodIn_r _ [116, 30, 31, 32, 127, 128, 129, 130, 131, 132] (by decide +kernel) (by decide +kernel)
set_option maxRecDepth 20000 in
theorem gX7_split_X6_part : GoodIn wsX7_split (wsV RX7 104 RX6 yX6_part wsX6_part) := goodIn_app (goodIn_of _ (by decide +kernel)) ggX7_split_X6_part
set_option maxRecDepth 20000 in
theorem ggX7_split_X4_number : GoodIn wsX7_split wsX4_number := goodIn_r _ [43, 39, 125, 126] (by decide +kernel) (by decide +kernel)
set_option maxRecDepth 20000 in
theorem gX7_split_X4_number : GoodIn wsX7_split (wsV RX7 73 RX4 yX4_number wsX4_number) := goodIn_app (goodIn_of _ (by decide +kernel)) ggX7_split_X4_number
set_option maxRecDepth 20000 in
theorem ggX7_run_X7_requireRatio : GoodIn wsX7_run wsX7_requireRatio := goodIn_ca (goodIn_r _ [10, 11, 12, 2, 3, 13, 14, 15, 16, 17, 18, 163, 164, 165, 166, 167, 168, 169, 170, 171] (by decide +kernel) (by decide +kernel)) (goodIn_sub (fun _ h => List.mem_cons_of_mem _ (List.mem_append_right _ h)) (by decide +kernel))
set_option maxRecDepth 20000 in
theorem gX7_run_X7_requireRatio : GoodIn wsX7_run (wsV RX7 84 RX7 yX7_requireRatio wsX7_requireRatio) := goodIn_app (goodIn_of _ (by decide +kernel)) ggX7_run_X7_requireRatio
set_option maxRecDepth 20000 in
theorem ggX7_run_X6_renew : GoodIn wsX7_run wsX6_renew := goodIn_r _ [23, 24, 25, 26, 27, 28, 29, 30, 31, 32, 16, 33, 34, 18, 35, 36, 37, 38, 39, 40, 41, 42, 43, 44, 45, 46, 47, 48, 49, 50, 51, 52, 53, 54, 55, 56, 57, 58, 59, 60, 61, 14, 15, 17, 62, 63, 64, 65, 66, 67, 68, 69, 70, 71, 72, 9, 73, 74, 75, 76, 77, 78, 79, 80, 81, 82, 83, 84, 85, 86, 87, 88, 89, 90, 91, 92, 93, 94, 95, 96, 97, 98, 99, 100, 101, 102, 103, 104, 105, 106, 107, 172, 173, 174, 175, 176, 177, 170, 171, 178, 179, 180, 181] (by decide +kernel) (by decide +kernel)
set_option maxRecDepth 20000 in
theorem gX7_run_X6_renew : GoodIn wsX7_run (wsV RX7 94 RX6 yX6_renew wsX6_renew) := goodIn_app (goodIn_of _ (by decide +kernel)) ggX7_run_X6_renew
set_option maxRecDepth 20000 in
theorem ggX7_run_X1_renew : GoodIn wsX7_run wsX1_renew := goodIn_r _ [112, 113, 114, 115, 116, 117, 118, 119, 111, 120, 121, 122, 123, 124, 125, 126, 127, 22, 128, 25, 26, 27, 129, 31, 32, 16, 33, 34, 18, 35, 36, 37, 38, 130, 40, 41, 42, 131, 44, 45, 46, 47, 48, 49, 50, 132, 133, 134, 135, 136, 137, 138, 139, 140, 141, 142, 75, 76, 77, 78, 79, 80, 81, 82, 83, 84, 143, 88, 89, 90, 144, 105, 106, 107, 67, 14, 15, 17, 145, 146, 147, 148, 149, 150, 97, 98, 99, 151, 85, 9, 86, 152, 153, 154, 155, 156, 69, 70, 71, 72, 73, 157, 93, 94, 95, 158, 182, 183, 184, 185, 186, 187, 188, 189, 190, 191, 172, 173, 174, 175, 176, 177, 170, 171] (by decide +kernel) (by decide +kernel)
set_option maxRecDepth 20000 in
theorem gX7_run_X1_renew : GoodIn wsX7_run (wsV RX7 112 RX1 yX1_renew wsX1_renew) := goodIn_app (goodIn_of _ (by decide +kernel)) ggX7_run_X1_renew
set_option maxRecDepth 20000 in
theorem ggX7_run_X1_leastDegree : GoodIn wsX7_run wsX1_leastDegree := goodIn_r _ [162, 114, 182, 183, 184, 185, 186, 187, 188, 189] (by decide +kernel) (by decide +kernel)
set_option maxRecDepth 20000 in
theorem gX7_run_X1_leastDegree : GoodIn wsX7_run (wsV RX7 115 RX1 yX1_leastDegree wsX1_leastDegree) := goodIn_app (goodIn_of _ (by decide +kernel)) ggX7_run_X1_leastDegree
set_option maxRecDepth 20000 in
theorem ggX7_answer_X7_requireAnswer : GoodIn wsX7_answer wsX7_requireAnswer := goodIn_ca (goodIn_r _ [6, 7, 8, 9, 10, 11, 12, 1, 13, 14, 15, 5, 16, 17, 18, 19, 20, 21, 22, 23, 24, 25, 26, 27, 28, 29, 30, 31, 32, 33, 34, 35, 36, 37, 38, 39, 40, 41, 42, 43, 44, 45, 46, 47, 48, 49, 50, 51, 52, 53, 54, 55, 56, 57, 58, 59, 60, 61, 62, 63, 64, 65, 66, 67, 68, 69, 70, 71, 72, 73, 74, 75, 76, 77, 78, 79, 80, 81, 82, 83, 84, 85, 86, 87, 88, 89, 90, 91, 92, 93, 94, 95, 96, 97, 98, 99, 100, 101, 102, 103, 104, 105, 106, 107, 108, 109, 110, 111, 112, 113, 114, 115, 116, 117, 118, 119, 120, 121, 122, 123, 124, 125, 126, 127, 128, 129, 130, 131, 132, 133, 134, 135, 136, 137, 138, 139, 140, 141, 142, 143, 144, 145, 146, 147, 148, 149, 150, 151, 152, 153, 154, 155, 156, 157, 158, 159, 160, 161, 162, 163, 164, 165, 166, 172, 173, 174, 175, 176, 177, 178, 179, 180, 181, 182, 183, 184, 185, 186, 187, 188, 189, 190, 191, 192, 193, 194, 195, 196, 197, 198, 199, 200] (by decide +kernel) (by decide +kernel)) (goodIn_sub (fun _ h => List.mem_cons_of_mem _ (List.mem_append_right _ h)) (by decide +kernel))
set_option maxRecDepth 20000 in
theorem gX7_answer_X7_requireAnswer : GoodIn wsX7_answer (wsV RX7 118 RX7 yX7_requireAnswer wsX7_requireAnswer) := goodIn_app (goodIn_of _ (by decide +kernel)) ggX7_answer_X7_requireAnswer
set_option maxRecDepth 20000 in
theorem ggX7_answer_X1_solution : GoodIn wsX7_answer wsX1_solution := goodIn_r _ [170, 119, 120, 191, 192, 193, 194, 195, 196, 197, 198, 199, 200] (by decide +kernel) (by decide +kernel)
set_option maxRecDepth 20000 in
theorem gX7_answer_X1_solution : GoodIn wsX7_answer (wsV RX7 121 RX1 yX1_solution wsX1_solution) := goodIn_app (goodIn_of _ (by decide +kernel)) ggX7_answer_X1_solution
set_option maxRecDepth 20000 in
theorem ggX7_answer_X4_number : GoodIn wsX7_answer wsX4_number := goodIn_r _ [42, 38, 179, 180] (by decide +kernel) (by decide +kernel)
set_option maxRecDepth 20000 in
theorem gX7_answer_X4_number : GoodIn wsX7_answer (wsV RX7 73 RX4 yX4_number wsX4_number) := goodIn_app (goodIn_of _ (by decide +kernel)) ggX7_answer_X4_number
set_option maxRecDepth 20000 in
theorem ggX7_closed_X7_requireAnswer : GoodIn wsX7_closed wsX7_requireAnswer := goodIn_ca (goodIn_r _ [9, 10, 11, 2, 12, 13, 4, 3, 14, 15, 16, 8, 17, 18, 19, 20, 21, 22, 23, 24, 25, 26, 27, 28, 29, 30, 31, 32, 33, 34, 35, 36, 37, 38, 39, 40, 41, 42, 43, 44, 45, 46, 47, 48, 49, 50, 51, 52, 53, 54, 55, 56, 57, 58, 59, 60, 61, 62, 63, 64, 65, 66, 67, 68, 69, 70, 71, 72, 73, 74, 75, 76, 77, 78, 79, 80, 81, 82, 83, 84, 85, 86, 87, 88, 89, 90, 91, 92, 93, 94, 95, 96, 97, 98, 99, 100, 101, 102, 103, 104, 105, 106, 107, 108, 109, 110, 111, 112, 113, 114, 115, 116, 117, 118, 119, 120, 121, 122, 123, 124, 125, 126, 127, 128, 129, 130, 131, 132, 133, 134, 135, 136, 137, 138, 139, 140, 141, 142, 143, 144, 145, 146, 147, 148, 149, 150, 151, 152, 153, 154, 155, 156, 157, 158, 159, 160, 161, 162, 163, 164, 165, 166, 167, 198, 199, 200, 201, 202, 203, 204, 205, 206, 207, 208, 209, 210, 211, 212, 213, 214, 215, 216, 217, 218, 219, 220, 221, 222, 223, 224, 225, 226] (by decide +kernel) (by decide +kernel)) (goodIn_sub (fun _ h => List.mem_cons_of_mem _ (List.mem_append_right _ h)) (by decide +kernel))
set_option maxRecDepth 20000 in
theorem gX7_closed_X7_requireAnswer : GoodIn wsX7_closed (wsV RX7 118 RX7 yX7_requireAnswer wsX7_requireAnswer) := goodIn_app (goodIn_of _ (by decide +kernel)) ggX7_closed_X7_requireAnswer
set_option maxRecDepth 20000 in
theorem ggX7_closed_X2_renew : GoodIn wsX7_closed wsX2_renew := goodIn_r _ [172, 173, 174, 175, 176, 177, 178, 116, 179, 128, 180, 36, 37, 21, 38, 39, 23, 40, 41, 42, 43, 181, 182, 183, 184, 120, 121, 185, 110, 111, 112, 52, 53, 54, 55, 72, 19, 20, 22, 86, 87, 88, 89, 186, 131, 132, 27, 133, 30, 31, 32, 187, 57, 58, 59, 60, 61, 62, 63, 64, 65, 66, 67, 68, 69, 70, 71, 45, 46, 47, 73, 74, 75, 76, 77, 8, 78, 79, 80, 81, 82, 83, 84, 85, 90, 91, 92, 93, 94, 95, 96, 97, 98, 99, 100, 188, 106, 107, 108, 227, 228, 229, 217, 218, 219, 220, 221, 222, 223, 224, 205, 206, 225, 226, 207, 208, 209, 210, 211, 212, 213, 214, 215, 216] (by decide +kernel) (by decide +kernel)
set_option maxRecDepth 20000 in
theorem gX7_closed_X2_renew : GoodIn wsX7_closed (wsV RX7 125 RX2 yX2_renew wsX2_renew) := goodIn_app (goodIn_of _ (by decide +kernel)) ggX7_closed_X2_renew
set_option maxRecDepth 20000 in
theorem ggX7_closed_X2_top : GoodIn wsX7_closed wsX2_top := goodIn_r _ [192, 174, 227, 228, 229] (by decide +kernel) (by decide +kernel)
set_option maxRecDepth 20000 in
theorem gX7_closed_X2_top : GoodIn wsX7_closed (wsV RX7 128 RX2 yX2_top wsX2_top) := goodIn_app (goodIn_of _ (by decide +kernel)) ggX7_closed_X2_top
set_option maxRecDepth 20000 in
theorem ggX7_closed_X2_bottom : GoodIn wsX7_closed wsX2_bottom := goodIn_r _ [196, 175, 227, 228, 229] (by decide +kernel) (by decide +kernel)
set_option maxRecDepth 20000 in
theorem gX7_closed_X2_bottom : GoodIn wsX7_closed (wsV RX7 131 RX2 yX2_bottom wsX2_bottom) := goodIn_app (goodIn_of _ (by decide +kernel)) ggX7_closed_X2_bottom
set_option maxRecDepth 20000 in
theorem ggX7_closed_X4_number : GoodIn wsX7_closed wsX4_number := goodIn_r _ [43, 39, 205, 206] (by decide +kernel) (by decide +kernel)
set_option maxRecDepth 20000 in
theorem gX7_closed_X4_number : GoodIn wsX7_closed (wsV RX7 73 RX4 yX4_number wsX4_number) := goodIn_app (goodIn_of _ (by decide +kernel)) ggX7_closed_X4_number
set_option maxRecDepth 20000 in
theorem ggX7_value_X7_requireAnswer : GoodIn wsX7_value wsX7_requireAnswer := goodIn_ca (goodIn_r _ [10, 11, 12, 2, 13, 14, 4, 3, 15, 16, 17, 9, 18, 19, 20, 21, 22, 23, 24, 25, 26, 27, 28, 29, 30, 31, 32, 33, 34, 35, 36, 37, 38, 39, 40, 41, 42, 43, 44, 45, 46, 47, 48, 49, 50, 51, 52, 53, 54, 55, 56, 57, 58, 59, 60, 61, 62, 63, 64, 65, 66, 67, 68, 69, 70, 71, 72, 73, 74, 75, 76, 77, 78, 79, 80, 81, 82, 83, 84, 85, 86, 87, 88, 89, 90, 91, 92, 93, 94, 95, 96, 97, 98, 99, 100, 101, 102, 103, 104, 105, 106, 107, 108, 109, 110, 111, 112, 113, 114, 115, 116, 117, 118, 119, 120, 121, 122, 123, 124, 125, 126, 127, 128, 129, 130, 131, 132, 133, 134, 135, 136, 137, 138, 139, 140, 141, 142, 143, 144, 145, 146, 147, 148, 149, 150, 151, 152, 153, 154, 155, 156, 157, 158, 159, 160, 161, 162, 163, 164, 165, 166, 167, 168, 202, 203, 204, 205, 206, 207, 208, 209, 210, 211, 212, 213, 214, 215, 216, 217, 218, 219, 220, 221, 222, 223, 224, 225, 226, 227, 228, 229, 230] (by decide +kernel) (by decide +kernel)) (goodIn_sub (fun _ h => List.mem_cons_of_mem _ (List.mem_append_right _ h)) (by decide +kernel))
set_option maxRecDepth 20000 in
theorem gX7_value_X7_requireAnswer : GoodIn wsX7_value (wsV RX7 118 RX7 yX7_requireAnswer wsX7_requireAnswer) := goodIn_app (goodIn_of _ (by decide +kernel)) ggX7_value_X7_requireAnswer
set_option maxRecDepth 20000 in
theorem ggX7_value_X2_renew : GoodIn wsX7_value wsX2_renew := goodIn_r _ [173, 174, 175, 176, 177, 178, 179, 117, 180, 129, 181, 37, 38, 22, 39, 40, 24, 41, 42, 43, 44, 182, 183, 184, 185, 121, 122, 186, 111, 112, 113, 53, 54, 55, 56, 73, 20, 21, 23, 87, 88, 89, 90, 187, 132, 133, 28, 134, 31, 32, 33, 188, 58, 59, 60, 61, 62, 63, 64, 65, 66, 67, 68, 69, 70, 71, 72, 46, 47, 48, 74, 75, 76, 77, 78, 9, 79, 80, 81, 82, 83, 84, 85, 86, 91, 92, 93, 94, 95, 96, 97, 98, 99, 100, 101, 189, 107, 108, 109, 231, 232, 233, 221, 222, 223, 224, 225, 226, 227, 228, 209, 210, 229, 230, 211, 212, 213, 214, 215, 216, 217, 218, 219, 220] (by decide +kernel) (by decide +kernel)
set_option maxRecDepth 20000 in
theorem gX7_value_X2_renew : GoodIn wsX7_value (wsV RX7 125 RX2 yX2_renew wsX2_renew) := goodIn_app (goodIn_of _ (by decide +kernel)) ggX7_value_X2_renew
set_option maxRecDepth 20000 in
theorem ggX7_value_J9_floorMod_f86c9 : GoodIn wsX7_value wsJ9_floorMod_f86c9 := goodIn_r _ [193] (by decide +kernel) (by decide +kernel)
set_option maxRecDepth 20000 in
theorem gX7_value_J9_floorMod_f86c9 : GoodIn wsX7_value (va_wsS RX7 67 yJ9_floorMod_f86c9 wsJ9_floorMod_f86c9) := goodIn_app (goodIn_of _ (by decide +kernel)) ggX7_value_J9_floorMod_f86c9
set_option maxRecDepth 20000 in
theorem ggX7_value_X2_valueAt : GoodIn wsX7_value wsX2_valueAt := goodIn_r _ [197, 176, 175, 198, 199, 200, 22, 201, 24, 41, 42, 43, 44, 40, 78, 9, 79, 231, 232, 233, 209, 210] (by decide +kernel) (by decide +kernel)
set_option maxRecDepth 20000 in
theorem gX7_value_X2_valueAt : GoodIn wsX7_value (wsV RX7 134 RX2 yX2_valueAt wsX2_valueAt) := goodIn_app (goodIn_of _ (by decide +kernel)) ggX7_value_X2_valueAt
set_option maxRecDepth 20000 in
theorem ggX7_term_X7_requirePlace : GoodIn wsX7_term wsX7_requirePlace := goodIn_ca (goodIn_r _ [6, 7, 8] (by decide +kernel) (by decide +kernel)) (goodIn_sub (fun _ h => List.mem_cons_of_mem _ (List.mem_append_left _ (List.mem_append_right _ h))) (by decide +kernel))
set_option maxRecDepth 20000 in
theorem gX7_term_X7_requirePlace : GoodIn wsX7_term (wsV RX7 137 RX7 yX7_requirePlace wsX7_requirePlace) := goodIn_app (goodIn_of _ (by decide +kernel)) ggX7_term_X7_requirePlace
set_option maxRecDepth 20000 in
theorem ggX7_term_X7_requireTerm : GoodIn wsX7_term wsX7_requireTerm := goodIn_ca (goodIn_r _ [12, 13, 14, 1, 15, 16, 17, 18, 19, 20, 21, 22, 23, 24, 25, 26, 27, 28, 29, 30, 31, 32, 33, 34, 35, 5, 36, 41, 42, 43, 44, 45, 46, 47, 48, 49, 50, 51] (by decide +kernel) (by decide +kernel)) (goodIn_sub (fun _ h => List.mem_cons_of_mem _ (List.mem_append_right _ h)) (by decide +kernel))
set_option maxRecDepth 20000 in
theorem gX7_term_X7_requireTerm : GoodIn wsX7_term (wsV RX7 140 RX7 yX7_requireTerm wsX7_requireTerm) := goodIn_app (goodIn_of _ (by decide +kernel)) ggX7_term_X7_requireTerm
set_option maxRecDepth 20000 in
theorem ggX7_term_X5_termAt : GoodIn wsX7_term wsX5_termAt := goodIn_r _ [40, 23, 48, 49] (by decide +kernel) (by decide +kernel)
set_option maxRecDepth 20000 in
theorem gX7_term_X5_termAt : GoodIn wsX7_term (wsV RX7 143 RX5 yX5_termAt wsX5_termAt) := goodIn_app (goodIn_of _ (by decide +kernel)) ggX7_term_X5_termAt
set_option maxRecDepth 20000 in
theorem ggX7_sum_X7_requirePlace : GoodIn wsX7_sum wsX7_requirePlace := goodIn_ca (goodIn_r _ [6, 7, 8] (by decide +kernel) (by decide +kernel)) (goodIn_sub (fun _ h => List.mem_cons_of_mem _ (List.mem_append_left _ (List.mem_append_right _ h))) (by decide +kernel))
set_option maxRecDepth 20000 in
theorem gX7_sum_X7_requirePlace : GoodIn wsX7_sum (wsV RX7 137 RX7 yX7_requirePlace wsX7_requirePlace) := goodIn_app (goodIn_of _ (by decide +kernel)) ggX7_sum_X7_requirePlace
set_option maxRecDepth 20000 in
theorem ggX7_sum_X7_requireTerm : GoodIn wsX7_sum wsX7_requireTerm := goodIn_ca (goodIn_r _ [12, 13, 14, 1, 15, 16, 17, 18, 19, 20, 21, 22, 23, 24, 25, 26, 27, 28, 29, 30, 31, 32, 33, 34, 35, 5, 36, 41, 42, 43, 44, 45, 46, 47, 48, 49, 50, 51] (by decide +kernel) (by decide +kernel)) (goodIn_sub (fun _ h => List.mem_cons_of_mem _ (List.mem_append_right _ h)) (by decide +kernel))
set_option maxRecDepth 20000 in
theorem gX7_sum_X7_requireTerm : GoodIn wsX7_sum (wsV RX7 140 RX7 yX7_requireTerm wsX7_requireTerm) := goodIn_app (goodIn_of _ (by decide +kernel)) ggX7_sum_X7_requireTerm
set_option maxRecDepth 20000 in
theorem ggX7_sum_X5_sumBelow : GoodIn wsX7_sum wsX5_sumBelow := goodIn_r _ [40, 23, 48, 49] (by decide +kernel) (by decide +kernel)
set_option maxRecDepth 20000 in
theorem gX7_sum_X5_sumBelow : GoodIn wsX7_sum (wsV RX7 146 RX5 yX5_sumBelow wsX5_sumBelow) := goodIn_app (goodIn_of _ (by decide +kernel)) ggX7_sum_X5_sumBelow
set_option maxRecDepth 20000 in
theorem ggX7_shift_J9_floorMod_7cf53 : GoodIn wsX7_shift wsJ9_floorMod_7cf53 := goodIn_r _ [6] (by decide +kernel) (by decide +kernel)
set_option maxRecDepth 20000 in
theorem gX7_shift_J9_floorMod_7cf53 : GoodIn wsX7_shift (va_wsS RX7 149 yJ9_floorMod_7cf53 wsJ9_floorMod_7cf53) := goodIn_app (goodIn_of _ (by decide +kernel)) ggX7_shift_J9_floorMod_7cf53
set_option maxRecDepth 20000 in
theorem ggX7_shift_X4_moveBy : GoodIn wsX7_shift wsX4_moveBy := goodIn_r _ [11, 12, 13, 14, 15, 16, 17, 18, 19, 20, 10, 21, 62, 63] (by decide +kernel) (by decide +kernel)
set_option maxRecDepth 20000 in
theorem gX7_shift_X4_moveBy : GoodIn wsX7_shift (wsV RX7 152 RX4 yX4_moveBy wsX4_moveBy) := goodIn_app (goodIn_of _ (by decide +kernel)) ggX7_shift_X4_moveBy
set_option maxRecDepth 20000 in
theorem ggX7_shift_X7_forget : GoodIn wsX7_shift wsX7_forget := goodIn_r _ [26, 27, 28, 29, 30, 31, 32, 33, 34, 35, 36, 37, 38, 39, 40, 41, 42, 43, 44, 45, 46, 47, 48, 49, 50, 51, 52, 53, 54, 55, 56, 57, 58, 59, 60, 61, 64, 65, 66, 67, 68, 69, 70, 71, 72, 73, 74, 75, 76, 77, 78, 79, 80, 81, 82] (by decide +kernel) (by decide +kernel)
set_option maxRecDepth 20000 in
theorem gX7_shift_X7_forget : GoodIn wsX7_shift (wsV RX7 81 RX7 yX7_forget wsX7_forget) := goodIn_app (goodIn_of _ (by decide +kernel)) ggX7_shift_X7_forget
set_option maxRecDepth 20000 in
theorem ggX7_clear_X4_becomeNumber : GoodIn wsX7_clear wsX4_becomeNumber := goodIn_r _ [7, 8, 9, 50, 51] (by decide +kernel) (by decide +kernel)
set_option maxRecDepth 20000 in
theorem gX7_clear_X4_becomeNumber : GoodIn wsX7_clear (wsV RX7 54 RX4 yX4_becomeNumber wsX4_becomeNumber) := goodIn_app (goodIn_of _ (by decide +kernel)) ggX7_clear_X4_becomeNumber
set_option maxRecDepth 20000 in
theorem ggX7_clear_X7_forget : GoodIn wsX7_clear wsX7_forget := goodIn_r _ [14, 15, 16, 17, 18, 19, 20, 21, 22, 23, 24, 25, 26, 27, 28, 29, 30, 31, 32, 33, 34, 35, 36, 37, 38, 39, 40, 41, 42, 43, 44, 45, 46, 47, 48, 49, 52, 53, 54, 55, 56, 57, 58, 59, 60, 61, 62, 63, 64, 65, 66, 67, 68, 69, 70] (by decide +kernel) (by decide +kernel)
set_option maxRecDepth 20000 in
theorem gX7_clear_X7_forget : GoodIn wsX7_clear (wsV RX7 81 RX7 yX7_forget wsX7_forget) := goodIn_app (goodIn_of _ (by decide +kernel)) ggX7_clear_X7_forget
set_option maxRecDepth 20000 in
theorem ggX7_forget_X6_forget : GoodIn wsX7_forget wsX6_forget := goodIn_r _ [9, 10, 36, 37, 38, 39, 40, 41] (by decide +kernel) (by decide +kernel)
set_option maxRecDepth 20000 in
theorem gX7_forget_X6_forget : GoodIn wsX7_forget (wsV RX7 155 RX6 yX6_forget wsX6_forget) := goodIn_app (goodIn_of _ (by decide +kernel)) ggX7_forget_X6_forget
set_option maxRecDepth 20000 in
theorem ggX7_forget_X1_forget : GoodIn wsX7_forget wsX1_forget := goodIn_r _ [15, 16, 42, 43, 44, 45, 46, 47, 48, 49] (by decide +kernel) (by decide +kernel)
set_option maxRecDepth 20000 in
theorem gX7_forget_X1_forget : GoodIn wsX7_forget (wsV RX7 156 RX1 yX1_forget wsX1_forget) := goodIn_app (goodIn_of _ (by decide +kernel)) ggX7_forget_X1_forget
set_option maxRecDepth 20000 in
theorem ggX7_forget_X2_forget : GoodIn wsX7_forget wsX2_forget := goodIn_r _ [21, 22, 50, 51, 52] (by decide +kernel) (by decide +kernel)
set_option maxRecDepth 20000 in
theorem gX7_forget_X2_forget : GoodIn wsX7_forget (wsV RX7 157 RX2 yX2_forget wsX2_forget) := goodIn_app (goodIn_of _ (by decide +kernel)) ggX7_forget_X2_forget
set_option maxRecDepth 20000 in
theorem ggX7_forget_X5_forget : GoodIn wsX7_forget wsX5_forget := goodIn_r _ [27, 28, 53, 54] (by decide +kernel) (by decide +kernel)
set_option maxRecDepth 20000 in
theorem gX7_forget_X5_forget : GoodIn wsX7_forget (wsV RX7 158 RX5 yX5_forget wsX5_forget) := goodIn_app (goodIn_of _ (by decide +kernel)) ggX7_forget_X5_forget
set_option maxRecDepth 20000 in
theorem ggX7_requireRatio_X4_isZero : GoodIn wsX7_requireRatio wsX4_isZero := goodIn_r _ [9, 10, 18, 19] (by decide +kernel) (by decide +kernel)
set_option maxRecDepth 20000 in
theorem gX7_requireRatio_X4_isZero : GoodIn wsX7_requireRatio (wsV RX7 168 RX4 yX4_isZero wsX4_isZero) := goodIn_app (goodIn_of _ (by decide +kernel)) ggX7_requireRatio_X4_isZero
set_option maxRecDepth 20000 in
theorem ggX7_requireAnswer_X7_requireRatio : GoodIn wsX7_requireAnswer wsX7_requireRatio := goodIn_ca (goodIn_r _ [12, 1, 2, 4, 5, 13, 14, 15, 16, 17, 18, 163, 164, 165, 166, 167, 168, 169, 170, 171] (by decide +kernel) (by decide +kernel)) (goodIn_sub (fun _ h => List.mem_cons_of_mem _ (List.mem_append_right _ h)) (by decide +kernel))
set_option maxRecDepth 20000 in
theorem gX7_requireAnswer_X7_requireRatio : GoodIn wsX7_requireAnswer (wsV RX7 84 RX7 yX7_requireRatio wsX7_requireRatio) := goodIn_app (goodIn_of _ (by decide +kernel)) ggX7_requireAnswer_X7_requireRatio
set_option maxRecDepth 20000 in
theorem ggX7_requireAnswer_X6_renew : GoodIn wsX7_requireAnswer wsX6_renew := goodIn_r _ [23, 24, 25, 26, 27, 28, 29, 30, 31, 32, 16, 33, 34, 18, 35, 36, 37, 38, 39, 40, 41, 42, 43, 44, 45, 46, 47, 48, 49, 50, 51, 52, 53, 54, 55, 56, 57, 58, 59, 60, 61, 14, 15, 17, 62, 63, 64, 65, 66, 67, 68, 69, 70, 71, 72, 11, 73, 74, 75, 76, 77, 78, 79, 80, 81, 82, 83, 84, 85, 86, 87, 88, 89, 90, 91, 92, 93, 94, 95, 96, 97, 98, 99, 100, 101, 102, 103, 104, 105, 106, 107, 172, 173, 174, 175, 176, 177, 170, 171, 178, 179, 180, 181] (by decide +kernel) (by decide +kernel)
set_option maxRecDepth 20000 in
theorem gX7_requireAnswer_X6_renew : GoodIn wsX7_requireAnswer (wsV RX7 94 RX6 yX6_renew wsX6_renew) := goodIn_app (goodIn_of _ (by decide +kernel)) ggX7_requireAnswer_X6_renew
set_option maxRecDepth 20000 in
theorem ggX7_requireAnswer_X1_renew : GoodIn wsX7_requireAnswer wsX1_renew := goodIn_r _ [112, 113, 114, 115, 116, 117, 118, 119, 111, 120, 121, 122, 123, 124, 125, 126, 127, 22, 128, 25, 26, 27, 129, 31, 32, 16, 33, 34, 18, 35, 36, 37, 38, 130, 40, 41, 42, 131, 44, 45, 46, 47, 48, 49, 50, 132, 133, 134, 135, 136, 137, 138, 139, 140, 141, 142, 75, 76, 77, 78, 79, 80, 81, 82, 83, 84, 143, 88, 89, 90, 144, 105, 106, 107, 67, 14, 15, 17, 145, 146, 147, 148, 149, 150, 97, 98, 99, 151, 85, 11, 86, 152, 153, 154, 155, 156, 69, 70, 71, 72, 73, 157, 93, 94, 95, 158, 182, 183, 184, 185, 186, 187, 188, 189, 190, 191, 172, 173, 174, 175, 176, 177, 170, 171] (by decide +kernel) (by decide +kernel)
set_option maxRecDepth 20000 in
theorem gX7_requireAnswer_X1_renew : GoodIn wsX7_requireAnswer (wsV RX7 112 RX1 yX1_renew wsX1_renew) := goodIn_app (goodIn_of _ (by decide +kernel)) ggX7_requireAnswer_X1_renew
set_option maxRecDepth 20000 in
theorem ggX7_requireAnswer_X1_leastDegree : GoodIn wsX7_requireAnswer wsX1_leastDegree := goodIn_r _ [162, 114, 182, 183, 184, 185, 186, 187, 188, 189] (by decide +kernel) (by decide +kernel)
set_option maxRecDepth 20000 in
theorem gX7_requireAnswer_X1_leastDegree : GoodIn wsX7_requireAnswer (wsV RX7 115 RX1 yX1_leastDegree wsX1_leastDegree) := goodIn_app (goodIn_of _ (by decide +kernel)) ggX7_requireAnswer_X1_leastDegree
set_option maxRecDepth 20000 in
theorem ggX7_requireTerm_X5_reaches : GoodIn wsX7_requireTerm wsX5_reaches := goodIn_r _ [10, 11, 12, 13, 14, 15, 16, 17, 18, 19, 20, 21, 22, 23, 24, 25, 26, 34, 35, 36, 37] (by decide +kernel) (by decide +kernel)
set_option maxRecDepth 20000 in
theorem gX7_requireTerm_X5_reaches : GoodIn wsX7_requireTerm (wsV RX7 179 RX5 yX5_reaches wsX5_reaches) := goodIn_app (goodIn_of _ (by decide +kernel)) ggX7_requireTerm_X5_reaches
