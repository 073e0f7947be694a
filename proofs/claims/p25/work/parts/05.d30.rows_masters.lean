set_option maxRecDepth 20000 in
theorem ggL_masters_X5_init : GoodIn wsL_masters wsX5_init := goodIn_r _ [6, 7, 8, 9, 10, 11, 12, 13, 14, 15, 16, 17, 18, 19, 20, 21, 22, 23, 24, 25, 26, 27, 28, 29, 30, 31, 32, 33, 34, 35, 36, 37, 38, 39, 40, 41, 42, 43, 44, 45, 46, 47, 48, 49, 50, 51, 52, 53, 54, 55, 56, 57, 58, 59, 60, 61, 62, 63, 64, 65, 66, 67, 68, 69, 70, 71, 72, 73, 74, 75, 76, 77, 78, 79, 80, 81, 82, 83, 84, 431, 432, 425, 426, 427, 428, 429, 430, 433, 434, 435, 436, 437, 438, 439, 440, 441, 442, 443, 444, 445, 446, 447, 448, 449, 450, 451, 452, 453, 454, 455, 456, 457] (by decide +kernel) (by decide +kernel)
set_option maxRecDepth 20000 in
theorem gL_masters_X5_init : GoodIn wsL_masters (wsX5_init) := ggL_masters_X5_init
set_option maxRecDepth 20000 in
theorem ggL_masters_X5_changes : GoodIn wsL_masters wsX5_changes := goodIn_r _ [88, 17, 425, 426, 427, 428, 429, 430, 433, 434, 435, 436, 437, 438, 439] (by decide +kernel) (by decide +kernel)
set_option maxRecDepth 20000 in
theorem gL_masters_X5_changes : GoodIn wsL_masters (wsV RL 83 RX5 yX5_changes wsX5_changes) := goodIn_app (goodIn_of _ (by decide +kernel)) ggL_masters_X5_changes
set_option maxRecDepth 20000 in
theorem ggL_masters_X5_entries : GoodIn wsL_masters wsX5_entries := goodIn_ca (goodIn_r _ [92, 93, 94, 95, 3, 96, 21, 22, 97, 98, 99, 100, 101, 440, 441, 442, 443, 444, 445, 446, 447, 448, 449, 450, 425, 426, 427, 428, 429, 430] (by decide +kernel) (by decide +kernel)) (goodIn_sub (fun _ h => List.mem_cons_of_mem _ (List.mem_append_left _ (List.mem_append_left _ (List.mem_append_right _ h)))) (by decide +kernel))
set_option maxRecDepth 20000 in
theorem gL_masters_X5_entries : GoodIn wsL_masters (wsV RL 48 RX5 yX5_entries wsX5_entries) := goodIn_app (goodIn_of _ (by decide +kernel)) ggL_masters_X5_entries
set_option maxRecDepth 20000 in
theorem ggL_masters_X5_areAlike : GoodIn wsL_masters wsX5_areAlike := goodIn_r _ [105, 21, 22, 106, 107, 108, 20, 109, 57, 110, 111, 112, 113, 60, 114, 115, 116, 117, 61, 118, 3, 119, 120, 121, 122, 123, 58, 124, 125, 126, 127, 59, 425, 426, 427, 428, 429, 430, 440, 441, 442, 443, 444, 445, 446, 447, 448, 449, 450] (by decide +kernel) (by decide +kernel)
set_option maxRecDepth 20000 in
theorem gL_masters_X5_areAlike : GoodIn wsL_masters (wsV RL 87 RX5 yX5_areAlike wsX5_areAlike) := goodIn_app (goodIn_of _ (by decide +kernel)) ggL_masters_X5_areAlike
set_option maxRecDepth 20000 in
theorem ggL_masters_L_at : GoodIn wsL_masters wsL_at := goodIn_ca (goodIn_r _ [131, 132, 133, 134, 3, 135, 93, 94, 95, 96, 21, 22, 97, 98, 99, 100, 101, 136, 137, 138, 20, 139, 57, 140, 141, 142, 143, 144, 145, 146, 147, 121, 122, 123, 58, 118, 119, 148, 149, 150, 151, 152, 125, 126, 127, 59, 425, 426, 427, 428, 429, 430, 440, 441, 442, 443, 444, 445, 446, 447, 448, 449, 450] (by decide +kernel) (by decide +kernel)) (goodIn_sub (fun _ h => List.mem_cons_of_mem _ (List.mem_append_left _ (List.mem_append_left _ (List.mem_append_right _ h)))) (by decide +kernel))
set_option maxRecDepth 20000 in
theorem gL_masters_L_at : GoodIn wsL_masters (va_wsS RL 112 yL_at wsL_at) := goodIn_app (goodIn_of _ (by decide +kernel)) ggL_masters_L_at
set_option maxRecDepth 20000 in
theorem ggL_masters_X5_isThere : GoodIn wsL_masters wsX5_isThere := goodIn_ca (goodIn_r _ [135, 93, 94, 95, 3, 96, 21, 22, 97, 98, 99, 100, 101, 136, 137, 138, 20, 139, 57, 425, 426, 427, 428, 429, 430, 440, 441, 442, 443, 444, 445, 446, 447, 448, 449, 450] (by decide +kernel) (by decide +kernel)) (goodIn_sub (fun _ h => List.mem_cons_of_mem _ (List.mem_append_left _ (List.mem_append_left _ (List.mem_append_right _ h)))) (by decide +kernel))
set_option maxRecDepth 20000 in
theorem gL_masters_X5_isThere : GoodIn wsL_masters (wsV RL 51 RX5 yX5_isThere wsX5_isThere) := goodIn_app (goodIn_of _ (by decide +kernel)) ggL_masters_X5_isThere
set_option maxRecDepth 20000 in
theorem ggL_masters_X5_find : GoodIn wsL_masters wsX5_find := goodIn_ca (goodIn_ca (goodIn_r _ [156, 93, 94, 95, 3, 96, 21, 22, 97, 98, 99, 100, 101, 144, 145, 146, 136, 137, 138, 20, 139, 57, 157, 158, 159, 160, 161, 162, 163, 164, 165, 58, 59, 166, 167, 168, 425, 426, 427, 428, 429, 430, 440, 441, 442, 443, 444, 445, 446, 447, 448, 449, 450] (by decide +kernel) (by decide +kernel)) (goodIn_sub (fun _ h => List.mem_cons_of_mem _ (List.mem_append_left _ (List.mem_append_left _ (List.mem_append_right _ h)))) (by decide +kernel))) (goodIn_sub (fun _ h => List.mem_cons_of_mem _ (List.mem_append_left _ (List.mem_append_right _ h))) (by decide +kernel))
set_option maxRecDepth 20000 in
theorem gL_masters_X5_find : GoodIn wsL_masters (wsV RL 67 RX5 yX5_find wsX5_find) := goodIn_app (goodIn_of _ (by decide +kernel)) ggL_masters_X5_find
set_option maxRecDepth 20000 in
theorem ggL_masters_L_refuses_r1 : GoodIn wsL_masters wsL_refuses_r1 := goodIn_r wsL_refuses_r1 [172, 85, 86, 87, 3, 88, 17, 89, 90, 91, 92, 93, 94, 95, 96, 21, 22, 97, 98, 99, 100, 101, 102, 103] (by decide +kernel) (by decide +kernel)
set_option maxRecDepth 20000 in
theorem ggL_masters_L_refuses_r2 : GoodIn wsL_masters wsL_refuses_r2 := goodIn_r wsL_refuses_r2 [104, 105, 106, 107, 108, 20, 109, 57, 110, 111, 112, 113, 60, 114, 115, 116, 117, 61, 118, 119, 120, 121, 122, 123] (by decide +kernel) (by decide +kernel)
set_option maxRecDepth 20000 in
theorem ggL_masters_L_refuses_r3 : GoodIn wsL_masters wsL_refuses_r3 := goodIn_r wsL_refuses_r3 [58, 124, 125, 126, 127, 59, 173, 174, 130, 175, 176, 177, 178, 179, 180, 181, 182, 183, 184, 13, 157, 158, 159, 160] (by decide +kernel) (by decide +kernel)
set_option maxRecDepth 20000 in
theorem ggL_masters_L_refuses_r4 : GoodIn wsL_masters wsL_refuses_r4 := goodIn_r wsL_refuses_r4 [161, 185, 186, 187, 12, 188, 36, 37, 189, 190, 191, 192, 193, 194, 195, 196, 197, 144, 145, 146, 136, 137, 138, 139] (by decide +kernel) (by decide +kernel)
set_option maxRecDepth 20000 in
theorem ggL_masters_L_refuses_r5 : GoodIn wsL_masters wsL_refuses_r5 := goodIn_r wsL_refuses_r5 [198, 199, 200, 201, 202, 203, 204, 162, 163, 164, 165, 166, 167, 168, 205, 206, 207, 208, 209, 63, 55, 62, 210, 211] (by decide +kernel) (by decide +kernel)
set_option maxRecDepth 20000 in
theorem ggL_masters_L_refuses_r6 : GoodIn wsL_masters wsL_refuses_r6 := goodIn_r wsL_refuses_r6 [212, 16, 213, 46, 214, 215, 216, 217, 218, 219, 220, 221, 45, 47, 48, 49, 50, 222, 223, 224, 225, 226, 227, 228] (by decide +kernel) (by decide +kernel)
