set_option maxRecDepth 20000 in
theorem ggL_law_X5_init : GoodIn wsL_law wsX5_init := goodIn_r _ [9, 10, 11, 12, 13, 14, 15, 16, 17, 18, 19, 20, 21, 22, 23, 24, 25, 26, 27, 28, 29, 30, 31, 32, 33, 34, 35, 36, 37, 38, 39, 40, 41, 42, 43, 44, 45, 46, 47, 48, 49, 50, 51, 52, 53, 54, 55, 56, 57, 58, 59, 60, 61, 62, 63, 64, 65, 66, 67, 68, 69, 70, 71, 72, 73, 74, 75, 76, 77, 78, 79, 80, 81, 82, 83, 84, 85, 86, 87, 723, 724, 691, 692, 693, 694, 695, 696, 725, 726, 727, 728, 729, 730, 731, 732, 733, 734, 735, 736, 737, 738, 739, 740, 741, 742, 743, 744, 745, 746, 747, 748, 749] (by decide +kernel) (by decide +kernel)
set_option maxRecDepth 20000 in
theorem gL_law_X5_init : GoodIn wsL_law (wsX5_init) := ggL_law_X5_init
set_option maxRecDepth 20000 in
theorem ggL_law_X6_init : GoodIn wsL_law wsX6_init := goodIn_r _ [90, 91, 11, 12, 38, 92, 93, 94, 95, 96, 97, 98, 99, 100, 101, 102, 103, 59, 104, 105, 106, 107, 108, 109, 110, 111, 112, 113, 114, 697, 698, 699, 700, 701, 702, 703, 704, 705, 706, 707, 708, 709, 710, 711, 712, 713, 714, 715, 716, 717, 718, 719, 720, 721, 722] (by decide +kernel) (by decide +kernel)
set_option maxRecDepth 20000 in
theorem gL_law_X6_init : GoodIn wsL_law (wsX6_init) := ggL_law_X6_init
set_option maxRecDepth 20000 in
theorem ggL_law_L_setClass : GoodIn wsL_law wsL_setClass := goodIn_ca (goodIn_ca (goodIn_ca (goodIn_r _ [118, 119, 120, 121, 122, 123, 124, 2, 125, 126, 127, 20, 16, 128, 129, 130, 131, 132, 133, 134, 135, 136, 137, 138, 139, 140, 15, 141, 39, 40, 142, 143, 691, 692, 693, 694, 695, 696, 725, 726, 727, 728, 729, 730, 731, 723, 724] (by decide +kernel) (by decide +kernel)) (goodIn_sub (fun _ h => List.mem_append_left _ (List.mem_append_left _ (List.mem_append_right _ h))) (by decide +kernel))) (goodIn_sub (fun _ h => List.mem_append_left _ (List.mem_append_right _ h)) (by decide +kernel))) (goodIn_sub (fun _ h => List.mem_append_right _ h) (by decide +kernel))
set_option maxRecDepth 20000 in
theorem gL_law_L_setClass : GoodIn wsL_law (va_wsS RL 87 yL_setClass wsL_setClass) := goodIn_app (goodIn_of _ (by decide +kernel)) ggL_law_L_setClass
set_option maxRecDepth 20000 in
theorem ggL_law_X6_setClass : GoodIn wsL_law wsX6_setClass := goodIn_r _ [147, 148, 149, 92, 93, 150, 151, 5, 152, 697, 698, 699, 700, 701, 702, 703, 704, 705, 706, 707, 708, 709, 710, 711, 712, 713, 714, 715, 716, 717, 718, 719, 720, 721, 722] (by decide +kernel) (by decide +kernel)
set_option maxRecDepth 20000 in
theorem gL_law_X6_setClass : GoodIn wsL_law (wsV RL 92 RX6 yX6_setClass wsX6_setClass) := goodIn_app (goodIn_of _ (by decide +kernel)) ggL_law_X6_setClass
set_option maxRecDepth 20000 in
theorem ggL_law_X6_thrown : GoodIn wsL_law wsX6_thrown := goodIn_r _ [156, 149, 697, 698, 699, 700, 701, 702, 703, 704, 705, 706, 707, 708, 709, 710, 711, 712, 713, 714, 715, 716, 717, 718, 719, 720, 721, 722] (by decide +kernel) (by decide +kernel)
set_option maxRecDepth 20000 in
theorem gL_law_X6_thrown : GoodIn wsL_law (wsV RL 93 RX6 yX6_thrown wsX6_thrown) := goodIn_app (goodIn_of _ (by decide +kernel)) ggL_law_X6_thrown
set_option maxRecDepth 20000 in
theorem ggL_law_L_add : GoodIn wsL_law wsL_add := goodIn_ca (goodIn_ca (goodIn_ca (goodIn_r _ [159, 119, 120, 121, 160, 161, 162, 2, 163, 20, 164, 165, 166, 167, 24, 25, 128, 129, 130, 131, 132, 168, 169, 170, 171, 172, 173, 23, 174, 60, 133, 134, 135, 136, 137, 175, 176, 177, 178, 126, 127, 179, 180, 181, 182, 183, 184, 185, 61, 62, 186, 187, 188, 189, 190, 191, 192, 193, 66, 58, 65, 194, 195, 196, 197, 198, 19, 199, 49, 200, 201, 202, 203, 204, 205, 206, 207, 48, 50, 51, 52, 53, 142, 143, 208, 209, 210, 211, 212, 213, 214, 215, 216, 217, 218, 219, 68, 69, 70, 71, 63, 64, 72, 73, 42, 43, 44, 220, 221, 222, 223, 224, 225, 226, 227, 228, 229, 230, 231, 232, 233, 234, 235, 236, 237, 238, 239, 240, 241, 67, 242, 243, 244, 15, 245, 40, 246, 247, 248, 249, 250, 251, 252, 253, 254, 255, 256, 257, 258, 259, 260, 261, 262, 263, 264, 691, 692, 693, 694, 695, 696, 725, 726, 727, 728, 729, 730, 731, 732, 733, 734, 735, 736, 737, 738, 739, 740, 741, 742, 723, 724] (by decide +kernel) (by decide +kernel)) (goodIn_sub (fun _ h => List.mem_append_left _ (List.mem_append_right _ h)) (by decide +kernel))) (goodIn_sub (fun _ h => List.mem_append_right _ h) (by decide +kernel))) (goodIn_sub (fun _ h => List.mem_append_left _ (List.mem_append_left _ (List.mem_append_right _ h))) (by decide +kernel))
set_option maxRecDepth 20000 in
theorem gL_law_L_add : GoodIn wsL_law (va_wsS RL 97 yL_add wsL_add) := goodIn_app (goodIn_of _ (by decide +kernel)) ggL_law_L_add
set_option maxRecDepth 20000 in
theorem ggL_law_X6_add : GoodIn wsL_law wsX6_add := goodIn_r _ [268, 148, 149, 96, 97, 98, 269, 270, 271, 5, 272, 109, 273, 274, 275, 150, 151, 152, 276, 277, 278, 279, 110, 111, 112, 113, 100, 101, 280, 281, 282, 283, 284, 285, 286, 287, 102, 288, 289, 290, 291, 95, 94, 99, 292, 293, 294, 295, 296, 297, 298, 299, 300, 301, 302, 303, 304, 305, 306, 93, 307, 308, 309, 310, 311, 312, 313, 314, 697, 698, 699, 700, 701, 702, 703, 704, 705, 706, 707, 708, 709, 710, 711, 712, 713, 714, 715, 716, 717, 718, 719, 720, 721, 722] (by decide +kernel) (by decide +kernel)
set_option maxRecDepth 20000 in
theorem gL_law_X6_add : GoodIn wsL_law (wsV RL 100 RX6 yX6_add wsX6_add) := goodIn_app (goodIn_of _ (by decide +kernel)) ggL_law_X6_add
set_option maxRecDepth 20000 in
theorem ggL_law_L_set : GoodIn wsL_law wsL_set := goodIn_ca (goodIn_ca (goodIn_ca (goodIn_r _ [317, 119, 120, 121, 318, 319, 320, 2, 321, 126, 127, 20, 164, 165, 166, 167, 24, 25, 128, 129, 130, 131, 132, 168, 169, 170, 171, 172, 173, 23, 174, 60, 133, 134, 135, 136, 137, 175, 176, 177, 178, 322, 239, 240, 241, 67, 63, 194, 195, 242, 243, 244, 15, 245, 40, 246, 247, 248, 323, 324, 325, 326, 64, 189, 190, 191, 192, 193, 66, 58, 65, 196, 197, 198, 19, 199, 49, 200, 201, 202, 203, 204, 205, 206, 207, 48, 50, 51, 52, 53, 142, 143, 208, 209, 210, 211, 212, 213, 214, 215, 216, 217, 218, 219, 68, 69, 70, 71, 61, 62, 72, 73, 42, 43, 44, 220, 221, 222, 223, 224, 225, 226, 227, 228, 229, 230, 231, 232, 233, 183, 184, 185, 186, 187, 188, 234, 235, 236, 237, 238, 249, 250, 251, 252, 253, 254, 255, 256, 257, 258, 259, 260, 261, 262, 263, 264, 691, 692, 693, 694, 695, 696, 732, 733, 734, 735, 736, 737, 738, 739, 740, 741, 742, 725, 726, 727, 728, 729, 730, 731, 723, 724] (by decide +kernel) (by decide +kernel)) (goodIn_sub (fun _ h => List.mem_append_left _ (List.mem_append_left _ (List.mem_append_right _ h))) (by decide +kernel))) (goodIn_sub (fun _ h => List.mem_append_left _ (List.mem_append_right _ h)) (by decide +kernel))) (goodIn_sub (fun _ h => List.mem_append_right _ h) (by decide +kernel))
set_option maxRecDepth 20000 in
theorem gL_law_L_set : GoodIn wsL_law (va_wsS RL 101 yL_set wsL_set) := goodIn_app (goodIn_of _ (by decide +kernel)) ggL_law_L_set
set_option maxRecDepth 20000 in
theorem ggL_law_X6_set : GoodIn wsL_law wsX6_set := goodIn_r _ [330, 148, 149, 98, 99, 113, 269, 270, 271, 5, 272, 109, 273, 274, 275, 150, 151, 152, 276, 277, 278, 279, 110, 111, 112, 100, 101, 280, 281, 282, 283, 284, 285, 286, 287, 102, 288, 289, 290, 291, 95, 94, 97, 96, 292, 293, 294, 295, 296, 297, 298, 299, 300, 301, 302, 303, 304, 305, 306, 93, 307, 308, 309, 310, 311, 312, 313, 314, 697, 698, 699, 700, 701, 702, 703, 704, 705, 706, 707, 708, 709, 710, 711, 712, 713, 714, 715, 716, 717, 718, 719, 720, 721, 722] (by decide +kernel) (by decide +kernel)
set_option maxRecDepth 20000 in
theorem gL_law_X6_set : GoodIn wsL_law (wsV RL 103 RX6 yX6_set wsX6_set) := goodIn_app (goodIn_of _ (by decide +kernel)) ggL_law_X6_set
set_option maxRecDepth 20000 in
theorem ggL_law_L_move : GoodIn wsL_law wsL_move := goodIn_ca (goodIn_ca (goodIn_ca (goodIn_r _ [333, 119, 120, 121, 334, 335, 336, 2, 337, 126, 127, 20, 164, 165, 166, 167, 24, 25, 128, 129, 130, 131, 132, 168, 169, 170, 171, 172, 173, 23, 174, 60, 133, 134, 135, 136, 137, 175, 176, 177, 178, 338, 339, 340, 341, 254, 255, 256, 257, 258, 259, 260, 61, 194, 195, 179, 180, 181, 182, 183, 184, 185, 62, 186, 187, 188, 342, 189, 190, 191, 192, 193, 66, 58, 65, 196, 197, 198, 19, 199, 49, 200, 201, 202, 203, 204, 205, 206, 207, 48, 50, 51, 52, 53, 142, 143, 208, 209, 210, 211, 212, 213, 214, 215, 216, 217, 218, 219, 68, 69, 70, 71, 63, 64, 72, 73, 42, 43, 44, 220, 221, 222, 223, 224, 225, 226, 227, 228, 229, 230, 231, 232, 233, 234, 235, 236, 237, 238, 239, 240, 241, 67, 242, 243, 244, 15, 245, 40, 246, 247, 248, 249, 250, 251, 252, 253, 261, 262, 263, 264, 691, 692, 693, 694, 695, 696, 732, 733, 734, 735, 736, 737, 738, 739, 740, 741, 742, 725, 726, 727, 728, 729, 730, 731, 723, 724] (by decide +kernel) (by decide +kernel)) (goodIn_sub (fun _ h => List.mem_append_left _ (List.mem_append_left _ (List.mem_append_right _ h))) (by decide +kernel))) (goodIn_sub (fun _ h => List.mem_append_left _ (List.mem_append_right _ h)) (by decide +kernel))) (goodIn_sub (fun _ h => List.mem_append_right _ h) (by decide +kernel))
set_option maxRecDepth 20000 in
theorem gL_law_L_move : GoodIn wsL_law (va_wsS RL 104 yL_move wsL_move) := goodIn_app (goodIn_of _ (by decide +kernel)) ggL_law_L_move
set_option maxRecDepth 20000 in
theorem ggL_law_X6_move : GoodIn wsL_law wsX6_move := goodIn_r _ [346, 148, 149, 96, 97, 110, 269, 270, 271, 5, 272, 109, 273, 274, 275, 150, 151, 152, 276, 277, 278, 279, 111, 112, 113, 100, 101, 280, 281, 282, 283, 284, 285, 286, 287, 102, 288, 289, 290, 291, 95, 94, 98, 99, 292, 293, 294, 295, 296, 297, 298, 299, 300, 301, 302, 303, 304, 305, 306, 93, 307, 308, 309, 310, 311, 312, 313, 314, 697, 698, 699, 700, 701, 702, 703, 704, 705, 706, 707, 708, 709, 710, 711, 712, 713, 714, 715, 716, 717, 718, 719, 720, 721, 722] (by decide +kernel) (by decide +kernel)
set_option maxRecDepth 20000 in
theorem gL_law_X6_move : GoodIn wsL_law (wsV RL 106 RX6 yX6_move wsX6_move) := goodIn_app (goodIn_of _ (by decide +kernel)) ggL_law_X6_move
set_option maxRecDepth 20000 in
theorem ggL_law_L_delete : GoodIn wsL_law wsL_delete := goodIn_ca (goodIn_ca (goodIn_r _ [349, 119, 121, 350, 351, 352, 2, 353, 126, 127, 20, 164, 165, 166, 167, 24, 25, 128, 129, 130, 131, 132, 168, 169, 170, 171, 172, 173, 23, 174, 60, 175, 176, 177, 178, 338, 339, 340, 354, 355, 356, 357, 61, 189, 190, 191, 192, 193, 66, 58, 65, 194, 195, 196, 197, 198, 19, 199, 49, 200, 201, 202, 203, 204, 205, 206, 207, 48, 50, 51, 52, 53, 142, 143, 208, 209, 210, 211, 212, 213, 214, 215, 216, 217, 218, 219, 68, 69, 70, 71, 62, 63, 64, 72, 73, 42, 43, 44, 220, 221, 222, 223, 224, 225, 226, 227, 228, 229, 230, 231, 232, 233, 183, 184, 185, 186, 187, 188, 234, 235, 236, 237, 238, 239, 240, 241, 67, 242, 243, 244, 15, 245, 40, 246, 247, 248, 249, 250, 251, 252, 253, 254, 255, 256, 257, 258, 259, 260, 261, 262, 263, 264, 691, 692, 693, 694, 695, 696, 732, 733, 734, 735, 736, 737, 738, 739, 740, 741, 742, 725, 726, 727, 728, 729, 730, 731, 723, 724] (by decide +kernel) (by decide +kernel)) (goodIn_sub (fun _ h => List.mem_append_left _ (List.mem_append_left _ (List.mem_append_right _ h))) (by decide +kernel))) (goodIn_sub (fun _ h => List.mem_append_left _ (List.mem_append_right _ h)) (by decide +kernel))
set_option maxRecDepth 20000 in
theorem gL_law_L_delete : GoodIn wsL_law (va_wsS RL 107 yL_delete wsL_delete) := goodIn_app (goodIn_of _ (by decide +kernel)) ggL_law_L_delete
set_option maxRecDepth 20000 in
theorem ggL_law_X6_delete : GoodIn wsL_law wsX6_delete := goodIn_r _ [361, 148, 149, 269, 270, 271, 5, 272, 109, 273, 274, 275, 150, 151, 152, 276, 277, 278, 279, 110, 111, 112, 113, 100, 101, 280, 281, 282, 283, 284, 285, 286, 287, 102, 288, 289, 290, 291, 95, 94, 98, 97, 96, 99, 292, 293, 294, 295, 296, 297, 298, 299, 300, 301, 302, 303, 304, 305, 306, 93, 307, 308, 309, 310, 362, 363, 364, 365, 311, 312, 313, 314, 697, 698, 699, 700, 701, 702, 703, 704, 705, 706, 707, 708, 709, 710, 711, 712, 713, 714, 715, 716, 717, 718, 719, 720, 721, 722] (by decide +kernel) (by decide +kernel)
set_option maxRecDepth 20000 in
theorem gL_law_X6_delete : GoodIn wsL_law (wsV RL 110 RX6 yX6_delete wsX6_delete) := goodIn_app (goodIn_of _ (by decide +kernel)) ggL_law_X6_delete
set_option maxRecDepth 20000 in
theorem ggL_law_L_carry : GoodIn wsL_law wsL_carry := goodIn_ca (goodIn_r _ [368, 119, 369, 370, 371, 2, 372, 20, 128, 129, 130, 131, 132, 164, 165, 166, 167, 24, 25, 373, 374, 375, 23, 376, 193, 58, 208, 209, 210, 211, 212, 213, 214, 215, 66, 194, 195, 216, 217, 218, 19, 219, 49, 142, 143, 68, 69, 70, 71, 60, 61, 62, 63, 64, 72, 73, 42, 43, 44, 220, 221, 222, 223, 224, 225, 226, 227, 228, 229, 230, 231, 232, 172, 173, 174, 233, 183, 184, 185, 186, 187, 188, 234, 235, 236, 237, 238, 239, 240, 241, 67, 242, 243, 244, 15, 245, 40, 246, 247, 248, 249, 250, 251, 252, 253, 254, 255, 256, 257, 258, 259, 260, 261, 262, 263, 264, 691, 692, 693, 694, 695, 696, 725, 726, 727, 728, 729, 730, 731, 732, 733, 734, 735, 736, 737, 738, 739, 740, 741, 742, 723, 724] (by decide +kernel) (by decide +kernel)) (goodIn_sub (fun _ h => List.mem_append_left _ (List.mem_append_right _ h)) (by decide +kernel))
set_option maxRecDepth 20000 in
theorem gL_law_L_carry : GoodIn wsL_law (va_wsS RL 111 yL_carry wsL_carry) := goodIn_app (goodIn_of _ (by decide +kernel)) ggL_law_L_carry
set_option maxRecDepth 20000 in
theorem ggL_law_X6_carry : GoodIn wsL_law wsX6_carry := goodIn_r _ [380, 149, 102, 381, 382, 383, 5, 384, 148, 150, 151, 152, 273, 274, 275, 284, 285, 286, 287, 697, 698, 699, 700, 701, 702, 703, 704, 705, 706, 707, 708, 709, 710, 711, 712, 713, 714, 715, 716, 717, 718, 719, 720, 721, 722] (by decide +kernel) (by decide +kernel)
set_option maxRecDepth 20000 in
theorem gL_law_X6_carry : GoodIn wsL_law (wsV RL 113 RX6 yX6_carry wsX6_carry) := goodIn_app (goodIn_of _ (by decide +kernel)) ggL_law_X6_carry
set_option maxRecDepth 20000 in
theorem ggL_law_X5_changes : GoodIn wsL_law wsX5_changes := goodIn_r _ [388, 20, 691, 692, 693, 694, 695, 696, 725, 726, 727, 728, 729, 730, 731] (by decide +kernel) (by decide +kernel)
set_option maxRecDepth 20000 in
theorem gL_law_X5_changes : GoodIn wsL_law (wsV RL 114 RX5 yX5_changes wsX5_changes) := goodIn_app (goodIn_of _ (by decide +kernel)) ggL_law_X5_changes
set_option maxRecDepth 20000 in
theorem ggL_law_X6_changes : GoodIn wsL_law wsX6_changes := goodIn_r _ [392, 149, 148, 697, 698, 699, 700, 701, 702, 703, 704, 705, 706, 707, 708, 709, 710, 711, 712, 713, 714, 715, 716, 717, 718, 719, 720, 721, 722] (by decide +kernel) (by decide +kernel)
set_option maxRecDepth 20000 in
theorem gL_law_X6_changes : GoodIn wsL_law (wsV RL 117 RX6 yX6_changes wsX6_changes) := goodIn_app (goodIn_of _ (by decide +kernel)) ggL_law_X6_changes
set_option maxRecDepth 20000 in
theorem ggL_law_L_timeOf : GoodIn wsL_law wsL_timeOf := goodIn_ca (goodIn_r _ [395, 119, 396, 397, 398, 2, 399, 20, 128, 129, 130, 131, 132, 400, 197, 198, 19, 199, 49, 194, 195, 691, 692, 693, 694, 695, 696, 725, 726, 727, 728, 729, 730, 731] (by decide +kernel) (by decide +kernel)) (goodIn_sub (fun _ h => List.mem_append_left _ (List.mem_append_right _ h)) (by decide +kernel))
set_option maxRecDepth 20000 in
theorem gL_law_L_timeOf : GoodIn wsL_law (va_wsS RL 118 yL_timeOf wsL_timeOf) := goodIn_app (goodIn_of _ (by decide +kernel)) ggL_law_L_timeOf
set_option maxRecDepth 20000 in
theorem ggL_law_X6_timeOf : GoodIn wsL_law wsX6_timeOf := goodIn_r _ [404, 149, 100, 381, 382, 383, 5, 384, 148, 150, 151, 152, 697, 698, 699, 700, 701, 702, 703, 704, 705, 706, 707, 708, 709, 710, 711, 712, 713, 714, 715, 716, 717, 718, 719, 720, 721, 722] (by decide +kernel) (by decide +kernel)
set_option maxRecDepth 20000 in
theorem gL_law_X6_timeOf : GoodIn wsL_law (wsV RL 121 RX6 yX6_timeOf wsX6_timeOf) := goodIn_app (goodIn_of _ (by decide +kernel)) ggL_law_X6_timeOf
set_option maxRecDepth 20000 in
theorem ggL_law_L_entries : GoodIn wsL_law wsL_entries := goodIn_ca (goodIn_r _ [407, 119, 408, 409, 410, 2, 411, 164, 165, 166, 167, 24, 25, 128, 129, 130, 131, 132, 732, 733, 734, 735, 736, 737, 738, 739, 740, 741, 742, 691, 692, 693, 694, 695, 696] (by decide +kernel) (by decide +kernel)) (goodIn_sub (fun _ h => List.mem_append_left _ (List.mem_append_right _ h)) (by decide +kernel))
set_option maxRecDepth 20000 in
theorem gL_law_L_entries : GoodIn wsL_law (va_wsS RL 122 yL_entries wsL_entries) := goodIn_app (goodIn_of _ (by decide +kernel)) ggL_law_L_entries
set_option maxRecDepth 20000 in
theorem ggL_law_X6_entries : GoodIn wsL_law wsX6_entries := goodIn_r _ [415, 149, 269, 270, 271, 5, 272, 109, 273, 274, 275, 150, 151, 152, 276, 277, 278, 279, 110, 111, 112, 113, 100, 101, 280, 281, 282, 283, 148, 284, 285, 286, 287, 102, 288, 289, 290, 291, 95, 94, 98, 97, 96, 99, 292, 293, 294, 295, 296, 297, 298, 299, 300, 301, 302, 303, 304, 305, 306, 93, 307, 308, 309, 310, 362, 363, 364, 365, 697, 698, 699, 700, 701, 702, 703, 704, 705, 706, 707, 708, 709, 710, 711, 712, 713, 714, 715, 716, 717, 718, 719, 720, 721, 722] (by decide +kernel) (by decide +kernel)
set_option maxRecDepth 20000 in
theorem gL_law_X6_entries : GoodIn wsL_law (wsV RL 124 RX6 yX6_entries wsX6_entries) := goodIn_app (goodIn_of _ (by decide +kernel)) ggL_law_X6_entries
set_option maxRecDepth 20000 in
theorem ggL_law_L_isThere : GoodIn wsL_law wsL_isThere := goodIn_ca (goodIn_r _ [418, 119, 419, 420, 421, 2, 422, 164, 165, 166, 167, 24, 25, 128, 129, 130, 131, 132, 171, 172, 173, 23, 174, 60, 691, 692, 693, 694, 695, 696, 732, 733, 734, 735, 736, 737, 738, 739, 740, 741, 742] (by decide +kernel) (by decide +kernel)) (goodIn_sub (fun _ h => List.mem_append_left _ (List.mem_append_right _ h)) (by decide +kernel))
set_option maxRecDepth 20000 in
theorem gL_law_L_isThere : GoodIn wsL_law (va_wsS RL 125 yL_isThere wsL_isThere) := goodIn_app (goodIn_of _ (by decide +kernel)) ggL_law_L_isThere
set_option maxRecDepth 20000 in
theorem ggL_law_X6_isThere : GoodIn wsL_law wsX6_isThere := goodIn_r _ [426, 149, 273, 274, 5, 275, 150, 151, 152, 269, 270, 271, 272, 109, 276, 277, 278, 279, 110, 111, 112, 113, 100, 101, 280, 281, 282, 283, 148, 284, 285, 286, 287, 102, 288, 289, 290, 291, 95, 94, 98, 97, 96, 99, 292, 293, 294, 295, 296, 297, 298, 299, 300, 301, 302, 303, 304, 305, 306, 93, 307, 308, 309, 310, 697, 698, 699, 700, 701, 702, 703, 704, 705, 706, 707, 708, 709, 710, 711, 712, 713, 714, 715, 716, 717, 718, 719, 720, 721, 722] (by decide +kernel) (by decide +kernel)
set_option maxRecDepth 20000 in
theorem gL_law_X6_isThere : GoodIn wsL_law (wsV RL 127 RX6 yX6_isThere wsX6_isThere) := goodIn_app (goodIn_of _ (by decide +kernel)) ggL_law_X6_isThere
set_option maxRecDepth 20000 in
theorem ggL_law_L_parentOf : GoodIn wsL_law wsL_parentOf := goodIn_ca (goodIn_r _ [429, 119, 430, 431, 432, 2, 433, 164, 165, 166, 167, 24, 25, 128, 129, 130, 131, 132, 168, 169, 170, 171, 172, 173, 23, 174, 60, 342, 258, 259, 260, 61, 194, 195, 691, 692, 693, 694, 695, 696, 732, 733, 734, 735, 736, 737, 738, 739, 740, 741, 742] (by decide +kernel) (by decide +kernel)) (goodIn_sub (fun _ h => List.mem_append_left _ (List.mem_append_right _ h)) (by decide +kernel))
set_option maxRecDepth 20000 in
theorem gL_law_L_parentOf : GoodIn wsL_law (va_wsS RL 128 yL_parentOf wsL_parentOf) := goodIn_app (goodIn_of _ (by decide +kernel)) ggL_law_L_parentOf
set_option maxRecDepth 20000 in
theorem ggL_law_X6_parentOf : GoodIn wsL_law wsX6_parentOf := goodIn_r _ [437, 110, 438, 439, 440, 5, 441, 149, 269, 270, 271, 272, 109, 273, 274, 275, 150, 151, 152, 276, 277, 278, 279, 111, 112, 113, 100, 101, 280, 281, 282, 283, 148, 284, 285, 286, 287, 102, 288, 289, 290, 291, 95, 94, 98, 97, 96, 99, 292, 293, 294, 295, 296, 297, 298, 299, 300, 301, 302, 303, 304, 305, 306, 93, 307, 308, 309, 310, 697, 698, 699, 700, 701, 702, 703, 704, 705, 706, 707, 708, 709, 710, 711, 712, 713, 714, 715, 716, 717, 718, 719, 720, 721, 722] (by decide +kernel) (by decide +kernel)
set_option maxRecDepth 20000 in
theorem gL_law_X6_parentOf : GoodIn wsL_law (wsV RL 130 RX6 yX6_parentOf wsX6_parentOf) := goodIn_app (goodIn_of _ (by decide +kernel)) ggL_law_X6_parentOf
set_option maxRecDepth 20000 in
theorem ggL_law_L_labelOf : GoodIn wsL_law wsL_labelOf := goodIn_ca (goodIn_r _ [444, 119, 445, 446, 447, 2, 448, 164, 165, 166, 167, 24, 25, 128, 129, 130, 131, 132, 168, 169, 170, 171, 172, 173, 23, 174, 60, 449, 450, 451, 452, 62, 194, 195, 691, 692, 693, 694, 695, 696, 732, 733, 734, 735, 736, 737, 738, 739, 740, 741, 742] (by decide +kernel) (by decide +kernel)) (goodIn_sub (fun _ h => List.mem_append_left _ (List.mem_append_right _ h)) (by decide +kernel))
set_option maxRecDepth 20000 in
theorem gL_law_L_labelOf : GoodIn wsL_law (va_wsS RL 131 yL_labelOf wsL_labelOf) := goodIn_app (goodIn_of _ (by decide +kernel)) ggL_law_L_labelOf
set_option maxRecDepth 20000 in
theorem ggL_law_X6_labelOf : GoodIn wsL_law wsX6_labelOf := goodIn_r _ [456, 111, 438, 439, 440, 5, 441, 149, 269, 270, 271, 272, 109, 273, 274, 275, 150, 151, 152, 276, 277, 278, 279, 110, 112, 113, 100, 101, 280, 281, 282, 283, 148, 284, 285, 286, 287, 102, 288, 289, 290, 291, 95, 94, 98, 97, 96, 99, 292, 293, 294, 295, 296, 297, 298, 299, 300, 301, 302, 303, 304, 305, 306, 93, 307, 308, 309, 310, 697, 698, 699, 700, 701, 702, 703, 704, 705, 706, 707, 708, 709, 710, 711, 712, 713, 714, 715, 716, 717, 718, 719, 720, 721, 722] (by decide +kernel) (by decide +kernel)
set_option maxRecDepth 20000 in
theorem gL_law_X6_labelOf : GoodIn wsL_law (wsV RL 133 RX6 yX6_labelOf wsX6_labelOf) := goodIn_app (goodIn_of _ (by decide +kernel)) ggL_law_X6_labelOf
set_option maxRecDepth 20000 in
theorem ggL_law_L_value : GoodIn wsL_law wsL_value := goodIn_ca (goodIn_r _ [459, 119, 460, 461, 462, 2, 463, 164, 165, 166, 167, 24, 25, 128, 129, 130, 131, 132, 168, 169, 170, 171, 172, 173, 23, 174, 60, 323, 324, 325, 326, 64, 194, 195, 691, 692, 693, 694, 695, 696, 732, 733, 734, 735, 736, 737, 738, 739, 740, 741, 742] (by decide +kernel) (by decide +kernel)) (goodIn_sub (fun _ h => List.mem_append_left _ (List.mem_append_right _ h)) (by decide +kernel))
set_option maxRecDepth 20000 in
theorem gL_law_L_value : GoodIn wsL_law (va_wsS RL 134 yL_value wsL_value) := goodIn_app (goodIn_of _ (by decide +kernel)) ggL_law_L_value
set_option maxRecDepth 20000 in
theorem ggL_law_X6_value : GoodIn wsL_law wsX6_value := goodIn_r _ [467, 149, 113, 269, 270, 271, 5, 272, 109, 273, 274, 275, 150, 151, 152, 276, 277, 278, 279, 110, 111, 112, 100, 101, 280, 281, 282, 283, 148, 284, 285, 286, 287, 102, 288, 289, 290, 291, 95, 94, 98, 97, 96, 99, 292, 293, 294, 295, 296, 297, 298, 299, 300, 301, 302, 303, 304, 305, 306, 93, 307, 308, 309, 310, 697, 698, 699, 700, 701, 702, 703, 704, 705, 706, 707, 708, 709, 710, 711, 712, 713, 714, 715, 716, 717, 718, 719, 720, 721, 722] (by decide +kernel) (by decide +kernel)
set_option maxRecDepth 20000 in
theorem gL_law_X6_value : GoodIn wsL_law (wsV RL 137 RX6 yX6_value wsX6_value) := goodIn_app (goodIn_of _ (by decide +kernel)) ggL_law_X6_value
set_option maxRecDepth 20000 in
theorem ggL_law_L_isWhole : GoodIn wsL_law wsL_isWhole := goodIn_ca (goodIn_r _ [470, 119, 471, 472, 473, 2, 474, 164, 165, 166, 167, 24, 25, 128, 129, 130, 131, 132, 168, 169, 170, 171, 172, 173, 23, 174, 60, 475, 476, 477, 478, 63, 67, 194, 195, 479, 480, 481, 15, 482, 39, 246, 247, 248, 483, 324, 325, 326, 64, 691, 692, 693, 694, 695, 696, 732, 733, 734, 735, 736, 737, 738, 739, 740, 741, 742, 723, 724] (by decide +kernel) (by decide +kernel)) (goodIn_sub (fun _ h => List.mem_append_left _ (List.mem_append_right _ h)) (by decide +kernel))
set_option maxRecDepth 20000 in
theorem gL_law_L_isWhole : GoodIn wsL_law (va_wsS RL 138 yL_isWhole wsL_isWhole) := goodIn_app (goodIn_of _ (by decide +kernel)) ggL_law_L_isWhole
set_option maxRecDepth 20000 in
theorem ggL_law_X6_isWhole : GoodIn wsL_law wsX6_isWhole := goodIn_r _ [487, 92, 112, 113, 438, 439, 440, 5, 441, 149, 269, 270, 271, 272, 109, 273, 274, 275, 150, 151, 152, 276, 277, 278, 279, 110, 111, 100, 101, 280, 281, 282, 283, 148, 284, 285, 286, 287, 102, 288, 289, 290, 291, 95, 94, 98, 97, 96, 99, 292, 293, 294, 295, 296, 297, 298, 299, 300, 301, 302, 303, 304, 305, 306, 93, 307, 308, 309, 310, 697, 698, 699, 700, 701, 702, 703, 704, 705, 706, 707, 708, 709, 710, 711, 712, 713, 714, 715, 716, 717, 718, 719, 720, 721, 722] (by decide +kernel) (by decide +kernel)
set_option maxRecDepth 20000 in
theorem gL_law_X6_isWhole : GoodIn wsL_law (wsV RL 140 RX6 yX6_isWhole wsX6_isWhole) := goodIn_app (goodIn_of _ (by decide +kernel)) ggL_law_X6_isWhole
set_option maxRecDepth 20000 in
theorem ggL_law_L_find : GoodIn wsL_law wsL_find := goodIn_ca (goodIn_ca (goodIn_r _ [490, 119, 120, 491, 492, 493, 2, 494, 164, 165, 166, 167, 24, 25, 128, 129, 130, 131, 132, 168, 169, 170, 171, 172, 173, 23, 174, 60, 133, 134, 135, 136, 137, 182, 183, 184, 185, 61, 62, 186, 187, 188, 691, 692, 693, 694, 695, 696, 732, 733, 734, 735, 736, 737, 738, 739, 740, 741, 742] (by decide +kernel) (by decide +kernel)) (goodIn_sub (fun _ h => List.mem_append_left _ (List.mem_append_right _ h)) (by decide +kernel))) (goodIn_sub (fun _ h => List.mem_append_right _ h) (by decide +kernel))
set_option maxRecDepth 20000 in
theorem gL_law_L_find : GoodIn wsL_law (va_wsS RL 141 yL_find wsL_find) := goodIn_app (goodIn_of _ (by decide +kernel)) ggL_law_L_find
set_option maxRecDepth 20000 in
theorem ggL_law_X6_find : GoodIn wsL_law wsX6_find := goodIn_r _ [498, 149, 269, 270, 271, 5, 272, 109, 273, 274, 275, 150, 151, 152, 276, 277, 278, 279, 110, 111, 112, 113, 100, 101, 280, 281, 282, 283, 148, 284, 285, 286, 287, 102, 288, 289, 290, 291, 95, 94, 98, 97, 96, 99, 292, 293, 294, 295, 296, 297, 298, 299, 300, 301, 302, 303, 304, 305, 306, 93, 307, 308, 309, 310, 697, 698, 699, 700, 701, 702, 703, 704, 705, 706, 707, 708, 709, 710, 711, 712, 713, 714, 715, 716, 717, 718, 719, 720, 721, 722] (by decide +kernel) (by decide +kernel)
set_option maxRecDepth 20000 in
theorem gL_law_X6_find : GoodIn wsL_law (wsV RL 143 RX6 yX6_find wsX6_find) := goodIn_app (goodIn_of _ (by decide +kernel)) ggL_law_X6_find
set_option maxRecDepth 20000 in
theorem ggL_law_X5_areAlike : GoodIn wsL_law wsX5_areAlike := goodIn_r _ [502, 24, 25, 503, 504, 505, 23, 506, 60, 507, 508, 509, 510, 63, 483, 324, 325, 326, 64, 194, 2, 195, 257, 258, 259, 260, 61, 511, 450, 451, 452, 62, 691, 692, 693, 694, 695, 696, 732, 733, 734, 735, 736, 737, 738, 739, 740, 741, 742] (by decide +kernel) (by decide +kernel)
set_option maxRecDepth 20000 in
theorem gL_law_X5_areAlike : GoodIn wsL_law (wsV RL 144 RX5 yX5_areAlike wsX5_areAlike) := goodIn_app (goodIn_of _ (by decide +kernel)) ggL_law_X5_areAlike
set_option maxRecDepth 20000 in
theorem ggL_law_X6_areAlike : GoodIn wsL_law wsX6_areAlike := goodIn_r _ [515, 149, 114, 276, 277, 278, 5, 279, 109, 110, 111, 112, 113, 100, 101, 280, 281, 282, 283, 148, 284, 285, 286, 287, 102, 288, 289, 290, 291, 95, 94, 98, 97, 96, 99, 292, 293, 294, 295, 296, 297, 298, 299, 300, 301, 302, 303, 304, 305, 306, 93, 307, 308, 309, 310, 516, 517, 518, 519, 697, 698, 699, 700, 701, 702, 703, 704, 705, 706, 707, 708, 709, 710, 711, 712, 713, 714, 715, 716, 717, 718, 719, 720, 721, 722] (by decide +kernel) (by decide +kernel)
set_option maxRecDepth 20000 in
theorem gL_law_X6_areAlike : GoodIn wsL_law (wsV RL 148 RX6 yX6_areAlike wsX6_areAlike) := goodIn_app (goodIn_of _ (by decide +kernel)) ggL_law_X6_areAlike
set_option maxRecDepth 20000 in
theorem ggL_law_L_setRight : GoodIn wsL_law wsL_setRight := goodIn_ca (goodIn_ca (goodIn_r _ [522, 119, 120, 523, 524, 525, 2, 526, 29, 128, 129, 130, 131, 132, 133, 134, 135, 136, 137, 527, 528, 529, 28, 530, 78, 142, 143, 691, 692, 693, 694, 695, 696, 743, 744] (by decide +kernel) (by decide +kernel)) (goodIn_sub (fun _ h => List.mem_append_left _ (List.mem_append_right _ h)) (by decide +kernel))) (goodIn_sub (fun _ h => List.mem_append_right _ h) (by decide +kernel))
set_option maxRecDepth 20000 in
theorem gL_law_L_setRight : GoodIn wsL_law (va_wsS RL 149 yL_setRight wsL_setRight) := goodIn_app (goodIn_of _ (by decide +kernel)) ggL_law_L_setRight
set_option maxRecDepth 20000 in
theorem ggL_law_X6_setRight : GoodIn wsL_law wsX6_setRight := goodIn_r _ [534, 149, 103, 150, 151, 5, 152, 697, 698, 699, 700, 701, 702, 703, 704, 705, 706, 707, 708, 709, 710, 711, 712, 713, 714, 715, 716, 717, 718, 719, 720, 721, 722] (by decide +kernel) (by decide +kernel)
set_option maxRecDepth 20000 in
theorem gL_law_X6_setRight : GoodIn wsL_law (wsV RL 151 RX6 yX6_setRight wsX6_setRight) := goodIn_app (goodIn_of _ (by decide +kernel)) ggL_law_X6_setRight
set_option maxRecDepth 20000 in
theorem ggL_law_L_refer : GoodIn wsL_law wsL_refer := goodIn_ca (goodIn_r _ [537, 119, 538, 539, 540, 2, 541, 29, 128, 129, 130, 131, 132, 542, 543, 544, 28, 545, 79, 691, 692, 693, 694, 695, 696, 743, 744] (by decide +kernel) (by decide +kernel)) (goodIn_sub (fun _ h => List.mem_append_left _ (List.mem_append_right _ h)) (by decide +kernel))
set_option maxRecDepth 20000 in
theorem gL_law_L_refer : GoodIn wsL_law (va_wsS RL 152 yL_refer wsL_refer) := goodIn_app (goodIn_of _ (by decide +kernel)) ggL_law_L_refer
set_option maxRecDepth 20000 in
theorem ggL_law_X6_refer : GoodIn wsL_law wsX6_refer := goodIn_r _ [549, 149, 104, 150, 151, 5, 152, 697, 698, 699, 700, 701, 702, 703, 704, 705, 706, 707, 708, 709, 710, 711, 712, 713, 714, 715, 716, 717, 718, 719, 720, 721, 722] (by decide +kernel) (by decide +kernel)
set_option maxRecDepth 20000 in
theorem gL_law_X6_refer : GoodIn wsL_law (wsV RL 155 RX6 yX6_refer wsX6_refer) := goodIn_app (goodIn_of _ (by decide +kernel)) ggL_law_X6_refer
set_option maxRecDepth 20000 in
theorem ggL_law_L_test : GoodIn wsL_law wsL_test := goodIn_ca (goodIn_ca (goodIn_r _ [552, 120, 121, 553, 554, 555, 2, 556, 33, 133, 134, 135, 136, 137, 557, 558, 559, 560, 126, 127, 561, 562, 563, 32, 564, 565, 84, 85, 86, 142, 143, 691, 692, 693, 694, 695, 696, 745, 746, 747, 748, 749] (by decide +kernel) (by decide +kernel)) (goodIn_sub (fun _ h => List.mem_append_right _ h) (by decide +kernel))) (goodIn_sub (fun _ h => List.mem_append_left _ (List.mem_append_left _ (List.mem_append_right _ h))) (by decide +kernel))
set_option maxRecDepth 20000 in
theorem gL_law_L_test : GoodIn wsL_law (va_wsS RL 156 yL_test wsL_test) := goodIn_app (goodIn_of _ (by decide +kernel)) ggL_law_L_test
set_option maxRecDepth 20000 in
theorem ggL_law_X6_test : GoodIn wsL_law wsX6_test := goodIn_r _ [569, 570, 149, 150, 151, 5, 152, 571, 572, 573, 574, 105, 106, 107, 697, 698, 699, 700, 701, 702, 703, 704, 705, 706, 707, 708, 709, 710, 711, 712, 713, 714, 715, 716, 717, 718, 719, 720, 721, 722] (by decide +kernel) (by decide +kernel)
set_option maxRecDepth 20000 in
theorem gL_law_X6_test : GoodIn wsL_law (wsV RL 158 RX6 yX6_test wsX6_test) := goodIn_app (goodIn_of _ (by decide +kernel)) ggL_law_X6_test
set_option maxRecDepth 20000 in
theorem ggL_law_L_join : GoodIn wsL_law wsL_join := goodIn_ca (goodIn_ca (goodIn_ca (goodIn_r _ [577, 119, 120, 121, 578, 579, 580, 2, 581, 33, 128, 129, 130, 131, 132, 133, 134, 135, 136, 137, 557, 558, 559, 560, 126, 127, 561, 562, 563, 32, 564, 565, 84, 85, 86, 142, 143, 691, 692, 693, 694, 695, 696, 745, 746, 747, 748, 749] (by decide +kernel) (by decide +kernel)) (goodIn_sub (fun _ h => List.mem_append_left _ (List.mem_append_right _ h)) (by decide +kernel))) (goodIn_sub (fun _ h => List.mem_append_right _ h) (by decide +kernel))) (goodIn_sub (fun _ h => List.mem_append_left _ (List.mem_append_left _ (List.mem_append_right _ h))) (by decide +kernel))
set_option maxRecDepth 20000 in
theorem gL_law_L_join : GoodIn wsL_law (va_wsS RL 159 yL_join wsL_join) := goodIn_app (goodIn_of _ (by decide +kernel)) ggL_law_L_join
set_option maxRecDepth 20000 in
theorem ggL_law_X6_join : GoodIn wsL_law wsX6_join := goodIn_r _ [585, 570, 149, 586, 587, 588, 5, 589, 150, 151, 152, 571, 572, 573, 574, 105, 106, 107, 697, 698, 699, 700, 701, 702, 703, 704, 705, 706, 707, 708, 709, 710, 711, 712, 713, 714, 715, 716, 717, 718, 719, 720, 721, 722] (by decide +kernel) (by decide +kernel)
set_option maxRecDepth 20000 in
theorem gL_law_X6_join : GoodIn wsL_law (wsV RL 161 RX6 yX6_join wsX6_join) := goodIn_app (goodIn_of _ (by decide +kernel)) ggL_law_X6_join
set_option maxRecDepth 20000 in
theorem ggL_law_L_holds : GoodIn wsL_law wsL_holds := goodIn_ca (goodIn_r _ [592, 119, 593, 594, 595, 2, 596, 33, 164, 165, 166, 167, 24, 25, 128, 129, 130, 131, 132, 168, 169, 170, 171, 172, 173, 23, 174, 60, 597, 598, 599, 32, 600, 84, 85, 86, 87, 601, 602, 603, 604, 239, 240, 241, 67, 63, 194, 195, 242, 243, 244, 15, 245, 40, 246, 247, 248, 605, 324, 325, 326, 64, 606, 607, 608, 609, 610, 611, 612, 613, 614, 691, 692, 693, 694, 695, 696, 745, 746, 747, 748, 749, 732, 733, 734, 735, 736, 737, 738, 739, 740, 741, 742, 723, 724] (by decide +kernel) (by decide +kernel)) (goodIn_sub (fun _ h => List.mem_append_left _ (List.mem_append_right _ h)) (by decide +kernel))
set_option maxRecDepth 20000 in
theorem gL_law_L_holds : GoodIn wsL_law (va_wsS RL 162 yL_holds wsL_holds) := goodIn_app (goodIn_of _ (by decide +kernel)) ggL_law_L_holds
set_option maxRecDepth 20000 in
theorem ggL_law_X6_holds : GoodIn wsL_law wsX6_holds := goodIn_r _ [618, 149, 273, 274, 5, 275, 150, 151, 152, 586, 587, 588, 589, 570, 269, 270, 271, 272, 109, 276, 277, 278, 279, 110, 111, 112, 113, 100, 101, 280, 281, 282, 283, 148, 284, 285, 286, 287, 102, 288, 289, 290, 291, 95, 94, 98, 97, 96, 99, 292, 293, 294, 295, 296, 297, 298, 299, 300, 301, 302, 303, 304, 305, 306, 93, 307, 308, 309, 310, 619, 620, 621, 622, 105, 108, 106, 107, 623, 624, 625, 626, 627, 628, 629, 630, 631, 632, 697, 698, 699, 700, 701, 702, 703, 704, 705, 706, 707, 708, 709, 710, 711, 712, 713, 714, 715, 716, 717, 718, 719, 720, 721, 722] (by decide +kernel) (by decide +kernel)
set_option maxRecDepth 20000 in
theorem gL_law_X6_holds : GoodIn wsL_law (wsV RL 164 RX6 yX6_holds wsX6_holds) := goodIn_app (goodIn_of _ (by decide +kernel)) ggL_law_X6_holds
set_option maxRecDepth 20000 in
theorem ggL_law_L_search : GoodIn wsL_law wsL_search := goodIn_ca (goodIn_ca (goodIn_r _ [635, 119, 120, 636, 637, 638, 2, 639, 131, 132, 33, 29, 164, 165, 166, 167, 24, 25, 128, 129, 130, 168, 169, 170, 171, 172, 173, 23, 174, 60, 133, 134, 135, 136, 137, 640, 641, 642, 643, 61, 644, 645, 646, 28, 647, 79, 648, 649, 650, 651, 511, 450, 451, 452, 62, 194, 195, 652, 653, 654, 655, 597, 598, 599, 32, 600, 84, 85, 86, 87, 601, 602, 603, 604, 239, 240, 241, 67, 63, 242, 243, 244, 15, 245, 40, 246, 247, 248, 605, 324, 325, 326, 64, 606, 607, 608, 609, 610, 611, 612, 613, 614, 656, 657, 658, 659, 78, 660, 258, 259, 260, 661, 662, 663, 664, 665, 666, 667, 668, 669, 670, 257, 691, 692, 693, 694, 695, 696, 745, 746, 747, 748, 749, 732, 733, 734, 735, 736, 737, 738, 739, 740, 741, 742, 743, 744, 723, 724] (by decide +kernel) (by decide +kernel)) (goodIn_sub (fun _ h => List.mem_append_left _ (List.mem_append_right _ h)) (by decide +kernel))) (goodIn_sub (fun _ h => List.mem_append_right _ h) (by decide +kernel))
set_option maxRecDepth 20000 in
theorem gL_law_L_search : GoodIn wsL_law (va_wsS RL 165 yL_search wsL_search) := goodIn_app (goodIn_of _ (by decide +kernel)) ggL_law_L_search
set_option maxRecDepth 20000 in
theorem ggL_law_X6_search : GoodIn wsL_law wsX6_search := goodIn_r _ [674, 149, 269, 270, 271, 5, 272, 109, 273, 274, 275, 150, 151, 152, 276, 277, 278, 279, 110, 111, 112, 113, 100, 101, 280, 281, 282, 283, 148, 284, 285, 286, 287, 102, 288, 289, 290, 291, 95, 94, 98, 97, 96, 99, 292, 293, 294, 295, 296, 297, 298, 299, 300, 301, 302, 303, 304, 305, 306, 93, 307, 308, 309, 310, 586, 587, 588, 589, 570, 675, 676, 677, 678, 679, 680, 681, 682, 104, 683, 684, 685, 686, 619, 620, 621, 622, 105, 108, 106, 107, 623, 624, 625, 626, 627, 628, 629, 630, 631, 632, 687, 688, 689, 690, 103, 697, 698, 699, 700, 701, 702, 703, 704, 705, 706, 707, 708, 709, 710, 711, 712, 713, 714, 715, 716, 717, 718, 719, 720, 721, 722] (by decide +kernel) (by decide +kernel)
set_option maxRecDepth 20000 in
theorem gL_law_X6_search : GoodIn wsL_law (wsV RL 168 RX6 yX6_search wsX6_search) := goodIn_app (goodIn_of _ (by decide +kernel)) ggL_law_X6_search
