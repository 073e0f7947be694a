set_option maxRecDepth 20000 in
theorem ggL_law_X5_changes : GoodIn wsL_law wsX5_changes := goodIn_r _ [91, 20, 433, 434, 435, 436, 437, 438, 441, 442, 443, 444, 445, 446, 447] (by decide +kernel) (by decide +kernel)
set_option maxRecDepth 20000 in
theorem gL_law_X5_changes : GoodIn wsL_law (wsV RL 83 RX5 yX5_changes wsX5_changes) := goodIn_app (goodIn_of _ (by decide +kernel)) ggL_law_X5_changes
set_option maxRecDepth 20000 in
theorem ggL_law_X5_timeOf : GoodIn wsL_law wsX5_timeOf := goodIn_ca (goodIn_r _ [310, 20, 100, 101, 2, 102, 103, 104, 311, 213, 214, 19, 215, 49, 121, 122, 433, 434, 435, 436, 437, 438, 441, 442, 443, 444, 445, 446, 447] (by decide +kernel) (by decide +kernel)) (goodIn_sub (fun _ h => List.mem_append_left _ (List.mem_append_left _ (List.mem_append_right _ h))) (by decide +kernel))
set_option maxRecDepth 20000 in
theorem gL_law_X5_timeOf : GoodIn wsL_law (wsV RL 44 RX5 yX5_timeOf wsX5_timeOf) := goodIn_app (goodIn_of _ (by decide +kernel)) ggL_law_X5_timeOf
set_option maxRecDepth 20000 in
theorem ggL_law_X5_carry : GoodIn wsL_law wsX5_carry := goodIn_ca (goodIn_r _ [302, 20, 100, 101, 2, 102, 103, 104, 96, 97, 98, 99, 24, 25, 303, 304, 305, 23, 306, 211, 58, 224, 225, 226, 227, 228, 229, 230, 231, 66, 121, 122, 232, 233, 234, 19, 235, 49, 191, 192, 68, 69, 70, 71, 60, 61, 62, 63, 64, 72, 73, 42, 43, 44, 236, 237, 238, 239, 240, 241, 242, 243, 244, 245, 246, 247, 248, 139, 140, 141, 249, 165, 166, 167, 168, 169, 170, 250, 251, 252, 253, 254, 255, 256, 257, 67, 258, 259, 260, 15, 261, 40, 262, 263, 264, 265, 266, 267, 268, 269, 270, 271, 272, 123, 124, 125, 126, 273, 274, 275, 276, 433, 434, 435, 436, 437, 438, 441, 442, 443, 444, 445, 446, 447, 448, 449, 450, 451, 452, 453, 454, 455, 456, 457, 458, 439, 440] (by decide +kernel) (by decide +kernel)) (goodIn_sub (fun _ h => List.mem_append_left _ (List.mem_append_left _ (List.mem_append_right _ h))) (by decide +kernel))
set_option maxRecDepth 20000 in
theorem gL_law_X5_carry : GoodIn wsL_law (wsV RL 40 RX5 yX5_carry wsX5_carry) := goodIn_app (goodIn_of _ (by decide +kernel)) ggL_law_X5_carry
set_option maxRecDepth 20000 in
theorem ggL_law_L_refuses_r1 : GoodIn wsL_law wsL_refuses_r1 := goodIn_r wsL_refuses_r1 [174, 88, 89, 90, 2, 91, 20, 92, 93, 94, 95, 96, 97, 98, 99, 24, 25, 100, 101, 102, 103, 104, 105, 106] (by decide +kernel) (by decide +kernel)
set_option maxRecDepth 20000 in
theorem ggL_law_L_refuses_r2 : GoodIn wsL_law wsL_refuses_r2 := goodIn_r wsL_refuses_r2 [107, 108, 109, 110, 111, 23, 112, 60, 113, 114, 115, 116, 63, 117, 118, 119, 120, 64, 121, 122, 123, 124, 125, 126] (by decide +kernel) (by decide +kernel)
set_option maxRecDepth 20000 in
theorem ggL_law_L_refuses_r3 : GoodIn wsL_law wsL_refuses_r3 := goodIn_r wsL_refuses_r3 [61, 127, 128, 129, 130, 62, 175, 176, 5, 177, 178, 179, 180, 181, 182, 183, 184, 185, 186, 16, 159, 160, 161, 162] (by decide +kernel) (by decide +kernel)
set_option maxRecDepth 20000 in
theorem ggL_law_L_refuses_r4 : GoodIn wsL_law wsL_refuses_r4 := goodIn_r wsL_refuses_r4 [163, 187, 188, 189, 15, 190, 39, 40, 191, 192, 193, 194, 195, 196, 197, 198, 199, 146, 147, 148, 138, 139, 140, 141] (by decide +kernel) (by decide +kernel)
set_option maxRecDepth 20000 in
theorem ggL_law_L_refuses_r5 : GoodIn wsL_law wsL_refuses_r5 := goodIn_r wsL_refuses_r5 [200, 201, 202, 203, 204, 205, 206, 164, 165, 166, 167, 168, 169, 170, 207, 208, 209, 210, 211, 66, 58, 65, 212, 213] (by decide +kernel) (by decide +kernel)
set_option maxRecDepth 20000 in
theorem ggL_law_L_refuses_r6 : GoodIn wsL_law wsL_refuses_r6 := goodIn_r wsL_refuses_r6 [214, 19, 215, 49, 216, 217, 218, 219, 220, 221, 222, 223, 48, 50, 51, 52, 53, 224, 225, 226, 227, 228, 229, 230] (by decide +kernel) (by decide +kernel)
set_option maxRecDepth 20000 in
theorem ggL_law_L_refuses_r7 : GoodIn wsL_law wsL_refuses_r7 := goodIn_r wsL_refuses_r7 [231, 232, 233, 234, 235, 68, 69, 70, 71, 72, 73, 42, 43, 44, 236, 237, 238, 239, 240, 241, 242, 243, 244, 245] (by decide +kernel) (by decide +kernel)
set_option maxRecDepth 20000 in
theorem ggL_law_L_refuses_r8 : GoodIn wsL_law wsL_refuses_r8 := goodIn_r wsL_refuses_r8 [246, 247, 248, 249, 250, 251, 252, 253, 254, 255, 256, 257, 67, 258, 259, 260, 261, 262, 263, 264, 265, 266, 267, 268] (by decide +kernel) (by decide +kernel)
set_option maxRecDepth 20000 in
theorem ggL_law_L_refuses_r9 : GoodIn wsL_law wsL_refuses_r9 := goodIn_r wsL_refuses_r9 [269, 270, 271, 272, 273, 274, 275, 276, 277, 278, 279, 280, 281, 282, 283, 284, 285, 286, 287, 288, 289, 290, 149, 291] (by decide +kernel) (by decide +kernel)
set_option maxRecDepth 20000 in
theorem ggL_law_L_refuses_r10 : GoodIn wsL_law wsL_refuses_r10 := goodIn_r wsL_refuses_r10 [292, 293, 294, 295, 296, 297, 298, 299, 300, 301, 302, 303, 304, 305, 306, 307, 308, 309, 310, 311, 134, 135, 136, 137] (by decide +kernel) (by decide +kernel)
set_option maxRecDepth 20000 in
theorem ggL_law_L_refuses_r11 : GoodIn wsL_law wsL_refuses_r11 := goodIn_r wsL_refuses_r11 [142, 143, 144, 145, 150, 151, 152, 153, 154, 312, 313, 314, 315, 316, 317, 318, 319, 320, 321, 322, 323, 324, 325, 326] (by decide +kernel) (by decide +kernel)
set_option maxRecDepth 20000 in
theorem ggL_law_L_refuses_r12 : GoodIn wsL_law wsL_refuses_r12 := goodIn_r wsL_refuses_r12 [327, 155, 156, 157, 158, 328, 329, 330, 331, 33, 332, 333, 334, 335, 336, 337, 338, 32, 339, 340, 84, 85, 86, 341] (by decide +kernel) (by decide +kernel)
set_option maxRecDepth 20000 in
theorem ggL_law_L_refuses_r13 : GoodIn wsL_law wsL_refuses_r13 := goodIn_r wsL_refuses_r13 [342, 343, 344, 345, 346, 347, 348, 349, 350, 351, 352, 87, 353, 354, 355, 356, 357, 358, 359, 360, 361, 362, 363, 364] (by decide +kernel) (by decide +kernel)
set_option maxRecDepth 20000 in
theorem ggL_law_L_refuses_r14 : GoodIn wsL_law wsL_refuses_r14 := goodIn_r wsL_refuses_r14 [365, 366, 367, 368, 369, 370, 29, 371, 372, 373, 374, 375, 376, 377, 28, 378, 79, 379, 380, 381, 382, 383, 384, 385] (by decide +kernel) (by decide +kernel)
