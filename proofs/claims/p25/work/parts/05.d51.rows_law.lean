set_option maxRecDepth 20000 in
theorem ggL_law_L_masters_wsX20 : GoodIn wsL_law wsX20 := goodIn_r wsX20 [441, 442, 443, 444, 445, 446, 447] (by decide +kernel) (by decide +kernel)
set_option maxRecDepth 20000 in
theorem ggL_law_L_masters_wsX40 : GoodIn wsL_law wsX40 := goodIn_r wsX40 [448, 449, 450, 451, 452, 453, 454, 455, 456, 457, 458] (by decide +kernel) (by decide +kernel)
set_option maxRecDepth 20000 in
theorem ggL_law_L_masters_wsX30 : GoodIn wsL_law wsX30 := goodIn_r wsX30 [459, 460] (by decide +kernel) (by decide +kernel)
set_option maxRecDepth 20000 in
theorem ggL_law_L_masters_wsX10 : GoodIn wsL_law wsX10 := goodIn_r wsX10 [461, 462, 463, 464, 465] (by decide +kernel) (by decide +kernel)
set_option maxRecDepth 20000 in
theorem ggL_law_L_masters : GoodIn wsL_law wsL_masters := goodIn_ca (goodIn_ca (goodIn_ca (goodIn_cons (List.mem_of_getElem? (i := 6) rfl) rfl (goodIn_app (goodIn_app (goodIn_app (goodIn_app (goodIn_app (goodIn_app (goodIn_app ggL_law_L_masters_r1 (goodIn_app ggL_law_L_masters_r2 (goodIn_app ggL_law_L_masters_r3 (goodIn_app ggL_law_L_masters_r4 (goodIn_app ggL_law_L_masters_r5 (goodIn_app ggL_law_L_masters_r6 (goodIn_app ggL_law_L_masters_r7 (goodIn_app ggL_law_L_masters_r8 (goodIn_app ggL_law_L_masters_r9 (goodIn_app ggL_law_L_masters_r10 (goodIn_app ggL_law_L_masters_r11 (goodIn_app ggL_law_L_masters_r12 (goodIn_app ggL_law_L_masters_r13 (goodIn_app ggL_law_L_masters_r14 (goodIn_app ggL_law_L_masters_r15 (goodIn_app ggL_law_L_masters_r16 (goodIn_app ggL_law_L_masters_r17 ggL_law_L_masters_r18))))))))))))))))) ggL_law_L_masters_wsX50) ggL_law_L_masters_wsX00) ggL_law_L_masters_wsX20) ggL_law_L_masters_wsX40) ggL_law_L_masters_wsX30) ggL_law_L_masters_wsX10)) (goodIn_sub (fun _ h => List.mem_append_left _ (List.mem_append_left _ (List.mem_append_right _ h))) (by decide +kernel))) (goodIn_sub (fun _ h => List.mem_append_left _ (List.mem_append_right _ h)) (by decide +kernel))) (goodIn_sub (fun _ h => List.mem_append_right _ h) (by decide +kernel))
set_option maxRecDepth 20000 in
theorem gL_law_L_masters : GoodIn wsL_law (va_wsS RL 124 yL_masters wsL_masters) := goodIn_app (goodIn_of _ (by decide +kernel)) ggL_law_L_masters
set_option maxRecDepth 20000 in
theorem ggL_law_L_searches_r1 : GoodIn wsL_law wsL_searches_r1 := goodIn_r wsL_searches_r1 [0, 1, 2, 7, 8, 9, 10, 11, 12, 13, 14, 15, 16, 17, 18, 19, 20, 21, 22, 23, 24, 25, 26, 27] (by decide +kernel) (by decide +kernel)
set_option maxRecDepth 20000 in
theorem ggL_law_L_searches_r2 : GoodIn wsL_law wsL_searches_r2 := goodIn_r wsL_searches_r2 [28, 29, 30, 31, 32, 33, 34, 35, 36, 37, 38, 39, 40, 41, 42, 43, 44, 45, 46, 47, 48, 49, 50, 51] (by decide +kernel) (by decide +kernel)
set_option maxRecDepth 20000 in
theorem ggL_law_L_searches_r3 : GoodIn wsL_law wsL_searches_r3 := goodIn_r wsL_searches_r3 [52, 53, 54, 55, 56, 57, 58, 59, 60, 61, 62, 63, 64, 65, 66, 67, 68, 69, 70, 71, 72, 73, 74, 75] (by decide +kernel) (by decide +kernel)
set_option maxRecDepth 20000 in
theorem ggL_law_L_searches_r4 : GoodIn wsL_law wsL_searches_r4 := goodIn_r wsL_searches_r4 [76, 77, 78, 79, 80, 81, 82, 83, 84, 85, 86, 87, 175, 176, 5, 177, 178, 179, 180, 181, 182, 183, 184, 185] (by decide +kernel) (by decide +kernel)
set_option maxRecDepth 20000 in
theorem ggL_law_L_searches_r5 : GoodIn wsL_law wsL_searches_r5 := goodIn_r wsL_searches_r5 [186, 100, 101, 102, 103, 104, 159, 160, 161, 162, 163, 187, 188, 189, 190, 191, 192, 196, 197, 198, 199, 96, 97, 98] (by decide +kernel) (by decide +kernel)
set_option maxRecDepth 20000 in
theorem ggL_law_L_searches_r6 : GoodIn wsL_law wsL_searches_r6 := goodIn_r wsL_searches_r6 [99, 146, 147, 148, 138, 139, 140, 141, 200, 201, 202, 203, 204, 205, 206, 164, 165, 166, 167, 168, 169, 170, 207, 208] (by decide +kernel) (by decide +kernel)
set_option maxRecDepth 20000 in
theorem ggL_law_L_searches_r7 : GoodIn wsL_law wsL_searches_r7 := goodIn_r wsL_searches_r7 [209, 210, 211, 121, 122, 212, 213, 214, 215, 216, 217, 218, 219, 220, 221, 222, 223, 224, 225, 226, 227, 228, 229, 230] (by decide +kernel) (by decide +kernel)
set_option maxRecDepth 20000 in
theorem ggL_law_L_searches_r8 : GoodIn wsL_law wsL_searches_r8 := goodIn_r wsL_searches_r8 [231, 232, 233, 234, 235, 236, 237, 238, 239, 240, 241, 242, 243, 244, 245, 246, 247, 248, 249, 250, 251, 252, 253, 254] (by decide +kernel) (by decide +kernel)
set_option maxRecDepth 20000 in
theorem ggL_law_L_searches_r9 : GoodIn wsL_law wsL_searches_r9 := goodIn_r wsL_searches_r9 [255, 256, 257, 258, 259, 260, 261, 262, 263, 264, 265, 266, 267, 268, 269, 270, 271, 272, 123, 124, 125, 126, 273, 274] (by decide +kernel) (by decide +kernel)
set_option maxRecDepth 20000 in
theorem ggL_law_L_searches_r10 : GoodIn wsL_law wsL_searches_r10 := goodIn_r wsL_searches_r10 [275, 276, 316, 317, 318, 319, 320, 321, 322, 323, 324, 325, 326, 327, 117, 118, 119, 120, 193, 194, 195, 277, 278, 279] (by decide +kernel) (by decide +kernel)
set_option maxRecDepth 20000 in
theorem ggL_law_L_searches_r11 : GoodIn wsL_law wsL_searches_r11 := goodIn_r wsL_searches_r11 [280, 281, 282, 283, 284, 285, 286, 287, 288, 289, 290, 149, 291, 292, 293, 294, 295, 296, 297, 298, 299, 300, 301, 302] (by decide +kernel) (by decide +kernel)
set_option maxRecDepth 20000 in
theorem ggL_law_L_searches_r12 : GoodIn wsL_law wsL_searches_r12 := goodIn_r wsL_searches_r12 [303, 304, 305, 306, 307, 308, 309, 310, 311, 92, 93, 94, 95, 134, 135, 136, 137, 142, 143, 144, 145, 150, 151, 152] (by decide +kernel) (by decide +kernel)
set_option maxRecDepth 20000 in
theorem ggL_law_L_searches_r13 : GoodIn wsL_law wsL_searches_r13 := goodIn_r wsL_searches_r13 [153, 154, 128, 129, 130, 312, 313, 314, 315, 155, 156, 157, 158, 328, 329, 330, 331, 332, 333, 334, 335, 336, 337, 338] (by decide +kernel) (by decide +kernel)
set_option maxRecDepth 20000 in
theorem ggL_law_L_searches_r14 : GoodIn wsL_law wsL_searches_r14 := goodIn_r wsL_searches_r14 [339, 340, 341, 342, 343, 344, 345, 346, 347, 348, 349, 350, 351, 352, 353, 354, 355, 356, 357, 358, 359, 360, 361, 362] (by decide +kernel) (by decide +kernel)
