set_option maxRecDepth 20000 in
theorem ggL_masters_L_refuses_r7 : GoodIn wsL_masters wsL_refuses_r7 := goodIn_r wsL_refuses_r7 [229, 230, 231, 232, 233, 65, 66, 67, 68, 69, 70, 39, 40, 41, 234, 235, 236, 237, 238, 239, 240, 241, 242, 243] (by decide +kernel) (by decide +kernel)
set_option maxRecDepth 20000 in
theorem ggL_masters_L_refuses_r8 : GoodIn wsL_masters wsL_refuses_r8 := goodIn_r wsL_refuses_r8 [244, 245, 246, 247, 248, 249, 250, 251, 252, 253, 254, 255, 64, 256, 257, 258, 259, 260, 261, 262, 263, 264, 265, 266] (by decide +kernel) (by decide +kernel)
set_option maxRecDepth 20000 in
theorem ggL_masters_L_refuses_r9 : GoodIn wsL_masters wsL_refuses_r9 := goodIn_r wsL_refuses_r9 [267, 268, 269, 270, 271, 272, 273, 274, 275, 276, 277, 278, 279, 280, 281, 282, 283, 284, 285, 286, 287, 288, 147, 289] (by decide +kernel) (by decide +kernel)
set_option maxRecDepth 20000 in
theorem ggL_masters_L_refuses_r10 : GoodIn wsL_masters wsL_refuses_r10 := goodIn_r wsL_refuses_r10 [290, 291, 292, 293, 294, 295, 296, 297, 298, 299, 300, 301, 302, 303, 304, 305, 306, 307, 308, 309, 132, 133, 134, 135] (by decide +kernel) (by decide +kernel)
set_option maxRecDepth 20000 in
theorem ggL_masters_L_refuses_r11 : GoodIn wsL_masters wsL_refuses_r11 := goodIn_r wsL_refuses_r11 [140, 141, 142, 143, 148, 149, 150, 151, 152, 310, 311, 312, 313, 314, 315, 316, 317, 318, 319, 320, 321, 322, 323, 324] (by decide +kernel) (by decide +kernel)
set_option maxRecDepth 20000 in
theorem ggL_masters_L_refuses_r12 : GoodIn wsL_masters wsL_refuses_r12 := goodIn_r wsL_refuses_r12 [325, 153, 154, 155, 156, 326, 327, 328, 329, 30, 330, 331, 332, 333, 334, 335, 336, 29, 337, 338, 81, 82, 83, 339] (by decide +kernel) (by decide +kernel)
set_option maxRecDepth 20000 in
theorem ggL_masters_L_refuses_r13 : GoodIn wsL_masters wsL_refuses_r13 := goodIn_r wsL_refuses_r13 [340, 341, 342, 343, 344, 345, 346, 347, 348, 349, 350, 84, 351, 352, 353, 354, 355, 356, 357, 358, 359, 360, 361, 362] (by decide +kernel) (by decide +kernel)
set_option maxRecDepth 20000 in
theorem ggL_masters_L_refuses_r14 : GoodIn wsL_masters wsL_refuses_r14 := goodIn_r wsL_refuses_r14 [363, 364, 365, 366, 367, 368, 26, 369, 370, 371, 372, 373, 374, 375, 25, 376, 76, 377, 378, 379, 380, 381, 382, 383] (by decide +kernel) (by decide +kernel)
set_option maxRecDepth 20000 in
theorem ggL_masters_L_refuses_r15 : GoodIn wsL_masters wsL_refuses_r15 := goodIn_r wsL_refuses_r15 [384, 385, 386, 387, 388, 75, 389, 390, 391, 392, 393, 394, 395, 396, 397, 398, 399, 400, 401, 402, 403, 404, 405, 406] (by decide +kernel) (by decide +kernel)
set_option maxRecDepth 20000 in
theorem ggL_masters_L_refuses_r16 : GoodIn wsL_masters wsL_refuses_r16 := goodIn_r wsL_refuses_r16 [407, 408, 409, 410, 411, 412, 413, 414, 415, 416, 417, 418, 419, 420, 421, 422, 423, 424] (by decide +kernel) (by decide +kernel)
set_option maxRecDepth 20000 in
theorem ggL_masters_L_refuses_wsX50 : GoodIn wsL_masters wsX50 := goodIn_r wsX50 [425, 426, 427, 428, 429, 430] (by decide +kernel) (by decide +kernel)
set_option maxRecDepth 20000 in
theorem ggL_masters_L_refuses_wsX20 : GoodIn wsL_masters wsX20 := goodIn_r wsX20 [433, 434, 435, 436, 437, 438, 439] (by decide +kernel) (by decide +kernel)
set_option maxRecDepth 20000 in
theorem ggL_masters_L_refuses_wsX40 : GoodIn wsL_masters wsX40 := goodIn_r wsX40 [440, 441, 442, 443, 444, 445, 446, 447, 448, 449, 450] (by decide +kernel) (by decide +kernel)
set_option maxRecDepth 20000 in
theorem ggL_masters_L_refuses_wsX00 : GoodIn wsL_masters wsX00 := goodIn_r wsX00 [431, 432] (by decide +kernel) (by decide +kernel)
set_option maxRecDepth 20000 in
theorem ggL_masters_L_refuses_wsX10 : GoodIn wsL_masters wsX10 := goodIn_r wsX10 [453, 454, 455, 456, 457] (by decide +kernel) (by decide +kernel)
set_option maxRecDepth 20000 in
theorem ggL_masters_L_refuses_wsX30 : GoodIn wsL_masters wsX30 := goodIn_r wsX30 [451, 452] (by decide +kernel) (by decide +kernel)
set_option maxRecDepth 20000 in
theorem ggL_masters_L_refuses : GoodIn wsL_masters wsL_refuses := goodIn_ca (goodIn_ca (goodIn_ca (goodIn_cons (List.mem_of_getElem? (i := 171) rfl) rfl (goodIn_app (goodIn_app (goodIn_app (goodIn_app (goodIn_app (goodIn_app (goodIn_app ggL_masters_L_refuses_r1 (goodIn_app ggL_masters_L_refuses_r2 (goodIn_app ggL_masters_L_refuses_r3 (goodIn_app ggL_masters_L_refuses_r4 (goodIn_app ggL_masters_L_refuses_r5 (goodIn_app ggL_masters_L_refuses_r6 (goodIn_app ggL_masters_L_refuses_r7 (goodIn_app ggL_masters_L_refuses_r8 (goodIn_app ggL_masters_L_refuses_r9 (goodIn_app ggL_masters_L_refuses_r10 (goodIn_app ggL_masters_L_refuses_r11 (goodIn_app ggL_masters_L_refuses_r12 (goodIn_app ggL_masters_L_refuses_r13 (goodIn_app ggL_masters_L_refuses_r14 (goodIn_app ggL_masters_L_refuses_r15 ggL_masters_L_refuses_r16))))))))))))))) ggL_masters_L_refuses_wsX50) ggL_masters_L_refuses_wsX20) ggL_masters_L_refuses_wsX40) ggL_masters_L_refuses_wsX00) ggL_masters_L_refuses_wsX10) ggL_masters_L_refuses_wsX30)) (goodIn_sub (fun _ h => List.mem_cons_of_mem _ (List.mem_append_left _ (List.mem_append_left _ (List.mem_append_right _ h)))) (by decide +kernel))) (goodIn_sub (fun _ h => List.mem_cons_of_mem _ (List.mem_append_right _ h)) (by decide +kernel))) (goodIn_sub (fun _ h => List.mem_cons_of_mem _ (List.mem_append_left _ (List.mem_append_right _ h))) (by decide +kernel))
set_option maxRecDepth 20000 in
theorem gL_masters_L_refuses : GoodIn wsL_masters (va_wsS RL 116 yL_refuses wsL_refuses) := goodIn_app (goodIn_of _ (by decide +kernel)) ggL_masters_L_refuses
set_option maxRecDepth 20000 in
theorem ggL_masters_X5_add : GoodIn wsL_masters wsX5_add := goodIn_ca (goodIn_ca (goodIn_ca (goodIn_r _ [197, 17, 93, 94, 95, 3, 96, 21, 22, 97, 98, 99, 100, 101, 144, 145, 146, 136, 137, 138, 20, 139, 57, 157, 158, 159, 160, 161, 198, 199, 200, 201, 183, 184, 202, 203, 204, 162, 163, 164, 165, 58, 59, 166, 167, 168, 205, 206, 207, 208, 209, 63, 55, 62, 118, 119, 210, 211, 212, 16, 213, 46, 214, 215, 216, 217, 218, 219, 220, 221, 45, 47, 48, 49, 50, 189, 190, 222, 223, 224, 225, 226, 227, 228, 229, 230, 231, 232, 233, 65, 66, 67, 68, 60, 61, 69, 70, 39, 40, 41, 234, 235, 236, 237, 238, 239, 240, 241, 242, 243, 244, 245, 246, 247, 248, 249, 250, 251, 252, 253, 254, 255, 64, 256, 257, 258, 12, 259, 37, 260, 261, 262, 263, 264, 265, 266, 267, 268, 269, 270, 120, 121, 122, 123, 271, 272, 273, 274, 425, 426, 427, 428, 429, 430, 433, 434, 435, 436, 437, 438, 439, 440, 441, 442, 443, 444, 445, 446, 447, 448, 449, 450, 431, 432] (by decide +kernel) (by decide +kernel)) (goodIn_sub (fun _ h => List.mem_cons_of_mem _ (List.mem_append_left _ (List.mem_append_left _ (List.mem_append_right _ h)))) (by decide +kernel))) (goodIn_sub (fun _ h => List.mem_cons_of_mem _ (List.mem_append_left _ (List.mem_append_right _ h))) (by decide +kernel))) (goodIn_sub (fun _ h => List.mem_cons_of_mem _ (List.mem_append_right _ h)) (by decide +kernel))
set_option maxRecDepth 20000 in
theorem gL_masters_X5_add : GoodIn wsL_masters (wsV RL 26 RX5 yX5_add wsX5_add) := goodIn_app (goodIn_of _ (by decide +kernel)) ggL_masters_X5_add
