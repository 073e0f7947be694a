set_option maxRecDepth 20000 in
theorem ggL_searches_L_refuses_r5 : GoodIn wsL_searches wsL_refuses_r5 := goodIn_r wsL_refuses_r5 [129, 130, 131, 132, 133, 134, 135, 136, 137, 138, 139, 140, 141, 142, 143, 144, 145, 146, 147, 63, 55, 62, 150, 151] (by decide +kernel) (by decide +kernel)
set_option maxRecDepth 20000 in
theorem ggL_searches_L_refuses_r6 : GoodIn wsL_searches wsL_refuses_r6 := goodIn_r wsL_refuses_r6 [152, 16, 153, 46, 154, 155, 156, 157, 158, 159, 160, 161, 45, 47, 48, 49, 50, 162, 163, 164, 165, 166, 167, 168] (by decide +kernel) (by decide +kernel)
set_option maxRecDepth 20000 in
theorem ggL_searches_L_refuses_r7 : GoodIn wsL_searches wsL_refuses_r7 := goodIn_r wsL_refuses_r7 [169, 170, 171, 172, 173, 65, 66, 67, 68, 69, 70, 39, 40, 41, 174, 175, 176, 177, 178, 179, 180, 181, 182, 183] (by decide +kernel) (by decide +kernel)
set_option maxRecDepth 20000 in
theorem ggL_searches_L_refuses_r8 : GoodIn wsL_searches wsL_refuses_r8 := goodIn_r wsL_refuses_r8 [184, 185, 186, 187, 188, 189, 190, 191, 192, 193, 194, 195, 64, 196, 197, 198, 199, 200, 201, 202, 203, 204, 205, 206] (by decide +kernel) (by decide +kernel)
set_option maxRecDepth 20000 in
theorem ggL_searches_L_refuses_r9 : GoodIn wsL_searches wsL_refuses_r9 := goodIn_r wsL_refuses_r9 [207, 208, 209, 210, 215, 216, 217, 218, 238, 239, 240, 241, 242, 243, 244, 245, 246, 247, 248, 249, 250, 251, 252, 253] (by decide +kernel) (by decide +kernel)
set_option maxRecDepth 20000 in
theorem ggL_searches_L_refuses_r10 : GoodIn wsL_searches wsL_refuses_r10 := goodIn_r wsL_refuses_r10 [254, 255, 256, 257, 258, 259, 260, 261, 262, 263, 264, 265, 266, 267, 268, 269, 270, 271, 272, 273, 278, 279, 280, 281] (by decide +kernel) (by decide +kernel)
set_option maxRecDepth 20000 in
theorem ggL_searches_L_refuses_r11 : GoodIn wsL_searches wsL_refuses_r11 := goodIn_r wsL_refuses_r11 [282, 283, 284, 285, 286, 287, 288, 289, 290, 294, 295, 296, 297, 219, 220, 221, 222, 223, 224, 225, 226, 227, 228, 229] (by decide +kernel) (by decide +kernel)
set_option maxRecDepth 20000 in
theorem ggL_searches_L_refuses_r12 : GoodIn wsL_searches wsL_refuses_r12 := goodIn_r wsL_refuses_r12 [230, 298, 299, 300, 301, 302, 303, 304, 305, 30, 306, 307, 308, 309, 310, 311, 312, 29, 313, 314, 81, 82, 83, 315] (by decide +kernel) (by decide +kernel)
set_option maxRecDepth 20000 in
theorem ggL_searches_L_refuses_r13 : GoodIn wsL_searches wsL_refuses_r13 := goodIn_r wsL_refuses_r13 [316, 317, 318, 319, 320, 321, 322, 323, 324, 325, 326, 84, 327, 328, 329, 330, 331, 332, 333, 334, 335, 336, 337, 338] (by decide +kernel) (by decide +kernel)
set_option maxRecDepth 20000 in
theorem ggL_searches_L_refuses_r14 : GoodIn wsL_searches wsL_refuses_r14 := goodIn_r wsL_refuses_r14 [339, 340, 341, 342, 343, 344, 26, 345, 346, 347, 348, 349, 350, 351, 25, 352, 76, 353, 354, 355, 356, 358, 359, 360] (by decide +kernel) (by decide +kernel)
set_option maxRecDepth 20000 in
theorem ggL_searches_L_refuses_r15 : GoodIn wsL_searches wsL_refuses_r15 := goodIn_r wsL_refuses_r15 [361, 362, 363, 364, 365, 75, 366, 367, 368, 369, 370, 371, 372, 373, 374, 375, 376, 397, 398, 399, 400, 401, 402, 403] (by decide +kernel) (by decide +kernel)
set_option maxRecDepth 20000 in
theorem ggL_searches_L_refuses_r16 : GoodIn wsL_searches wsL_refuses_r16 := goodIn_r wsL_refuses_r16 [404, 405, 406, 407, 408, 409, 410, 411, 412, 413, 414, 415, 416, 417, 418, 419, 420, 421] (by decide +kernel) (by decide +kernel)
set_option maxRecDepth 20000 in
theorem ggL_searches_L_refuses_wsX50 : GoodIn wsL_searches wsX50 := goodIn_r wsX50 [425, 426, 427, 428, 429, 430] (by decide +kernel) (by decide +kernel)
set_option maxRecDepth 20000 in
theorem ggL_searches_L_refuses_wsX20 : GoodIn wsL_searches wsX20 := goodIn_r wsX20 [433, 434, 435, 436, 437, 438, 439] (by decide +kernel) (by decide +kernel)
set_option maxRecDepth 20000 in
theorem ggL_searches_L_refuses_wsX40 : GoodIn wsL_searches wsX40 := goodIn_r wsX40 [440, 441, 442, 443, 444, 445, 446, 447, 448, 449, 450] (by decide +kernel) (by decide +kernel)
set_option maxRecDepth 20000 in
theorem ggL_searches_L_refuses_wsX00 : GoodIn wsL_searches wsX00 := goodIn_r wsX00 [431, 432] (by decide +kernel) (by decide +kernel)
set_option maxRecDepth 20000 in
theorem ggL_searches_L_refuses_wsX10 : GoodIn wsL_searches wsX10 := goodIn_r wsX10 [453, 454, 455, 456, 457] (by decide +kernel) (by decide +kernel)
set_option maxRecDepth 20000 in
theorem ggL_searches_L_refuses_wsX30 : GoodIn wsL_searches wsX30 := goodIn_r wsX30 [451, 452] (by decide +kernel) (by decide +kernel)
set_option maxRecDepth 20000 in
theorem ggL_searches_L_refuses : GoodIn wsL_searches wsL_refuses := goodIn_ca (goodIn_ca (goodIn_ca (goodIn_cons (List.mem_of_getElem? (i := 379) rfl) rfl (goodIn_app (goodIn_app (goodIn_app (goodIn_app (goodIn_app (goodIn_app (goodIn_app ggL_searches_L_refuses_r1 (goodIn_app ggL_searches_L_refuses_r2 (goodIn_app ggL_searches_L_refuses_r3 (goodIn_app ggL_searches_L_refuses_r4 (goodIn_app ggL_searches_L_refuses_r5 (goodIn_app ggL_searches_L_refuses_r6 (goodIn_app ggL_searches_L_refuses_r7 (goodIn_app ggL_searches_L_refuses_r8 (goodIn_app ggL_searches_L_refuses_r9 (goodIn_app ggL_searches_L_refuses_r10 (goodIn_app ggL_searches_L_refuses_r11 (goodIn_app ggL_searches_L_refuses_r12 (goodIn_app ggL_searches_L_refuses_r13 (goodIn_app ggL_searches_L_refuses_r14 (goodIn_app ggL_searches_L_refuses_r15 ggL_searches_L_refuses_r16))))))))))))))) ggL_searches_L_refuses_wsX50) ggL_searches_L_refuses_wsX20) ggL_searches_L_refuses_wsX40) ggL_searches_L_refuses_wsX00) ggL_searches_L_refuses_wsX10) ggL_searches_L_refuses_wsX30)) (goodIn_sub (fun _ h => List.mem_cons_of_mem _ (List.mem_append_left _ (List.mem_append_right _ h))) (by decide +kernel))) (goodIn_sub (fun _ h => List.mem_cons_of_mem _ (List.mem_append_left _ (List.mem_append_left _ (List.mem_append_right _ h)))) (by decide +kernel))) (goodIn_sub (fun _ h => List.mem_cons_of_mem _ (List.mem_append_right _ h)) (by decide +kernel))
set_option maxRecDepth 20000 in
theorem gL_searches_L_refuses : GoodIn wsL_searches (va_wsS RL 116 yL_refuses wsL_refuses) := goodIn_app (goodIn_of _ (by decide +kernel)) ggL_searches_L_refuses
