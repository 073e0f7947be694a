set_option maxRecDepth 20000 in
theorem ggL_law_L_masters_r1 : GoodIn wsL_law wsL_masters_r1 := goodIn_r wsL_masters_r1 [0, 1, 2, 7, 8, 9, 10, 11, 12, 13, 14, 15, 16, 17, 18, 19, 20, 21, 22, 23, 24, 25, 26, 27] (by decide +kernel) (by decide +kernel)
set_option maxRecDepth 20000 in
theorem ggL_law_L_masters_r2 : GoodIn wsL_law wsL_masters_r2 := goodIn_r wsL_masters_r2 [28, 29, 30, 31, 32, 33, 34, 35, 36, 37, 38, 39, 40, 41, 42, 43, 44, 45, 46, 47, 48, 49, 50, 51] (by decide +kernel) (by decide +kernel)
set_option maxRecDepth 20000 in
theorem ggL_law_L_masters_r3 : GoodIn wsL_law wsL_masters_r3 := goodIn_r wsL_masters_r3 [52, 53, 54, 55, 56, 57, 58, 59, 60, 61, 62, 63, 64, 65, 66, 67, 68, 69, 70, 71, 72, 73, 74, 75] (by decide +kernel) (by decide +kernel)
set_option maxRecDepth 20000 in
theorem ggL_law_L_masters_r4 : GoodIn wsL_law wsL_masters_r4 := goodIn_r wsL_masters_r4 [76, 77, 78, 79, 80, 81, 82, 83, 84, 85, 86, 87, 88, 89, 90, 91, 92, 93, 94, 95, 96, 97, 98, 99] (by decide +kernel) (by decide +kernel)
set_option maxRecDepth 20000 in
theorem ggL_law_L_masters_r5 : GoodIn wsL_law wsL_masters_r5 := goodIn_r wsL_masters_r5 [100, 101, 102, 103, 104, 105, 106, 107, 108, 109, 110, 111, 112, 113, 114, 115, 116, 117, 118, 119, 120, 121, 122, 123] (by decide +kernel) (by decide +kernel)
set_option maxRecDepth 20000 in
theorem ggL_law_L_masters_r6 : GoodIn wsL_law wsL_masters_r6 := goodIn_r wsL_masters_r6 [124, 125, 126, 127, 128, 129, 130, 131, 132, 5, 133, 134, 135, 136, 137, 138, 139, 140, 141, 142, 143, 144, 145, 146] (by decide +kernel) (by decide +kernel)
set_option maxRecDepth 20000 in
theorem ggL_law_L_masters_r7 : GoodIn wsL_law wsL_masters_r7 := goodIn_r wsL_masters_r7 [147, 148, 149, 150, 151, 152, 153, 154, 155, 156, 157, 158, 159, 160, 161, 162, 163, 164, 165, 166, 167, 168, 169, 170] (by decide +kernel) (by decide +kernel)
set_option maxRecDepth 20000 in
theorem ggL_law_L_masters_r8 : GoodIn wsL_law wsL_masters_r8 := (goodIn_cons (List.mem_of_getElem? (i := 171) (by decide +kernel)) (by decide +kernel) (goodIn_cons (List.mem_of_getElem? (i := 172) (by decide +kernel)) (by decide +kernel) (goodIn_cons (List.mem_of_getElem? (i := 173) rfl) rfl (goodIn_cons (List.mem_of_getElem? (i := 174) (by decide +kernel)) (by decide +kernel) (goodIn_cons (List.mem_of_getElem? (i := 175) (by decide +kernel)) (by decide +kernel) (goodIn_cons (List.mem_of_getElem? (i := 176) (by decide +kernel)) (by decide +kernel) (goodIn_cons (List.mem_of_getElem? (i := 177) (by decide +kernel)) (by decide +kernel) (goodIn_cons (List.mem_of_getElem? (i := 178) (by decide +kernel)) (by decide +kernel) (goodIn_cons (List.mem_of_getElem? (i := 179) (by decide +kernel)) (by decide +kernel) (goodIn_cons (List.mem_of_getElem? (i := 180) (by decide +kernel)) (by decide +kernel) (goodIn_cons (List.mem_of_getElem? (i := 181) (by decide +kernel)) (by decide +kernel) (goodIn_cons (List.mem_of_getElem? (i := 182) (by decide +kernel)) (by decide +kernel) (goodIn_cons (List.mem_of_getElem? (i := 183) (by decide +kernel)) (by decide +kernel) (goodIn_cons (List.mem_of_getElem? (i := 184) (by decide +kernel)) (by decide +kernel) (goodIn_cons (List.mem_of_getElem? (i := 185) (by decide +kernel)) (by decide +kernel) (goodIn_cons (List.mem_of_getElem? (i := 186) (by decide +kernel)) (by decide +kernel) (goodIn_cons (List.mem_of_getElem? (i := 187) (by decide +kernel)) (by decide +kernel) (goodIn_cons (List.mem_of_getElem? (i := 188) (by decide +kernel)) (by decide +kernel) (goodIn_cons (List.mem_of_getElem? (i := 189) (by decide +kernel)) (by decide +kernel) (goodIn_cons (List.mem_of_getElem? (i := 190) (by decide +kernel)) (by decide +kernel) (goodIn_cons (List.mem_of_getElem? (i := 191) (by decide +kernel)) (by decide +kernel) (goodIn_cons (List.mem_of_getElem? (i := 192) (by decide +kernel)) (by decide +kernel) (goodIn_cons (List.mem_of_getElem? (i := 193) (by decide +kernel)) (by decide +kernel) (goodIn_cons (List.mem_of_getElem? (i := 194) (by decide +kernel)) (by decide +kernel) goodIn_nil))))))))))))))))))))))))
set_option maxRecDepth 20000 in
theorem ggL_law_L_masters_r9 : GoodIn wsL_law wsL_masters_r9 := goodIn_r wsL_masters_r9 [195, 196, 197, 198, 199, 200, 201, 202, 203, 204, 205, 206, 207, 208, 209, 210, 211, 212, 213, 214, 215, 216, 217, 218] (by decide +kernel) (by decide +kernel)
set_option maxRecDepth 20000 in
theorem ggL_law_L_masters_r10 : GoodIn wsL_law wsL_masters_r10 := goodIn_r wsL_masters_r10 [219, 220, 221, 222, 223, 224, 225, 226, 227, 228, 229, 230, 231, 232, 233, 234, 235, 236, 237, 238, 239, 240, 241, 242] (by decide +kernel) (by decide +kernel)
set_option maxRecDepth 20000 in
theorem ggL_law_L_masters_r11 : GoodIn wsL_law wsL_masters_r11 := goodIn_r wsL_masters_r11 [243, 244, 245, 246, 247, 248, 249, 250, 251, 252, 253, 254, 255, 256, 257, 258, 259, 260, 261, 262, 263, 264, 265, 266] (by decide +kernel) (by decide +kernel)
set_option maxRecDepth 20000 in
theorem ggL_law_L_masters_r12 : GoodIn wsL_law wsL_masters_r12 := goodIn_r wsL_masters_r12 [267, 268, 269, 270, 271, 272, 273, 274, 275, 276, 277, 278, 279, 280, 281, 282, 283, 284, 285, 286, 287, 288, 289, 290] (by decide +kernel) (by decide +kernel)
set_option maxRecDepth 20000 in
theorem ggL_law_L_masters_r13 : GoodIn wsL_law wsL_masters_r13 := goodIn_r wsL_masters_r13 [291, 292, 293, 294, 295, 296, 297, 298, 299, 300, 301, 302, 303, 304, 305, 306, 307, 308, 309, 310, 311, 312, 313, 314] (by decide +kernel) (by decide +kernel)
set_option maxRecDepth 20000 in
theorem ggL_law_L_masters_r14 : GoodIn wsL_law wsL_masters_r14 := goodIn_r wsL_masters_r14 [315, 316, 317, 318, 319, 320, 321, 322, 323, 324, 325, 326, 327, 328, 329, 330, 331, 332, 333, 334, 335, 336, 337, 338] (by decide +kernel) (by decide +kernel)
set_option maxRecDepth 20000 in
theorem ggL_law_L_masters_r15 : GoodIn wsL_law wsL_masters_r15 := goodIn_r wsL_masters_r15 [339, 340, 341, 342, 343, 344, 345, 346, 347, 348, 349, 350, 351, 352, 353, 354, 355, 356, 357, 358, 359, 360, 361, 362] (by decide +kernel) (by decide +kernel)
set_option maxRecDepth 20000 in
theorem ggL_law_L_masters_r16 : GoodIn wsL_law wsL_masters_r16 := goodIn_r wsL_masters_r16 [363, 364, 365, 366, 367, 368, 369, 370, 371, 372, 373, 374, 375, 376, 377, 378, 379, 380, 381, 382, 383, 384, 385, 386] (by decide +kernel) (by decide +kernel)
set_option maxRecDepth 20000 in
theorem ggL_law_L_masters_r17 : GoodIn wsL_law wsL_masters_r17 := goodIn_r wsL_masters_r17 [387, 388, 389, 390, 391, 392, 393, 394, 395, 396, 397, 398, 399, 400, 401, 402, 403, 404, 405, 406, 407, 408, 409, 410] (by decide +kernel) (by decide +kernel)
set_option maxRecDepth 20000 in
theorem ggL_law_L_masters_r18 : GoodIn wsL_law wsL_masters_r18 := goodIn_r wsL_masters_r18 [411, 412, 413, 414, 415, 416, 417, 418, 419, 420, 421, 422, 423, 424, 425, 426] (by decide +kernel) (by decide +kernel)
set_option maxRecDepth 20000 in
theorem ggL_law_L_masters_wsX50 : GoodIn wsL_law wsX50 := goodIn_r wsX50 [433, 434, 435, 436, 437, 438] (by decide +kernel) (by decide +kernel)
set_option maxRecDepth 20000 in
theorem ggL_law_L_masters_wsX00 : GoodIn wsL_law wsX00 := goodIn_r wsX00 [439, 440] (by decide +kernel) (by decide +kernel)
