theorem gq_grades_0 : GoodIn wsL_law [.code yL_grades cL_grades 13 (some .boolean)] := goodIn_sub (fun w h => (List.mem_singleton.mp h).symm ▸ (List.mem_append_left _ (List.mem_append_left _ (List.mem_append_left _ (List.mem_append_left _ (List.mem_append_left _ (List.mem_append_left _ (List.mem_append_left _ (List.mem_append_left _ (List.mem_append_left _ (List.mem_append_left _ (List.mem_append_left _ (List.mem_append_right _ (List.mem_append_right _ (List.mem_append_right _ (List.mem_append_right _ (List.mem_append_right _ (List.mem_append_right _ (List.mem_append_right _ (List.mem_append_right _ (List.mem_append_right _ (List.mem_append_right _ (List.mem_append_right _ (List.mem_append_right _ (List.mem_append_right _ (List.mem_append_right _ (List.mem_append_right _ (List.mem_append_right _ (List.mem_append_right _ (List.mem_append_right _ (List.mem_append_right _ (List.mem_of_getElem? (l := wsL_law0_r20) (i := 13) rfl)))))))))))))))))))))))))))))))) (by decide +kernel)
set_option maxRecDepth 20000 in
theorem gq_grades_1 : GoodIn wsL_law wsL_grades_r1 := goodIn_r _ [57, 222, 3, 216, 217, 55, 218, 219, 220, 221, 58, 223, 224, 225, 226, 227, 228, 2, 229, 117, 118, 230, 231, 13] (by decide +kernel) (by decide +kernel)
set_option maxRecDepth 20000 in
theorem gq_grades_2 : GoodIn wsL_law wsL_grades_r2 := goodIn_r _ [232, 233, 234, 70, 71, 235, 236, 237, 12, 238, 31, 239, 240, 241, 242, 243, 244, 245, 30, 246, 247, 248, 249, 250] (by decide +kernel) (by decide +kernel)
set_option maxRecDepth 20000 in
theorem gq_grades_3 : GoodIn wsL_law wsL_grades_r3 := goodIn_r _ [251, 252, 253, 254, 255, 256, 257, 21, 10, 11, 258, 259, 260, 261, 262, 263, 264, 265, 266, 267, 268, 269, 77, 78] (by decide +kernel) (by decide +kernel)
set_option maxRecDepth 20000 in
theorem gq_grades_4 : GoodIn wsL_law wsL_grades_r4 := goodIn_r _ [79, 20, 80, 81, 26, 27, 28, 29, 8, 9, 270, 271, 272, 273, 274, 275, 99, 100, 101, 276, 277, 278, 279, 280] (by decide +kernel) (by decide +kernel)
set_option maxRecDepth 20000 in
theorem gq_grades_5 : GoodIn wsL_law wsL_grades_r5 := goodIn_r _ [281, 282, 42, 283, 284, 285, 286, 287, 288, 289, 290, 291, 292, 293, 294, 41, 295, 150, 147, 151, 296, 297, 298, 299] (by decide +kernel) (by decide +kernel)
set_option maxRecDepth 20000 in
theorem gq_grades_6 : GoodIn wsL_law wsL_grades_r6 := goodIn_r _ [300, 301, 302, 303, 304, 305, 306, 307, 308, 309, 310, 311, 312, 313, 314, 315, 316, 317, 318, 319, 146, 148, 320, 321] (by decide +kernel) (by decide +kernel)
set_option maxRecDepth 20000 in
theorem gq_grades_7 : GoodIn wsL_law wsL_grades_r7 := goodIn_r _ [322, 323, 66, 67, 68, 69, 72, 73, 74, 75, 76, 82, 83, 84, 85, 86, 87, 88, 89, 90, 91, 92, 93, 94] (by decide +kernel) (by decide +kernel)
set_option maxRecDepth 20000 in
theorem gq_grades_8 : GoodIn wsL_law wsL_grades_r8 := goodIn_r _ [95, 96, 97, 98, 324, 325, 326, 327, 22, 328, 329, 330, 331, 332, 333, 334, 335, 336, 337, 338, 339, 340, 341, 342] (by decide +kernel) (by decide +kernel)
set_option maxRecDepth 20000 in
theorem gq_grades_9 : GoodIn wsL_law wsL_grades_r9 := goodIn_r _ [343, 344, 345, 346, 347, 17, 106, 107, 108, 348, 349, 350, 16, 351, 36, 37, 109, 110, 111, 112, 102, 103, 104, 105] (by decide +kernel) (by decide +kernel)
set_option maxRecDepth 20000 in
theorem gq_grades_10 : GoodIn wsL_law wsL_grades_r10 := goodIn_r _ [352, 353, 354, 355, 23, 356, 357, 358, 359, 127, 360, 361, 362, 363, 364, 365, 366, 367, 368, 369, 370, 371, 372, 373] (by decide +kernel) (by decide +kernel)
set_option maxRecDepth 20000 in
theorem gq_grades_11 : GoodIn wsL_law wsL_grades_r11 := goodIn_r _ [374, 375, 376, 377, 142, 173, 174, 129, 180, 204, 198, 378, 379, 380, 381, 382, 144, 152, 383, 384, 385, 386, 387, 388] (by decide +kernel) (by decide +kernel)
set_option maxRecDepth 20000 in
theorem gq_grades_12 : GoodIn wsL_law wsL_grades_r12 := goodIn_r _ [389, 390, 391, 392, 393, 394, 395, 396, 397, 398, 399, 400, 401, 402, 113, 114, 115, 116, 119, 120, 121, 122, 123, 124] (by decide +kernel) (by decide +kernel)
set_option maxRecDepth 20000 in
theorem gq_grades_13 : GoodIn wsL_law wsL_grades_r13 := goodIn_r _ [125, 126, 128, 130, 131, 132, 133, 190, 191, 192, 193, 194, 195, 196, 197, 199, 200, 201, 202, 203, 205, 206, 207, 208] (by decide +kernel) (by decide +kernel)
set_option maxRecDepth 20000 in
theorem gq_grades_14 : GoodIn wsL_law wsL_grades_r14 := goodIn_r _ [209, 210, 211, 403, 404, 405, 406, 138, 25, 407, 408, 409, 410, 411, 412, 413, 164, 154, 155, 156, 157, 158, 159, 414] (by decide +kernel) (by decide +kernel)
set_option maxRecDepth 20000 in
theorem gq_grades_15 : GoodIn wsL_law wsL_grades_r15 := goodIn_r _ [415, 416, 417, 418, 419, 420, 421, 134, 135, 136, 137, 139, 140, 141, 143, 145, 149, 153, 160, 161, 162, 163, 422, 423] (by decide +kernel) (by decide +kernel)
set_option maxRecDepth 20000 in
theorem gq_grades_16 : GoodIn wsL_law wsL_grades_r16 := goodIn_r _ [424, 425, 426, 427, 428, 429, 430, 431, 432, 433, 434, 435, 436, 437, 438, 439, 440, 441, 442, 443, 444, 445, 446, 447] (by decide +kernel) (by decide +kernel)
set_option maxRecDepth 20000 in
theorem gq_grades_17 : GoodIn wsL_law wsL_grades_r17 := goodIn_r _ [448, 177, 178, 179, 165, 166, 167, 168, 169, 170, 171, 172, 175, 176, 181, 182, 183, 184, 185, 186, 187, 188, 189, 212] (by decide +kernel) (by decide +kernel)
set_option maxRecDepth 20000 in
theorem gq_grades_18 : GoodIn wsL_law wsL_grades_r18 := goodIn_r _ [213, 214, 215, 454, 455, 456, 460, 461, 462, 463] (by decide +kernel) (by decide +kernel)
theorem gq_grades_wsX50 : GoodIn wsL_law wsX50 := goodIn_r _ [473, 474, 475, 476, 477, 478] (by decide +kernel) (by decide +kernel)
theorem gq_grades_wsX40 : GoodIn wsL_law wsX40 := goodIn_r _ [479, 480] (by decide +kernel) (by decide +kernel)
theorem gq_grades_wsJx4a65c0 : GoodIn wsL_law wsJx4a65c0 := goodIn_r _ [483, 484, 485] (by decide +kernel) (by decide +kernel)
theorem gq_grades_wsX20 : GoodIn wsL_law wsX20 := goodIn_r _ [496, 497, 498] (by decide +kernel) (by decide +kernel)
theorem gq_grades_wsX10 : GoodIn wsL_law wsX10 := goodIn_r _ [481, 482] (by decide +kernel) (by decide +kernel)
theorem gq_grades_wsX30 : GoodIn wsL_law wsX30 := goodIn_r _ [486, 487, 488, 489, 490, 491, 492] (by decide +kernel) (by decide +kernel)
theorem gq_grades_wsX00 : GoodIn wsL_law wsX00 := goodIn_r _ [493, 494, 495] (by decide +kernel) (by decide +kernel)
set_option maxRecDepth 20000 in
theorem ggL_law_L_grades : GoodIn wsL_law wsL_grades := goodIn_ca (goodIn_ca (goodIn_ca (goodIn_cc gq_grades_0 (goodIn_app (goodIn_app (goodIn_app (goodIn_app (goodIn_app (goodIn_app (goodIn_app (goodIn_app gq_grades_1 (goodIn_app gq_grades_2 (goodIn_app gq_grades_3 (goodIn_app gq_grades_4 (goodIn_app gq_grades_5 (goodIn_app gq_grades_6 (goodIn_app gq_grades_7 (goodIn_app gq_grades_8 (goodIn_app gq_grades_9 (goodIn_app gq_grades_10 (goodIn_app gq_grades_11 (goodIn_app gq_grades_12 (goodIn_app gq_grades_13 (goodIn_app gq_grades_14 (goodIn_app gq_grades_15 (goodIn_app gq_grades_16 (goodIn_app gq_grades_17 gq_grades_18))))))))))))))))) gq_grades_wsX50) gq_grades_wsX40) gq_grades_wsJx4a65c0) gq_grades_wsX20) gq_grades_wsX10) gq_grades_wsX30) gq_grades_wsX00)) (goodIn_sub (fun _ h => List.mem_append_left _ (List.mem_append_right _ h)) (by decide +kernel))) (goodIn_sub (fun _ h => List.mem_append_right _ h) (by decide +kernel))) (goodIn_sub (fun _ h => List.mem_append_left _ (List.mem_append_left _ (List.mem_append_right _ h))) (by decide +kernel))
set_option maxRecDepth 20000 in
theorem gL_law_L_grades : GoodIn wsL_law (va_wsS RL 129 yL_grades wsL_grades) := goodIn_app (goodIn_of _ (by decide +kernel)) ggL_law_L_grades
