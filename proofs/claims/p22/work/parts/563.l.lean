theorem gq_strokes_0 : GoodIn wsL_law [.code yL_strokes cL_strokes 8 (some .boolean)] := goodIn_sub (fun w h => (List.mem_singleton.mp h).symm ▸ (List.mem_append_left _ (List.mem_append_left _ (List.mem_append_left _ (List.mem_append_left _ (List.mem_append_left _ (List.mem_append_left _ (List.mem_append_left _ (List.mem_append_left _ (List.mem_append_left _ (List.mem_append_left _ (List.mem_append_left _ (List.mem_append_right _ (List.mem_append_right _ (List.mem_append_right _ (List.mem_append_right _ (List.mem_append_right _ (List.mem_append_right _ (List.mem_append_right _ (List.mem_append_right _ (List.mem_append_right _ (List.mem_append_right _ (List.mem_append_right _ (List.mem_append_right _ (List.mem_append_right _ (List.mem_append_right _ (List.mem_append_right _ (List.mem_append_right _ (List.mem_append_right _ (List.mem_append_right _ (List.mem_append_right _ (List.mem_of_getElem? (l := wsL_law0_r20) (i := 3) rfl)))))))))))))))))))))))))))))))) (by decide +kernel)
set_option maxRecDepth 20000 in
theorem gq_strokes_1 : GoodIn wsL_law wsL_strokes_r1 := goodIn_r _ [58, 222, 454, 455, 55, 456, 66, 67, 68, 2, 69, 70, 71, 72, 73, 74, 75, 21, 76, 77, 78, 79, 20, 80] (by decide +kernel) (by decide +kernel)
set_option maxRecDepth 20000 in
theorem gq_strokes_2 : GoodIn wsL_law wsL_strokes_r2 := goodIn_r _ [81, 82, 83, 84, 85, 86, 87, 88, 89, 90, 91, 92, 93, 94, 95, 96, 97, 42, 98, 99, 100, 12, 101, 31] (by decide +kernel) (by decide +kernel)
set_option maxRecDepth 20000 in
theorem gq_strokes_3 : GoodIn wsL_law wsL_strokes_r3 := goodIn_r _ [30, 460, 461, 462, 463, 216, 217, 218, 219, 220, 221, 57, 223, 224, 225, 226, 227, 228, 229, 117, 118, 230, 231, 13] (by decide +kernel) (by decide +kernel)
set_option maxRecDepth 20000 in
theorem gq_strokes_4 : GoodIn wsL_law wsL_strokes_r4 := goodIn_r _ [232, 233, 234, 235, 236, 237, 238, 239, 240, 241, 242, 243, 244, 245, 246, 247, 248, 249, 250, 251, 252, 253, 254, 255] (by decide +kernel) (by decide +kernel)
set_option maxRecDepth 20000 in
theorem gq_strokes_5 : GoodIn wsL_law wsL_strokes_r5 := goodIn_r _ [256, 257, 10, 11, 258, 259, 260, 261, 262, 263, 264, 265, 266, 267, 268, 269, 26, 27, 28, 29, 8, 9, 3, 270] (by decide +kernel) (by decide +kernel)
set_option maxRecDepth 20000 in
theorem gq_strokes_6 : GoodIn wsL_law wsL_strokes_r6 := goodIn_r _ [271, 272, 273, 274, 275, 276, 277, 278, 279, 280, 281, 282, 283, 284, 285, 286, 287, 288, 289, 290, 291, 292, 293, 294] (by decide +kernel) (by decide +kernel)
set_option maxRecDepth 20000 in
theorem gq_strokes_7 : GoodIn wsL_law wsL_strokes_r7 := goodIn_r _ [41, 295, 150, 147, 151, 296, 297, 298, 299, 300, 301, 302, 303, 304, 305, 306, 307, 308, 309, 310, 311, 312, 313, 314] (by decide +kernel) (by decide +kernel)
set_option maxRecDepth 20000 in
theorem gq_strokes_8 : GoodIn wsL_law wsL_strokes_r8 := goodIn_r _ [315, 316, 317, 318, 319, 146, 148, 320, 321, 322, 323, 324, 325, 326, 327, 22, 328, 329, 330, 331, 332, 333, 334, 335] (by decide +kernel) (by decide +kernel)
set_option maxRecDepth 20000 in
theorem gq_strokes_9 : GoodIn wsL_law wsL_strokes_r9 := goodIn_r _ [336, 337, 338, 339, 340, 341, 342, 343, 344, 345, 346, 347, 17, 106, 107, 108, 348, 349, 350, 16, 351, 36, 37, 109] (by decide +kernel) (by decide +kernel)
set_option maxRecDepth 20000 in
theorem gq_strokes_10 : GoodIn wsL_law wsL_strokes_r10 := goodIn_r _ [110, 111, 112, 102, 103, 104, 105, 352, 353, 354, 355, 23, 356, 357, 358, 359, 127, 360, 361, 362, 363, 364, 365, 366] (by decide +kernel) (by decide +kernel)
set_option maxRecDepth 20000 in
theorem gq_strokes_11 : GoodIn wsL_law wsL_strokes_r11 := goodIn_r _ [367, 368, 369, 370, 371, 372, 373, 374, 375, 376, 377, 142, 173, 174, 129, 180, 204, 198, 378, 379, 380, 381, 382, 144] (by decide +kernel) (by decide +kernel)
set_option maxRecDepth 20000 in
theorem gq_strokes_12 : GoodIn wsL_law wsL_strokes_r12 := goodIn_r _ [152, 383, 384, 385, 386, 387, 388, 389, 390, 391, 392, 393, 394, 395, 396, 397, 398, 399, 400, 401, 402, 113, 114, 115] (by decide +kernel) (by decide +kernel)
set_option maxRecDepth 20000 in
theorem gq_strokes_13 : GoodIn wsL_law wsL_strokes_r13 := goodIn_r _ [116, 119, 120, 121, 122, 123, 124, 125, 126, 128, 130, 131, 132, 133, 190, 191, 192, 193, 194, 195, 196, 197, 199, 200] (by decide +kernel) (by decide +kernel)
set_option maxRecDepth 20000 in
theorem gq_strokes_14 : GoodIn wsL_law wsL_strokes_r14 := goodIn_r _ [201, 202, 203, 205, 206, 207, 208, 209, 210, 211, 403, 404, 405, 406, 138, 25, 407, 408, 409, 410, 411, 412, 413, 164] (by decide +kernel) (by decide +kernel)
set_option maxRecDepth 20000 in
theorem gq_strokes_15 : GoodIn wsL_law wsL_strokes_r15 := goodIn_r _ [154, 155, 156, 157, 158, 159, 414, 415, 416, 417, 418, 419, 420, 421, 134, 135, 136, 137, 139, 140, 141, 143, 145, 149] (by decide +kernel) (by decide +kernel)
set_option maxRecDepth 20000 in
theorem gq_strokes_16 : GoodIn wsL_law wsL_strokes_r16 := goodIn_r _ [153, 160, 161, 162, 163, 422, 423, 424, 425, 426, 427, 428, 429, 430, 431, 432, 433, 434, 435, 436, 437, 438, 439, 440] (by decide +kernel) (by decide +kernel)
set_option maxRecDepth 20000 in
theorem gq_strokes_17 : GoodIn wsL_law wsL_strokes_r17 := goodIn_r _ [441, 442, 443, 444, 445, 446, 447, 448, 177, 178, 179, 165, 166, 167, 168, 169, 170, 171, 172, 175, 176, 181, 182, 183] (by decide +kernel) (by decide +kernel)
set_option maxRecDepth 20000 in
theorem gq_strokes_18 : GoodIn wsL_law wsL_strokes_r18 := goodIn_r _ [184, 185, 186, 187, 188, 189, 212, 213, 214, 215] (by decide +kernel) (by decide +kernel)
theorem gq_strokes_wsX50 : GoodIn wsL_law wsX50 := goodIn_r _ [473, 474, 475, 476, 477, 478] (by decide +kernel) (by decide +kernel)
theorem gq_strokes_wsJx4a65c0 : GoodIn wsL_law wsJx4a65c0 := goodIn_r _ [483, 484, 485] (by decide +kernel) (by decide +kernel)
theorem gq_strokes_wsX40 : GoodIn wsL_law wsX40 := goodIn_r _ [479, 480] (by decide +kernel) (by decide +kernel)
theorem gq_strokes_wsX20 : GoodIn wsL_law wsX20 := goodIn_r _ [496, 497, 498] (by decide +kernel) (by decide +kernel)
theorem gq_strokes_wsX10 : GoodIn wsL_law wsX10 := goodIn_r _ [481, 482] (by decide +kernel) (by decide +kernel)
theorem gq_strokes_wsX30 : GoodIn wsL_law wsX30 := goodIn_r _ [486, 487, 488, 489, 490, 491, 492] (by decide +kernel) (by decide +kernel)
theorem gq_strokes_wsX00 : GoodIn wsL_law wsX00 := goodIn_r _ [493, 494, 495] (by decide +kernel) (by decide +kernel)
set_option maxRecDepth 20000 in
theorem ggL_law_L_strokes : GoodIn wsL_law wsL_strokes := goodIn_ca (goodIn_ca (goodIn_ca (goodIn_cc gq_strokes_0 (goodIn_app (goodIn_app (goodIn_app (goodIn_app (goodIn_app (goodIn_app (goodIn_app (goodIn_app gq_strokes_1 (goodIn_app gq_strokes_2 (goodIn_app gq_strokes_3 (goodIn_app gq_strokes_4 (goodIn_app gq_strokes_5 (goodIn_app gq_strokes_6 (goodIn_app gq_strokes_7 (goodIn_app gq_strokes_8 (goodIn_app gq_strokes_9 (goodIn_app gq_strokes_10 (goodIn_app gq_strokes_11 (goodIn_app gq_strokes_12 (goodIn_app gq_strokes_13 (goodIn_app gq_strokes_14 (goodIn_app gq_strokes_15 (goodIn_app gq_strokes_16 (goodIn_app gq_strokes_17 gq_strokes_18))))))))))))))))) gq_strokes_wsX50) gq_strokes_wsJx4a65c0) gq_strokes_wsX40) gq_strokes_wsX20) gq_strokes_wsX10) gq_strokes_wsX30) gq_strokes_wsX00)) (goodIn_sub (fun _ h => List.mem_append_left _ (List.mem_append_left _ (List.mem_append_right _ h))) (by decide +kernel))) (goodIn_sub (fun _ h => List.mem_append_left _ (List.mem_append_right _ h)) (by decide +kernel))) (goodIn_sub (fun _ h => List.mem_append_right _ h) (by decide +kernel))
set_option maxRecDepth 20000 in
theorem gL_law_L_strokes : GoodIn wsL_law (va_wsS RL 122 yL_strokes wsL_strokes) := goodIn_app (goodIn_of _ (by decide +kernel)) ggL_law_L_strokes
