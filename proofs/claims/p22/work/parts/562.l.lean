theorem goodIn_cc {big a : List Cond} {c : Cond} (hc : GoodIn big [c]) (ha : GoodIn big a) : GoodIn big (c :: a) := fun w h => (List.mem_cons.mp h).elim (fun e => hc w (List.mem_cons.mpr (Or.inl e))) (ha w)
theorem gq_refused_0 : GoodIn wsL_law [.code yL_refused cL_refused 5 (some .boolean)] := goodIn_sub (fun w h => (List.mem_singleton.mp h).symm ▸ (List.mem_append_left _ (List.mem_append_left _ (List.mem_append_left _ (List.mem_append_left _ (List.mem_append_left _ (List.mem_append_left _ (List.mem_append_left _ (List.mem_append_left _ (List.mem_append_left _ (List.mem_append_left _ (List.mem_append_left _ (List.mem_append_right _ (List.mem_append_right _ (List.mem_append_left _ (List.mem_of_getElem? (l := wsL_law0_r3) (i := 8) rfl)))))))))))))))) (by decide +kernel)
set_option maxRecDepth 20000 in
theorem gq_refused_1 : GoodIn wsL_law wsL_refused_r1 := goodIn_r _ [57, 58, 59, 60, 55, 61, 62, 63, 64, 65, 66, 67, 68, 2, 69, 70, 71, 72, 73, 74, 75, 21, 76, 77] (by decide +kernel) (by decide +kernel)
set_option maxRecDepth 20000 in
theorem gq_refused_2 : GoodIn wsL_law wsL_refused_r2 := goodIn_r _ [78, 79, 20, 80, 81, 82, 83, 84, 85, 86, 87, 88, 89, 90, 91, 92, 93, 94, 95, 96, 97, 42, 98, 99] (by decide +kernel) (by decide +kernel)
set_option maxRecDepth 20000 in
theorem gq_refused_3 : GoodIn wsL_law wsL_refused_r3 := goodIn_r _ [100, 12, 101, 31, 30, 102, 103, 104, 105, 17, 106, 107, 108, 109, 110, 111, 16, 112, 36, 37, 113, 114, 115, 116] (by decide +kernel) (by decide +kernel)
set_option maxRecDepth 20000 in
theorem gq_refused_4 : GoodIn wsL_law wsL_refused_r4 := goodIn_r _ [117, 118, 119, 120, 121, 122, 23, 123, 124, 125, 126, 127, 128, 129, 130, 131, 132, 133, 134, 135, 136, 137, 138, 139] (by decide +kernel) (by decide +kernel)
set_option maxRecDepth 20000 in
theorem gq_refused_5 : GoodIn wsL_law wsL_refused_r5 := goodIn_r _ [140, 141, 142, 143, 144, 145, 146, 147, 148, 149, 150, 151, 152, 153, 154, 155, 156, 157, 158, 159, 160, 161, 162, 163] (by decide +kernel) (by decide +kernel)
set_option maxRecDepth 20000 in
theorem gq_refused_6 : GoodIn wsL_law wsL_refused_r6 := goodIn_r _ [164, 165, 166, 167, 168, 169, 170, 171, 172, 173, 174, 175, 176, 177, 178, 179, 180, 181, 182, 183, 184, 185, 186, 187] (by decide +kernel) (by decide +kernel)
set_option maxRecDepth 20000 in
theorem gq_refused_7 : GoodIn wsL_law wsL_refused_r7 := goodIn_r _ [188, 189, 190, 191, 192, 193, 194, 195, 196, 197, 198, 199, 200, 201, 202, 203, 204, 205, 206, 207, 208, 209, 210, 211] (by decide +kernel) (by decide +kernel)
set_option maxRecDepth 20000 in
theorem gq_refused_8 : GoodIn wsL_law wsL_refused_r8 := goodIn_r _ [212, 213, 214, 215, 216, 217, 218, 219, 220, 221, 222, 223, 224, 225, 226, 227, 228, 229, 230, 231, 13, 232, 233, 234] (by decide +kernel) (by decide +kernel)
set_option maxRecDepth 20000 in
theorem gq_refused_9 : GoodIn wsL_law wsL_refused_r9 := goodIn_r _ [235, 236, 237, 238, 239, 240, 241, 242, 243, 244, 245, 246, 247, 248, 249, 250, 251, 252, 253, 254, 255, 256, 257, 10] (by decide +kernel) (by decide +kernel)
set_option maxRecDepth 20000 in
theorem gq_refused_10 : GoodIn wsL_law wsL_refused_r10 := goodIn_r _ [11, 258, 259, 260, 261, 262, 263, 264, 265, 266, 267, 268, 269, 26, 27, 28, 29, 8, 9, 3, 270, 271, 272, 273] (by decide +kernel) (by decide +kernel)
set_option maxRecDepth 20000 in
theorem gq_refused_11 : GoodIn wsL_law wsL_refused_r11 := goodIn_r _ [274, 275, 276, 277, 278, 279, 280, 281, 282, 283, 284, 285, 286, 287, 288, 289, 290, 291, 292, 293, 294, 41, 295, 296] (by decide +kernel) (by decide +kernel)
set_option maxRecDepth 20000 in
theorem gq_refused_12 : GoodIn wsL_law wsL_refused_r12 := goodIn_r _ [297, 298, 299, 300, 301, 302, 303, 304, 305, 306, 307, 308, 309, 310, 311, 312, 313, 314, 315, 316, 317, 318, 319, 320] (by decide +kernel) (by decide +kernel)
set_option maxRecDepth 20000 in
theorem gq_refused_13 : GoodIn wsL_law wsL_refused_r13 := goodIn_r _ [321, 322, 323, 324, 325, 326, 327, 22, 328, 329, 330, 331, 332, 333, 334, 335, 336, 337, 338, 339, 340, 341, 342, 343] (by decide +kernel) (by decide +kernel)
set_option maxRecDepth 20000 in
theorem gq_refused_14 : GoodIn wsL_law wsL_refused_r14 := goodIn_r _ [344, 345, 346, 347, 348, 349, 350, 351, 352, 353, 354, 355, 356, 357, 358, 359, 360, 361, 362, 363, 364, 365, 366, 367] (by decide +kernel) (by decide +kernel)
set_option maxRecDepth 20000 in
theorem gq_refused_15 : GoodIn wsL_law wsL_refused_r15 := goodIn_r _ [368, 369, 370, 371, 372, 373, 374, 375, 376, 377, 378, 379, 380, 381, 382, 383, 384, 385, 386, 387, 388, 389, 390, 391] (by decide +kernel) (by decide +kernel)
set_option maxRecDepth 20000 in
theorem gq_refused_16 : GoodIn wsL_law wsL_refused_r16 := goodIn_r _ [392, 393, 394, 395, 396, 397, 398, 399, 400, 401, 402, 403, 404, 405, 406, 25, 407, 408, 409, 410, 411, 412, 413, 414] (by decide +kernel) (by decide +kernel)
set_option maxRecDepth 20000 in
theorem gq_refused_17 : GoodIn wsL_law wsL_refused_r17 := goodIn_r _ [415, 416, 417, 418, 419, 420, 421, 422, 423, 424, 425, 426, 427, 428, 429, 430, 431, 432, 433, 434, 435, 436, 437, 438] (by decide +kernel) (by decide +kernel)
set_option maxRecDepth 20000 in
theorem gq_refused_18 : GoodIn wsL_law wsL_refused_r18 := goodIn_r _ [439, 440, 441, 442, 443, 444, 445, 446, 447, 448] (by decide +kernel) (by decide +kernel)
theorem gq_refused_wsX50 : GoodIn wsL_law wsX50 := goodIn_r _ [473, 474, 475, 476, 477, 478] (by decide +kernel) (by decide +kernel)
theorem gq_refused_wsJx4a65c0 : GoodIn wsL_law wsJx4a65c0 := goodIn_r _ [483, 484, 485] (by decide +kernel) (by decide +kernel)
theorem gq_refused_wsX40 : GoodIn wsL_law wsX40 := goodIn_r _ [479, 480] (by decide +kernel) (by decide +kernel)
theorem gq_refused_wsX10 : GoodIn wsL_law wsX10 := goodIn_r _ [481, 482] (by decide +kernel) (by decide +kernel)
theorem gq_refused_wsX30 : GoodIn wsL_law wsX30 := goodIn_r _ [486, 487, 488, 489, 490, 491, 492] (by decide +kernel) (by decide +kernel)
theorem gq_refused_wsX00 : GoodIn wsL_law wsX00 := goodIn_r _ [493, 494, 495] (by decide +kernel) (by decide +kernel)
theorem gq_refused_wsX20 : GoodIn wsL_law wsX20 := goodIn_r _ [496, 497, 498] (by decide +kernel) (by decide +kernel)
set_option maxRecDepth 20000 in
theorem ggL_law_L_refused : GoodIn wsL_law wsL_refused := goodIn_ca (goodIn_ca (goodIn_ca (goodIn_cc gq_refused_0 (goodIn_app (goodIn_app (goodIn_app (goodIn_app (goodIn_app (goodIn_app (goodIn_app (goodIn_app gq_refused_1 (goodIn_app gq_refused_2 (goodIn_app gq_refused_3 (goodIn_app gq_refused_4 (goodIn_app gq_refused_5 (goodIn_app gq_refused_6 (goodIn_app gq_refused_7 (goodIn_app gq_refused_8 (goodIn_app gq_refused_9 (goodIn_app gq_refused_10 (goodIn_app gq_refused_11 (goodIn_app gq_refused_12 (goodIn_app gq_refused_13 (goodIn_app gq_refused_14 (goodIn_app gq_refused_15 (goodIn_app gq_refused_16 (goodIn_app gq_refused_17 gq_refused_18))))))))))))))))) gq_refused_wsX50) gq_refused_wsJx4a65c0) gq_refused_wsX40) gq_refused_wsX10) gq_refused_wsX30) gq_refused_wsX00) gq_refused_wsX20)) (goodIn_sub (fun _ h => List.mem_append_left _ (List.mem_append_left _ (List.mem_append_right _ h))) (by decide +kernel))) (goodIn_sub (fun _ h => List.mem_append_left _ (List.mem_append_right _ h)) (by decide +kernel))) (goodIn_sub (fun _ h => List.mem_append_right _ h) (by decide +kernel))
set_option maxRecDepth 20000 in
theorem gL_law_L_refused : GoodIn wsL_law (va_wsS RL 114 yL_refused wsL_refused) := goodIn_app (goodIn_of _ (by decide +kernel)) ggL_law_L_refused
