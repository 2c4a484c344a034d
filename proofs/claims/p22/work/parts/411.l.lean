theorem dL_cell_0 : decode cL_cell 0 = .ok (.iload_n 1, 1) := by decide +kernel
theorem dL_cell_1 : decode cL_cell 1 = .ok (.aload_n 0, 1) := by decide +kernel
theorem dL_cell_2 : decode cL_cell 2 = .ok (.arraylength, 1) := by decide +kernel
theorem dL_cell_3 : decode cL_cell 3 = .ok (.if_icmp .ge 9, 3) := by decide +kernel
theorem dL_cell_6 : decode cL_cell 6 = .ok (.aload_n 0, 1) := by decide +kernel
theorem dL_cell_7 : decode cL_cell 7 = .ok (.iload_n 1, 1) := by decide +kernel
theorem dL_cell_8 : decode cL_cell 8 = .ok (.iaload, 1) := by decide +kernel
theorem dL_cell_9 : decode cL_cell 9 = .ok (.goto 10, 3) := by decide +kernel
theorem dL_cell_12 : decode cL_cell 12 = .ok (.ldc 7, 2) := by decide +kernel
theorem dL_cell_14 : decode cL_cell 14 = .ok (.iload_n 1, 1) := by decide +kernel
theorem dL_cell_15 : decode cL_cell 15 = .ok (.bipush 101, 2) := by decide +kernel
theorem dL_cell_17 : decode cL_cell 17 = .ok (.iadd, 1) := by decide +kernel
theorem dL_cell_18 : decode cL_cell 18 = .ok (.imul, 1) := by decide +kernel
theorem dL_cell_19 : decode cL_cell 19 = .ok (.istore_n 2, 1) := by decide +kernel
theorem dL_cell_20 : decode cL_cell 20 = .ok (.iload_n 2, 1) := by decide +kernel
theorem dL_cell_21 : decode cL_cell 21 = .ok (.iload_n 2, 1) := by decide +kernel
theorem dL_cell_22 : decode cL_cell 22 = .ok (.bipush 16, 2) := by decide +kernel
theorem dL_cell_24 : decode cL_cell 24 = .ok (.iushr, 1) := by decide +kernel
theorem dL_cell_25 : decode cL_cell 25 = .ok (.ixor, 1) := by decide +kernel
theorem dL_cell_26 : decode cL_cell 26 = .ok (.ldc 8, 2) := by decide +kernel
theorem dL_cell_28 : decode cL_cell 28 = .ok (.imul, 1) := by decide +kernel
theorem dL_cell_29 : decode cL_cell 29 = .ok (.sipush 305, 3) := by decide +kernel
theorem dL_cell_32 : decode cL_cell 32 = .ok (.iload_n 1, 1) := by decide +kernel
theorem dL_cell_33 : decode cL_cell 33 = .ok (.imul, 1) := by decide +kernel
theorem dL_cell_34 : decode cL_cell 34 = .ok (.iadd, 1) := by decide +kernel
theorem dL_cell_35 : decode cL_cell 35 = .ok (.ireturn, 1) := by decide +kernel
theorem dL_some_0 : decode cL_some 0 = .ok (.iload_n 0, 1) := by decide +kernel
theorem dL_some_1 : decode cL_some 1 = .ok (.iconst 1, 1) := by decide +kernel
theorem dL_some_2 : decode cL_some 2 = .ok (.iushr, 1) := by decide +kernel
theorem dL_some_3 : decode cL_some 3 = .ok (.iload_n 1, 1) := by decide +kernel
theorem dL_some_4 : decode cL_some 4 = .ok (.irem, 1) := by decide +kernel
theorem dL_some_5 : decode cL_some 5 = .ok (.ireturn, 1) := by decide +kernel
set_option maxRecDepth 20000 in
theorem ggL_call_L_does : GoodIn wsL_call wsL_does := goodIn_ca (goodIn_ca (goodIn_ca (goodIn_r _ [10, 11, 12, 13, 14, 15, 16, 17, 18, 19, 20, 21, 22, 23, 24, 25, 26, 27, 28, 29, 30, 31, 32, 33, 34, 35, 36, 37, 38, 39, 40, 41, 42, 43, 44, 45, 46, 47, 48, 49, 50, 51, 52, 53, 54, 55, 56, 57, 58, 59, 60, 61, 62, 63, 64, 65, 66, 67, 68, 69, 70, 71, 72, 73, 74, 75, 76, 77, 78, 79, 80, 81, 82, 83, 84, 85, 86, 87, 88, 89, 90, 91, 92, 93, 94, 95, 96, 97, 98, 99, 100, 101, 102, 103, 104, 105, 106, 107, 108, 109, 110, 111, 112, 113, 114, 115, 116, 117, 118, 119, 120, 121, 122, 123, 124, 125, 126, 127, 128, 129, 130, 131, 132, 133, 134, 135, 136, 137, 138, 139, 140, 141, 142, 143, 144, 145, 146, 147, 148, 149, 150, 151, 152, 153, 154, 155, 156, 157, 158, 159, 160, 161, 162, 163, 164, 165, 166, 167, 168, 169, 170, 171, 172, 173, 174, 175, 176, 177, 178, 179, 180, 181, 182, 183, 184, 185, 186, 187, 188, 189, 190, 191, 192, 193, 194, 195, 196, 197, 198, 199, 200, 201, 202, 203, 204, 205, 206, 207, 208, 209, 210, 211, 212, 213, 214, 215, 216, 217, 218, 219, 220, 221, 222, 223, 224, 225, 226, 227, 228, 229, 230, 231, 232, 233, 234, 235, 236, 237, 238, 239, 240, 241, 242, 243, 244, 245, 246, 247, 248, 249, 250, 251, 252, 253, 254, 255, 256, 257, 258, 259, 260, 261, 262, 263, 264, 265, 266, 267, 268, 269, 270, 271, 272, 273, 274, 275, 276, 277, 278, 279, 280, 281, 282, 283, 284, 285, 286, 287, 288, 289, 290, 291, 292, 293, 294, 295, 296, 297, 298, 299, 300, 301, 302, 303, 304, 305, 306, 307, 308, 309, 310, 311, 312, 313, 314, 315, 316, 317, 318, 319, 320, 321, 322, 323, 324, 325, 326, 327, 328, 329, 330, 331, 332, 333, 334, 335, 336, 337, 338, 339, 340, 341, 342, 343, 344, 345, 346, 347, 348, 349, 350, 351, 352, 353, 354, 355, 356, 357, 358, 359, 360, 361, 362, 363, 364, 365, 366, 367, 368, 369, 370, 371, 372, 373, 374, 375, 376, 377, 378, 379, 380, 381, 382, 383, 384, 385, 386, 387, 388, 389, 390, 391, 392, 393, 394, 395, 396, 397, 398, 399, 400, 401, 402, 403, 404, 405, 406, 407, 408, 409, 410, 411, 412, 413, 414, 415, 416, 417, 418, 419, 420, 421, 422, 423, 424, 425, 426, 427, 428, 429, 430, 431, 432, 433, 434] (by decide +kernel) (by decide +kernel)) (goodIn_sub (fun _ h => List.mem_cons_of_mem _ (List.mem_append_left _ (List.mem_append_left _ (List.mem_append_right _ h)))) (by decide +kernel))) (goodIn_sub (fun _ h => List.mem_cons_of_mem _ (List.mem_append_left _ (List.mem_append_right _ h))) (by decide +kernel))) (goodIn_sub (fun _ h => List.mem_cons_of_mem _ (List.mem_append_right _ h)) (by decide +kernel))
set_option maxRecDepth 20000 in
theorem gL_call_L_does : GoodIn wsL_call (va_wsS RL 9 yL_does wsL_does) := goodIn_app (goodIn_of _ (by decide +kernel)) ggL_call_L_does
theorem dL_call_0 : decode cL_call 0 = .ok (.aload_n 0, 1) := by decide +kernel
theorem dL_call_1 : decode cL_call 1 = .ok (.iload_n 1, 1) := by decide +kernel
theorem dL_call_2 : decode cL_call 2 = .ok (.iload_n 2, 1) := by decide +kernel
theorem dL_call_3 : decode cL_call 3 = .ok (.iload_n 3, 1) := by decide +kernel
theorem dL_call_4 : decode cL_call 4 = .ok (.iload 4, 2) := by decide +kernel
theorem dL_call_6 : decode cL_call 6 = .ok (.invokestatic 9, 3) := by decide +kernel
theorem dL_call_9 : decode cL_call 9 = .ok (.ireturn, 1) := by decide +kernel
theorem dL_call_10 : decode cL_call 10 = .ok (.astore 5, 2) := by decide +kernel
theorem dL_call_12 : decode cL_call 12 = .ok (.ldc 17, 2) := by decide +kernel
theorem dL_call_14 : decode cL_call 14 = .ok (.ireturn, 1) := by decide +kernel
theorem dL_call_15 : decode cL_call 15 = .ok (.astore 5, 2) := by decide +kernel
theorem dL_call_17 : decode cL_call 17 = .ok (.ldc 20, 2) := by decide +kernel
theorem dL_call_19 : decode cL_call 19 = .ok (.ireturn, 1) := by decide +kernel
theorem dL_call_20 : decode cL_call 20 = .ok (.astore 5, 2) := by decide +kernel
theorem dL_call_22 : decode cL_call 22 = .ok (.ldc 23, 2) := by decide +kernel
theorem dL_call_24 : decode cL_call 24 = .ok (.ireturn, 1) := by decide +kernel
set_option maxRecDepth 20000 in
theorem ggL_does_X5_stroke : GoodIn wsL_does wsX5_stroke := goodIn_ca (goodIn_ca (goodIn_ca (goodIn_r _ [5, 6, 7, 8, 9, 10, 11, 12, 4, 13, 14, 15, 16, 17, 18, 19, 20, 21, 22, 23, 24, 25, 26, 27, 28, 29, 399, 400, 401, 402, 403, 404, 405, 406] (by decide +kernel) (by decide +kernel)) (goodIn_sub (fun _ h => List.mem_cons_of_mem _ (List.mem_append_left _ (List.mem_append_left _ (List.mem_append_right _ h)))) (by decide +kernel))) (goodIn_sub (fun _ h => List.mem_cons_of_mem _ (List.mem_append_left _ (List.mem_append_right _ h))) (by decide +kernel))) (goodIn_sub (fun _ h => List.mem_cons_of_mem _ (List.mem_append_right _ h)) (by decide +kernel))
set_option maxRecDepth 20000 in
theorem gL_does_X5_stroke : GoodIn wsL_does (wsV RL 24 RX5 yX5_stroke wsX5_stroke) := goodIn_app (goodIn_of _ (by decide +kernel)) ggL_does_X5_stroke
set_option maxRecDepth 20000 in
theorem ggL_does_X5_lift : GoodIn wsL_does wsX5_lift := goodIn_r _ [33, 10, 16, 17, 18, 19, 20, 21, 34, 35, 36, 37, 399, 400, 401, 402, 403, 404, 405, 406] (by decide +kernel) (by decide +kernel)
set_option maxRecDepth 20000 in
theorem gL_does_X5_lift : GoodIn wsL_does (wsV RL 30 RX5 yX5_lift wsX5_lift) := goodIn_app (goodIn_of _ (by decide +kernel)) ggL_does_X5_lift
set_option maxRecDepth 20000 in
theorem ggL_does_X5_letter : GoodIn wsL_does wsX5_letter := goodIn_ca (goodIn_r _ [41, 8, 9, 10, 42, 43, 44, 19, 16, 17, 18, 20, 21, 45, 46, 47, 48, 29, 49, 50, 51, 52, 53, 54, 55, 56, 23, 24, 57, 58, 59, 60, 61, 62, 63, 64, 65, 66, 67, 68, 69, 70, 71, 72, 73, 74, 75, 76, 77, 78, 79, 26, 27, 28, 80, 81, 82, 83, 84, 85, 86, 87, 88, 89, 90, 91, 92, 93, 94, 95, 96, 97, 98, 99, 100, 101, 102, 103, 104, 105, 106, 107, 108, 109, 110, 111, 112, 113, 114, 115, 116, 117, 118, 119, 120, 121, 122, 123, 124, 125, 126, 127, 128, 129, 130, 131, 132, 133, 34, 35, 36, 37, 399, 400, 401, 402, 403, 404, 405, 406, 407, 408, 409] (by decide +kernel) (by decide +kernel)) (goodIn_sub (fun _ h => List.mem_cons_of_mem _ (List.mem_append_left _ (List.mem_append_right _ h))) (by decide +kernel))
set_option maxRecDepth 20000 in
theorem gL_does_X5_letter : GoodIn wsL_does (wsV RL 34 RX5 yX5_letter wsX5_letter) := goodIn_app (goodIn_of _ (by decide +kernel)) ggL_does_X5_letter
set_option maxRecDepth 20000 in
theorem ggL_does_X5_strokeOf : GoodIn wsL_does wsX5_strokeOf := goodIn_ca (goodIn_r _ [137, 14, 15, 138, 139, 140, 4, 141, 42, 142, 57, 58, 59, 60, 61, 62, 143, 144, 145, 146, 147, 148, 149, 150, 151, 152, 153, 154, 155, 156, 157, 158, 86, 159, 76, 77, 19, 78, 21, 29, 399, 400, 401, 402, 403, 404, 407, 408, 409, 405, 406] (by decide +kernel) (by decide +kernel)) (goodIn_sub (fun _ h => List.mem_cons_of_mem _ (List.mem_append_right _ h)) (by decide +kernel))
set_option maxRecDepth 20000 in
theorem gL_does_X5_strokeOf : GoodIn wsL_does (wsV RL 37 RX5 yX5_strokeOf wsX5_strokeOf) := goodIn_app (goodIn_of _ (by decide +kernel)) ggL_does_X5_strokeOf
set_option maxRecDepth 20000 in
theorem ggL_does_X5_pupil : GoodIn wsL_does wsX5_pupil := goodIn_ca (goodIn_ca (goodIn_ca (goodIn_r _ [163, 6, 7, 8, 9, 164, 165, 166, 167, 168, 169, 4, 170, 14, 15, 57, 58, 59, 60, 61, 62, 171, 172, 173, 174, 175, 176, 177, 67, 68, 178, 179, 180, 80, 81, 82, 83, 84, 85, 86, 87, 88, 89, 90, 91, 92, 93, 94, 95, 96, 97, 98, 99, 100, 101, 102, 103, 104, 105, 106, 107, 108, 109, 110, 111, 112, 113, 114, 115, 116, 117, 118, 119, 120, 121, 122, 123, 124, 125, 126, 127, 128, 129, 130, 131, 132, 133, 399, 400, 401, 402, 403, 404, 410, 411, 412, 407, 408, 409] (by decide +kernel) (by decide +kernel)) (goodIn_sub (fun _ h => List.mem_cons_of_mem _ (List.mem_append_left _ (List.mem_append_left _ (List.mem_append_right _ h)))) (by decide +kernel))) (goodIn_sub (fun _ h => List.mem_cons_of_mem _ (List.mem_append_left _ (List.mem_append_right _ h))) (by decide +kernel))) (goodIn_sub (fun _ h => List.mem_cons_of_mem _ (List.mem_append_right _ h)) (by decide +kernel))
set_option maxRecDepth 20000 in
theorem gL_does_X5_pupil : GoodIn wsL_does (wsV RL 40 RX5 yX5_pupil wsX5_pupil) := goodIn_app (goodIn_of _ (by decide +kernel)) ggL_does_X5_pupil
set_option maxRecDepth 20000 in
theorem ggL_does_X5_print : GoodIn wsL_does wsX5_print := goodIn_ca (goodIn_ca (goodIn_r _ [184, 6, 7, 185, 186, 187, 4, 188, 14, 15, 189, 190, 191, 192, 193, 194, 195, 196, 197, 198, 199, 399, 400, 401, 402, 403, 404, 413, 414] (by decide +kernel) (by decide +kernel)) (goodIn_sub (fun _ h => List.mem_cons_of_mem _ (List.mem_append_left _ (List.mem_append_left _ (List.mem_append_right _ h)))) (by decide +kernel))) (goodIn_sub (fun _ h => List.mem_cons_of_mem _ (List.mem_append_right _ h)) (by decide +kernel))
set_option maxRecDepth 20000 in
theorem gL_does_X5_print : GoodIn wsL_does (wsV RL 44 RX5 yX5_print wsX5_print) := goodIn_app (goodIn_of _ (by decide +kernel)) ggL_does_X5_print
set_option maxRecDepth 20000 in
theorem ggL_does_X5_sheets : GoodIn wsL_does wsX5_sheets := goodIn_ca (goodIn_r _ [203, 185, 186, 187, 4, 188, 14, 15, 196, 197, 198, 192, 199, 194, 195, 399, 400, 401, 402, 403, 404, 413, 414] (by decide +kernel) (by decide +kernel)) (goodIn_sub (fun _ h => List.mem_cons_of_mem _ (List.mem_append_right _ h)) (by decide +kernel))
set_option maxRecDepth 20000 in
theorem gL_does_X5_sheets : GoodIn wsL_does (wsV RL 48 RX5 yX5_sheets wsX5_sheets) := goodIn_app (goodIn_of _ (by decide +kernel)) ggL_does_X5_sheets
set_option maxRecDepth 20000 in
theorem ggL_does_X5_write : GoodIn wsL_does wsX5_write := goodIn_ca (goodIn_ca (goodIn_r _ [207, 8, 9, 208, 185, 209, 210, 211, 212, 213, 214, 10, 215, 216, 217, 4, 218, 14, 15, 164, 219, 57, 58, 59, 60, 61, 62, 143, 144, 145, 146, 147, 148, 149, 150, 151, 152, 153, 154, 155, 156, 157, 158, 86, 138, 139, 140, 141, 42, 142, 220, 221, 222, 192, 223, 224, 197, 198, 199, 194, 195, 189, 190, 191, 193, 225, 226, 227, 228, 67, 68, 229, 230, 231, 232, 233, 234, 69, 235, 236, 237, 238, 239, 240, 241, 242, 243, 244, 245, 246, 247, 248, 249, 250, 17, 18, 19, 20, 21, 251, 76, 77, 78, 29, 252, 50, 51, 52, 53, 54, 55, 56, 23, 24, 253, 254, 255, 256, 257, 258, 259, 260, 261, 101, 102, 103, 262, 263, 264, 265, 80, 81, 82, 83, 84, 85, 87, 88, 89, 90, 91, 92, 93, 94, 95, 96, 97, 98, 99, 100, 104, 105, 106, 107, 108, 109, 110, 111, 112, 113, 114, 115, 116, 117, 118, 119, 120, 121, 122, 123, 124, 125, 126, 127, 128, 129, 130, 131, 132, 133, 34, 35, 36, 37, 399, 400, 401, 402, 403, 404, 410, 411, 412, 415, 416, 417, 418, 419, 420, 421, 407, 408, 409, 413, 414, 422, 423, 424, 405, 406] (by decide +kernel) (by decide +kernel)) (goodIn_sub (fun _ h => List.mem_cons_of_mem _ (List.mem_append_left _ (List.mem_append_right _ h))) (by decide +kernel))) (goodIn_sub (fun _ h => List.mem_cons_of_mem _ (List.mem_append_right _ h)) (by decide +kernel))
set_option maxRecDepth 20000 in
theorem gL_does_X5_write : GoodIn wsL_does (wsV RL 52 RX5 yX5_write wsX5_write) := goodIn_app (goodIn_of _ (by decide +kernel)) ggL_does_X5_write
set_option maxRecDepth 20000 in
theorem ggL_does_X5_slips : GoodIn wsL_does wsX5_slips := goodIn_ca (goodIn_ca (goodIn_r _ [269, 6, 7, 270, 271, 272, 4, 273, 14, 15, 208, 274, 57, 58, 59, 60, 61, 62, 143, 144, 145, 146, 147, 148, 149, 150, 151, 152, 153, 154, 155, 156, 157, 158, 86, 275, 276, 277, 213, 278, 235, 279, 280, 281, 282, 399, 400, 401, 402, 403, 404, 407, 408, 409, 415, 416, 417, 418, 419, 420, 421] (by decide +kernel) (by decide +kernel)) (goodIn_sub (fun _ h => List.mem_cons_of_mem _ (List.mem_append_left _ (List.mem_append_left _ (List.mem_append_right _ h)))) (by decide +kernel))) (goodIn_sub (fun _ h => List.mem_cons_of_mem _ (List.mem_append_right _ h)) (by decide +kernel))
set_option maxRecDepth 20000 in
theorem gL_does_X5_slips : GoodIn wsL_does (wsV RL 55 RX5 yX5_slips wsX5_slips) := goodIn_app (goodIn_of _ (by decide +kernel)) ggL_does_X5_slips
set_option maxRecDepth 20000 in
theorem ggL_does_X5_orderAnew : GoodIn wsL_does wsX5_orderAnew := goodIn_ca (goodIn_r _ [286, 270, 271, 272, 4, 273, 14, 15, 208, 274, 57, 58, 59, 60, 61, 62, 143, 144, 145, 146, 147, 148, 149, 150, 151, 152, 153, 154, 155, 156, 157, 158, 86, 287, 288, 289, 213, 290, 238, 291, 128, 102, 129, 292, 293, 294, 295, 237, 296, 297, 298, 299, 300, 301, 302, 399, 400, 401, 402, 403, 404, 407, 408, 409, 415, 416, 417, 418, 419, 420, 421] (by decide +kernel) (by decide +kernel)) (goodIn_sub (fun _ h => List.mem_cons_of_mem _ (List.mem_append_right _ h)) (by decide +kernel))
set_option maxRecDepth 20000 in
theorem gL_does_X5_orderAnew : GoodIn wsL_does (wsV RL 58 RX5 yX5_orderAnew wsX5_orderAnew) := goodIn_app (goodIn_of _ (by decide +kernel)) ggL_does_X5_orderAnew
set_option maxRecDepth 20000 in
theorem ggL_does_X5_mark : GoodIn wsL_does wsX5_mark := goodIn_ca (goodIn_ca (goodIn_ca (goodIn_r _ [306, 6, 7, 8, 9, 307, 308, 309, 310, 4, 311, 14, 15, 270, 271, 272, 273, 208, 274, 57, 58, 59, 60, 61, 62, 143, 144, 145, 146, 147, 148, 149, 150, 151, 152, 153, 154, 155, 156, 157, 158, 86, 312, 313, 314, 232, 315, 245, 243, 316, 317, 318, 319, 244, 320, 321, 102, 322, 323, 324, 325, 326, 327, 328, 329, 330, 415, 416, 417, 418, 419, 420, 421, 399, 400, 401, 402, 403, 404, 407, 408, 409, 422, 423, 424] (by decide +kernel) (by decide +kernel)) (goodIn_sub (fun _ h => List.mem_cons_of_mem _ (List.mem_append_left _ (List.mem_append_left _ (List.mem_append_right _ h)))) (by decide +kernel))) (goodIn_sub (fun _ h => List.mem_cons_of_mem _ (List.mem_append_left _ (List.mem_append_right _ h))) (by decide +kernel))) (goodIn_sub (fun _ h => List.mem_cons_of_mem _ (List.mem_append_right _ h)) (by decide +kernel))
set_option maxRecDepth 20000 in
theorem gL_does_X5_mark : GoodIn wsL_does (wsV RL 62 RX5 yX5_mark wsX5_mark) := goodIn_app (goodIn_of _ (by decide +kernel)) ggL_does_X5_mark
set_option maxRecDepth 20000 in
theorem ggL_does_X5_grade : GoodIn wsL_does wsX5_grade := goodIn_ca (goodIn_r _ [334, 307, 270, 271, 272, 4, 273, 14, 15, 208, 274, 57, 58, 59, 60, 61, 62, 143, 144, 145, 146, 147, 148, 149, 150, 151, 152, 153, 154, 155, 156, 157, 158, 86, 335, 336, 337, 232, 338, 244, 339, 128, 102, 129, 340, 101, 103, 245, 341, 317, 318, 319, 320, 321, 322, 415, 416, 417, 418, 419, 420, 421, 399, 400, 401, 402, 403, 404, 407, 408, 409, 422, 423, 424] (by decide +kernel) (by decide +kernel)) (goodIn_sub (fun _ h => List.mem_cons_of_mem _ (List.mem_append_right _ h)) (by decide +kernel))
set_option maxRecDepth 20000 in
theorem gL_does_X5_grade : GoodIn wsL_does (wsV RL 66 RX5 yX5_grade wsX5_grade) := goodIn_app (goodIn_of _ (by decide +kernel)) ggL_does_X5_grade
set_option maxRecDepth 20000 in
theorem ggL_does_X5_lacks : GoodIn wsL_does wsX5_lacks := goodIn_ca (goodIn_r _ [345, 307, 270, 271, 272, 4, 273, 14, 15, 208, 274, 57, 58, 59, 60, 61, 62, 143, 144, 145, 146, 147, 148, 149, 150, 151, 152, 153, 154, 155, 156, 157, 158, 86, 316, 317, 318, 232, 319, 245, 244, 320, 321, 102, 322, 415, 416, 417, 418, 419, 420, 421, 399, 400, 401, 402, 403, 404, 407, 408, 409, 422, 423, 424] (by decide +kernel) (by decide +kernel)) (goodIn_sub (fun _ h => List.mem_cons_of_mem _ (List.mem_append_right _ h)) (by decide +kernel))
set_option maxRecDepth 20000 in
theorem gL_does_X5_lacks : GoodIn wsL_does (wsV RL 69 RX5 yX5_lacks wsX5_lacks) := goodIn_app (goodIn_of _ (by decide +kernel)) ggL_does_X5_lacks
set_option maxRecDepth 20000 in
theorem ggL_does_X5_takeOut : GoodIn wsL_does wsX5_takeOut := goodIn_ca (goodIn_ca (goodIn_r _ [349, 8, 9, 308, 208, 274, 307, 309, 310, 4, 311, 14, 15, 57, 58, 59, 60, 61, 62, 143, 144, 145, 146, 147, 148, 149, 150, 151, 152, 153, 154, 155, 156, 157, 158, 86, 335, 336, 337, 232, 338, 244, 339, 128, 102, 129, 340, 101, 103, 245, 341, 317, 318, 319, 320, 321, 322, 350, 351, 352, 353, 243, 399, 400, 401, 402, 403, 404, 415, 416, 417, 418, 419, 420, 421, 407, 408, 409, 422, 423, 424] (by decide +kernel) (by decide +kernel)) (goodIn_sub (fun _ h => List.mem_cons_of_mem _ (List.mem_append_left _ (List.mem_append_right _ h))) (by decide +kernel))) (goodIn_sub (fun _ h => List.mem_cons_of_mem _ (List.mem_append_right _ h)) (by decide +kernel))
set_option maxRecDepth 20000 in
theorem gL_does_X5_takeOut : GoodIn wsL_does (wsV RL 72 RX5 yX5_takeOut wsX5_takeOut) := goodIn_app (goodIn_of _ (by decide +kernel)) ggL_does_X5_takeOut
set_option maxRecDepth 20000 in
theorem ggL_does_X5_show : GoodIn wsL_does wsX5_show := goodIn_ca (goodIn_ca (goodIn_r _ [357, 8, 9, 358, 307, 270, 271, 272, 4, 273, 14, 15, 208, 274, 57, 58, 59, 60, 61, 62, 143, 144, 145, 146, 147, 148, 149, 150, 151, 152, 153, 154, 155, 156, 157, 158, 86, 335, 336, 337, 232, 338, 244, 339, 128, 102, 129, 340, 101, 103, 245, 341, 317, 318, 319, 320, 321, 322, 359, 360, 361, 362, 415, 416, 417, 418, 419, 420, 421, 399, 400, 401, 402, 403, 404, 407, 408, 409, 422, 423, 424] (by decide +kernel) (by decide +kernel)) (goodIn_sub (fun _ h => List.mem_cons_of_mem _ (List.mem_append_left _ (List.mem_append_right _ h))) (by decide +kernel))) (goodIn_sub (fun _ h => List.mem_cons_of_mem _ (List.mem_append_right _ h)) (by decide +kernel))
set_option maxRecDepth 20000 in
theorem gL_does_X5_show : GoodIn wsL_does (wsV RL 75 RX5 yX5_show wsX5_show) := goodIn_app (goodIn_of _ (by decide +kernel)) ggL_does_X5_show
set_option maxRecDepth 20000 in
theorem ggL_does_X5_vote : GoodIn wsL_does wsX5_vote := goodIn_ca (goodIn_ca (goodIn_ca (goodIn_r _ [366, 6, 7, 8, 9, 358, 367, 168, 169, 4, 170, 14, 15, 270, 271, 272, 273, 208, 274, 57, 58, 59, 60, 61, 62, 143, 144, 145, 146, 147, 148, 149, 150, 151, 152, 153, 154, 155, 156, 157, 158, 86, 368, 369, 370, 213, 371, 236, 372, 373, 374, 375, 415, 416, 417, 418, 419, 420, 421, 399, 400, 401, 402, 403, 404, 407, 408, 409] (by decide +kernel) (by decide +kernel)) (goodIn_sub (fun _ h => List.mem_cons_of_mem _ (List.mem_append_left _ (List.mem_append_left _ (List.mem_append_right _ h)))) (by decide +kernel))) (goodIn_sub (fun _ h => List.mem_cons_of_mem _ (List.mem_append_left _ (List.mem_append_right _ h))) (by decide +kernel))) (goodIn_sub (fun _ h => List.mem_cons_of_mem _ (List.mem_append_right _ h)) (by decide +kernel))
set_option maxRecDepth 20000 in
theorem gL_does_X5_vote : GoodIn wsL_does (wsV RL 78 RX5 yX5_vote wsX5_vote) := goodIn_app (goodIn_of _ (by decide +kernel)) ggL_does_X5_vote
set_option maxRecDepth 20000 in
theorem ggL_does_X5_worth : GoodIn wsL_does wsX5_worth := goodIn_ca (goodIn_r _ [379, 270, 271, 272, 4, 273, 14, 15, 208, 274, 57, 58, 59, 60, 61, 62, 143, 144, 145, 146, 147, 148, 149, 150, 151, 152, 153, 154, 155, 156, 157, 158, 86, 380, 381, 382, 213, 383, 233, 234, 384, 336, 337, 232, 338, 244, 339, 128, 102, 129, 340, 101, 103, 245, 341, 317, 318, 319, 320, 321, 322, 385, 373, 374, 375, 236, 386, 276, 277, 278, 235, 399, 400, 401, 402, 403, 404, 407, 408, 409, 415, 416, 417, 418, 419, 420, 421, 422, 423, 424] (by decide +kernel) (by decide +kernel)) (goodIn_sub (fun _ h => List.mem_cons_of_mem _ (List.mem_append_right _ h)) (by decide +kernel))
set_option maxRecDepth 20000 in
theorem gL_does_X5_worth : GoodIn wsL_does (wsV RL 81 RX5 yX5_worth wsX5_worth) := goodIn_app (goodIn_of _ (by decide +kernel)) ggL_does_X5_worth
set_option maxRecDepth 20000 in
theorem ggL_does_X5_place : GoodIn wsL_does wsX5_place := goodIn_ca (goodIn_r _ [390, 270, 271, 272, 4, 273, 14, 15, 208, 274, 57, 58, 59, 60, 61, 62, 143, 144, 145, 146, 147, 148, 149, 150, 151, 152, 153, 154, 155, 156, 157, 158, 86, 380, 381, 382, 213, 383, 233, 234, 384, 336, 337, 232, 338, 244, 339, 128, 102, 129, 340, 101, 103, 245, 341, 317, 318, 319, 320, 321, 322, 385, 373, 374, 375, 236, 386, 276, 277, 278, 235, 391, 392, 393, 394, 399, 400, 401, 402, 403, 404, 407, 408, 409, 415, 416, 417, 418, 419, 420, 421, 422, 423, 424] (by decide +kernel) (by decide +kernel)) (goodIn_sub (fun _ h => List.mem_cons_of_mem _ (List.mem_append_right _ h)) (by decide +kernel))
set_option maxRecDepth 20000 in
theorem gL_does_X5_place : GoodIn wsL_does (wsV RL 84 RX5 yX5_place wsX5_place) := goodIn_app (goodIn_of _ (by decide +kernel)) ggL_does_X5_place
set_option maxRecDepth 20000 in
theorem ggL_does_X5_at : GoodIn wsL_does wsX5_at := goodIn_ca (goodIn_r _ [398, 14, 15, 208, 274, 57, 58, 59, 60, 61, 62, 143, 144, 145, 146, 147, 148, 149, 150, 151, 152, 153, 154, 155, 156, 157, 158, 86, 380, 381, 382, 213, 383, 233, 234, 384, 336, 337, 232, 338, 244, 339, 128, 102, 129, 340, 101, 103, 245, 341, 317, 318, 319, 320, 321, 322, 385, 373, 374, 375, 236, 386, 276, 277, 278, 235, 391, 392, 393, 4, 394, 399, 400, 401, 402, 403, 404, 407, 408, 409, 415, 416, 417, 418, 419, 420, 421, 422, 423, 424] (by decide +kernel) (by decide +kernel)) (goodIn_sub (fun _ h => List.mem_cons_of_mem _ (List.mem_append_right _ h)) (by decide +kernel))
set_option maxRecDepth 20000 in
theorem gL_does_X5_at : GoodIn wsL_does (wsV RL 87 RX5 yX5_at wsX5_at) := goodIn_app (goodIn_of _ (by decide +kernel)) ggL_does_X5_at
theorem dL_does_0 : decode cL_does 0 = .ok (.iload_n 1, 1) := by decide +kernel
theorem dL_does_1 : decode cL_does 1 = .ok (.tableswitch 237 0 17 #[87, 94, 99, 104, 111, 129, 147, 163, 170, 177, 183, 192, 198, 204, 210, 216, 225, 231], 87) := by decide +kernel
theorem dL_does_88 : decode cL_does 88 = .ok (.aload_n 0, 1) := by decide +kernel
theorem dL_does_89 : decode cL_does 89 = .ok (.iload_n 2, 1) := by decide +kernel
theorem dL_does_90 : decode cL_does 90 = .ok (.iload_n 3, 1) := by decide +kernel
theorem dL_does_91 : decode cL_does 91 = .ok (.invokevirtual 24, 3) := by decide +kernel
theorem dL_does_94 : decode cL_does 94 = .ok (.ireturn, 1) := by decide +kernel
theorem dL_does_95 : decode cL_does 95 = .ok (.aload_n 0, 1) := by decide +kernel
theorem dL_does_96 : decode cL_does 96 = .ok (.invokevirtual 30, 3) := by decide +kernel
theorem dL_does_99 : decode cL_does 99 = .ok (.ireturn, 1) := by decide +kernel
theorem dL_does_100 : decode cL_does 100 = .ok (.aload_n 0, 1) := by decide +kernel
theorem dL_does_101 : decode cL_does 101 = .ok (.invokevirtual 34, 3) := by decide +kernel
theorem dL_does_104 : decode cL_does 104 = .ok (.ireturn, 1) := by decide +kernel
theorem dL_does_105 : decode cL_does 105 = .ok (.aload_n 0, 1) := by decide +kernel
theorem dL_does_106 : decode cL_does 106 = .ok (.iload_n 2, 1) := by decide +kernel
theorem dL_does_107 : decode cL_does 107 = .ok (.iload_n 3, 1) := by decide +kernel
theorem dL_does_108 : decode cL_does 108 = .ok (.invokevirtual 37, 3) := by decide +kernel
theorem dL_does_111 : decode cL_does 111 = .ok (.ireturn, 1) := by decide +kernel
theorem dL_does_112 : decode cL_does 112 = .ok (.aload_n 0, 1) := by decide +kernel
theorem dL_does_113 : decode cL_does 113 = .ok (.iload_n 2, 1) := by decide +kernel
theorem dL_does_114 : decode cL_does 114 = .ok (.iload_n 3, 1) := by decide +kernel
theorem dL_does_115 : decode cL_does 115 = .ok (.iload 4, 2) := by decide +kernel
theorem dL_does_117 : decode cL_does 117 = .ok (.iconst 1, 1) := by decide +kernel
theorem dL_does_118 : decode cL_does 118 = .ok (.if_icmp .ne 7, 3) := by decide +kernel
theorem dL_does_121 : decode cL_does 121 = .ok (.iconst 1, 1) := by decide +kernel
theorem dL_does_122 : decode cL_does 122 = .ok (.goto 4, 3) := by decide +kernel
theorem dL_does_125 : decode cL_does 125 = .ok (.iconst 0, 1) := by decide +kernel
theorem dL_does_126 : decode cL_does 126 = .ok (.invokevirtual 40, 3) := by decide +kernel
theorem dL_does_129 : decode cL_does 129 = .ok (.ireturn, 1) := by decide +kernel
theorem dL_does_130 : decode cL_does 130 = .ok (.aload_n 0, 1) := by decide +kernel
theorem dL_does_131 : decode cL_does 131 = .ok (.iload_n 2, 1) := by decide +kernel
theorem dL_does_132 : decode cL_does 132 = .ok (.iload_n 3, 1) := by decide +kernel
theorem dL_does_133 : decode cL_does 133 = .ok (.iconst 1, 1) := by decide +kernel
theorem dL_does_134 : decode cL_does 134 = .ok (.if_icmp .ne 7, 3) := by decide +kernel
theorem dL_does_137 : decode cL_does 137 = .ok (.iconst 1, 1) := by decide +kernel
theorem dL_does_138 : decode cL_does 138 = .ok (.goto 4, 3) := by decide +kernel
theorem dL_does_141 : decode cL_does 141 = .ok (.iconst 0, 1) := by decide +kernel
theorem dL_does_142 : decode cL_does 142 = .ok (.iload 4, 2) := by decide +kernel
theorem dL_does_144 : decode cL_does 144 = .ok (.invokevirtual 44, 3) := by decide +kernel
theorem dL_does_147 : decode cL_does 147 = .ok (.ireturn, 1) := by decide +kernel
theorem dL_does_148 : decode cL_does 148 = .ok (.aload_n 0, 1) := by decide +kernel
theorem dL_does_149 : decode cL_does 149 = .ok (.iload_n 2, 1) := by decide +kernel
theorem dL_does_150 : decode cL_does 150 = .ok (.iload_n 3, 1) := by decide +kernel
theorem dL_does_151 : decode cL_does 151 = .ok (.iconst 1, 1) := by decide +kernel
theorem dL_does_152 : decode cL_does 152 = .ok (.if_icmp .ne 7, 3) := by decide +kernel
theorem dL_does_155 : decode cL_does 155 = .ok (.iconst 1, 1) := by decide +kernel
theorem dL_does_156 : decode cL_does 156 = .ok (.goto 4, 3) := by decide +kernel
theorem dL_does_159 : decode cL_does 159 = .ok (.iconst 0, 1) := by decide +kernel
theorem dL_does_160 : decode cL_does 160 = .ok (.invokevirtual 48, 3) := by decide +kernel
theorem dL_does_163 : decode cL_does 163 = .ok (.ireturn, 1) := by decide +kernel
theorem dL_does_164 : decode cL_does 164 = .ok (.aload_n 0, 1) := by decide +kernel
theorem dL_does_165 : decode cL_does 165 = .ok (.iload_n 2, 1) := by decide +kernel
theorem dL_does_166 : decode cL_does 166 = .ok (.iload_n 3, 1) := by decide +kernel
theorem dL_does_167 : decode cL_does 167 = .ok (.invokevirtual 52, 3) := by decide +kernel
theorem dL_does_170 : decode cL_does 170 = .ok (.ireturn, 1) := by decide +kernel
theorem dL_does_171 : decode cL_does 171 = .ok (.aload_n 0, 1) := by decide +kernel
theorem dL_does_172 : decode cL_does 172 = .ok (.iload_n 2, 1) := by decide +kernel
theorem dL_does_173 : decode cL_does 173 = .ok (.iload_n 3, 1) := by decide +kernel
theorem dL_does_174 : decode cL_does 174 = .ok (.invokevirtual 55, 3) := by decide +kernel
theorem dL_does_177 : decode cL_does 177 = .ok (.ireturn, 1) := by decide +kernel
theorem dL_does_178 : decode cL_does 178 = .ok (.aload_n 0, 1) := by decide +kernel
theorem dL_does_179 : decode cL_does 179 = .ok (.iload_n 2, 1) := by decide +kernel
theorem dL_does_180 : decode cL_does 180 = .ok (.invokevirtual 58, 3) := by decide +kernel
theorem dL_does_183 : decode cL_does 183 = .ok (.ireturn, 1) := by decide +kernel
theorem dL_does_184 : decode cL_does 184 = .ok (.aload_n 0, 1) := by decide +kernel
theorem dL_does_185 : decode cL_does 185 = .ok (.iload_n 2, 1) := by decide +kernel
theorem dL_does_186 : decode cL_does 186 = .ok (.iload_n 3, 1) := by decide +kernel
theorem dL_does_187 : decode cL_does 187 = .ok (.iload 4, 2) := by decide +kernel
theorem dL_does_189 : decode cL_does 189 = .ok (.invokevirtual 62, 3) := by decide +kernel
theorem dL_does_192 : decode cL_does 192 = .ok (.ireturn, 1) := by decide +kernel
theorem dL_does_193 : decode cL_does 193 = .ok (.aload_n 0, 1) := by decide +kernel
theorem dL_does_194 : decode cL_does 194 = .ok (.iload_n 2, 1) := by decide +kernel
theorem dL_does_195 : decode cL_does 195 = .ok (.invokevirtual 66, 3) := by decide +kernel
theorem dL_does_198 : decode cL_does 198 = .ok (.ireturn, 1) := by decide +kernel
theorem dL_does_199 : decode cL_does 199 = .ok (.aload_n 0, 1) := by decide +kernel
theorem dL_does_200 : decode cL_does 200 = .ok (.iload_n 2, 1) := by decide +kernel
theorem dL_does_201 : decode cL_does 201 = .ok (.invokevirtual 69, 3) := by decide +kernel
theorem dL_does_204 : decode cL_does 204 = .ok (.ireturn, 1) := by decide +kernel
theorem dL_does_205 : decode cL_does 205 = .ok (.aload_n 0, 1) := by decide +kernel
theorem dL_does_206 : decode cL_does 206 = .ok (.iload_n 2, 1) := by decide +kernel
theorem dL_does_207 : decode cL_does 207 = .ok (.invokevirtual 72, 3) := by decide +kernel
theorem dL_does_210 : decode cL_does 210 = .ok (.ireturn, 1) := by decide +kernel
theorem dL_does_211 : decode cL_does 211 = .ok (.aload_n 0, 1) := by decide +kernel
theorem dL_does_212 : decode cL_does 212 = .ok (.iload_n 2, 1) := by decide +kernel
theorem dL_does_213 : decode cL_does 213 = .ok (.invokevirtual 75, 3) := by decide +kernel
theorem dL_does_216 : decode cL_does 216 = .ok (.ireturn, 1) := by decide +kernel
theorem dL_does_217 : decode cL_does 217 = .ok (.aload_n 0, 1) := by decide +kernel
theorem dL_does_218 : decode cL_does 218 = .ok (.iload_n 2, 1) := by decide +kernel
theorem dL_does_219 : decode cL_does 219 = .ok (.iload_n 3, 1) := by decide +kernel
theorem dL_does_220 : decode cL_does 220 = .ok (.iload 4, 2) := by decide +kernel
theorem dL_does_222 : decode cL_does 222 = .ok (.invokevirtual 78, 3) := by decide +kernel
theorem dL_does_225 : decode cL_does 225 = .ok (.ireturn, 1) := by decide +kernel
theorem dL_does_226 : decode cL_does 226 = .ok (.aload_n 0, 1) := by decide +kernel
theorem dL_does_227 : decode cL_does 227 = .ok (.iload_n 2, 1) := by decide +kernel
theorem dL_does_228 : decode cL_does 228 = .ok (.invokevirtual 81, 3) := by decide +kernel
theorem dL_does_231 : decode cL_does 231 = .ok (.ireturn, 1) := by decide +kernel
theorem dL_does_232 : decode cL_does 232 = .ok (.aload_n 0, 1) := by decide +kernel
theorem dL_does_233 : decode cL_does 233 = .ok (.iload_n 2, 1) := by decide +kernel
theorem dL_does_234 : decode cL_does 234 = .ok (.invokevirtual 84, 3) := by decide +kernel
theorem dL_does_237 : decode cL_does 237 = .ok (.ireturn, 1) := by decide +kernel
theorem dL_does_238 : decode cL_does 238 = .ok (.aload_n 0, 1) := by decide +kernel
theorem dL_does_239 : decode cL_does 239 = .ok (.iload_n 2, 1) := by decide +kernel
theorem dL_does_240 : decode cL_does 240 = .ok (.invokevirtual 87, 3) := by decide +kernel
theorem dL_does_243 : decode cL_does 243 = .ok (.ireturn, 1) := by decide +kernel
