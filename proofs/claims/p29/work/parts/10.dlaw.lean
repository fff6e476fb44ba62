set_option maxRecDepth 20000 in
theorem ggL_law_X7_init : GoodIn wsL_law wsX7_init := goodIn_r _ [5, 6, 7, 8, 9, 10, 11, 12, 13, 14, 15, 16, 17, 18, 19, 20, 21, 22, 23, 24, 25, 26, 27, 28, 29, 30, 31, 32, 33, 34, 35, 36, 37, 38, 39, 40, 41, 42, 43, 44, 45, 46, 47, 48, 49, 50, 51, 52, 53, 54, 55, 56, 57, 58, 59, 60, 61, 62, 63, 64, 65, 66, 67, 68, 69, 70, 71, 72, 73, 74, 75, 76, 77, 78, 79, 80, 81, 82, 83, 84, 85, 86, 87, 88, 502, 503, 504, 496, 497, 498, 499, 500, 501, 505, 506, 507, 508, 509, 510, 511, 512, 513, 514, 515, 516, 517, 518, 519, 520, 521, 522, 523, 524, 525] (by decide +kernel) (by decide +kernel)
set_option maxRecDepth 20000 in
theorem gL_law_X7_init : GoodIn wsL_law (wsX7_init) := ggL_law_X7_init
set_option maxRecDepth 20000 in
theorem ggL_law_L_hangs : GoodIn wsL_law wsL_hangs := goodIn_ca (goodIn_ca (goodIn_r _ [92, 93, 94, 91, 95, 96, 97, 98, 99, 100, 101, 102, 2, 103, 104, 105, 106, 107, 16, 108, 109, 110, 111, 112, 113, 114, 115, 116, 117, 118, 119, 15, 120, 121, 122, 123, 124, 45, 125, 126, 127, 128, 129, 130, 131, 132, 133, 46, 134, 135, 136, 137, 48, 138, 139, 140, 141, 49, 142, 143, 144, 145, 146, 147, 148, 149, 150, 11, 151, 38, 152, 153, 154, 155, 156, 157, 158, 159, 160, 161, 162, 12, 163, 164, 165, 166, 167, 168, 169, 170, 171, 172, 173, 174, 175, 176, 177, 178, 179, 20, 180, 181, 182, 19, 183, 57, 184, 185, 186, 56, 187, 65, 64, 188, 189, 190, 191, 59, 58, 192, 193, 194, 195, 196, 197, 198, 199, 200, 201, 202, 63, 203, 204, 205, 206, 207, 208, 209, 210, 211, 212, 213, 214, 215, 216, 217, 218, 219, 220, 221, 222, 223, 224, 225, 226, 227, 228, 229, 230, 231, 232, 233, 234, 235, 236, 237, 238, 239, 240, 241, 242, 243, 244, 40, 245, 246, 247, 248, 24, 249, 250, 251, 252, 39, 253, 254, 255, 256, 257, 258, 259, 260, 261, 262, 263, 37, 264, 265, 266, 267, 268, 269, 270, 271, 272, 273, 274, 23, 275, 71, 72, 276, 277, 278, 279, 280, 281, 282, 283, 284, 285, 286, 287, 288, 289, 290, 291, 73, 292, 293, 294, 295, 296, 297, 298, 299, 300, 301, 302, 303, 304, 305, 306, 307, 308, 309, 310, 311, 312, 313, 314, 315, 316, 317, 318, 319, 320, 321, 322, 323, 324, 325, 326, 327, 328, 329, 330, 331, 496, 497, 498, 499, 500, 501, 505, 506, 507, 508, 502, 503, 504, 509, 510, 511, 523, 524, 525, 512, 513, 514] (by decide +kernel) (by decide +kernel)) (goodIn_sub (fun _ h => List.mem_append_left _ (List.mem_append_left _ (List.mem_append_right _ h))) (by decide +kernel))) (goodIn_sub (fun _ h => List.mem_append_left _ (List.mem_append_right _ h)) (by decide +kernel))
set_option maxRecDepth 20000 in
theorem gL_law_L_hangs : GoodIn wsL_law (va_wsS RL 139 yL_hangs wsL_hangs) := goodIn_app (goodIn_of _ (by decide +kernel)) ggL_law_L_hangs
set_option maxRecDepth 20000 in
theorem ggL_law_L_at : GoodIn wsL_law wsL_at := goodIn_r _ [334, 335, 336] (by decide +kernel) (by decide +kernel)
set_option maxRecDepth 20000 in
theorem gL_law_L_at : GoodIn wsL_law (va_wsS RL 143 yL_at wsL_at) := goodIn_app (goodIn_of _ (by decide +kernel)) ggL_law_L_at
set_option maxRecDepth 20000 in
theorem ggL_law_L_print : GoodIn wsL_law wsL_print := goodIn_ca (goodIn_ca (goodIn_r _ [339, 340, 341, 342, 343, 2, 344, 12, 241, 242, 243, 11, 244, 40, 156, 157, 91, 158, 96, 98, 159, 160, 161, 162, 104, 105, 108, 109, 110, 163, 164, 165, 111, 112, 113, 166, 144, 145, 167, 149, 150, 151, 38, 93, 94, 95, 97, 99, 100, 101, 102, 103, 106, 107, 16, 114, 115, 116, 117, 118, 119, 15, 120, 121, 122, 123, 124, 45, 125, 126, 127, 128, 129, 130, 131, 132, 133, 46, 134, 135, 136, 137, 48, 138, 139, 140, 141, 49, 142, 143, 146, 147, 148, 152, 153, 154, 155, 496, 497, 498, 499, 500, 501, 502, 503, 504, 505, 506, 507, 508] (by decide +kernel) (by decide +kernel)) (goodIn_sub (fun _ h => List.mem_append_left _ (List.mem_append_left _ (List.mem_append_right _ h))) (by decide +kernel))) (goodIn_sub (fun _ h => List.mem_append_left _ (List.mem_append_right _ h)) (by decide +kernel))
set_option maxRecDepth 20000 in
theorem gL_law_L_print : GoodIn wsL_law (va_wsS RL 131 yL_print wsL_print) := goodIn_app (goodIn_of _ (by decide +kernel)) ggL_law_L_print
set_option maxRecDepth 20000 in
theorem ggL_law_X7_savePoints : GoodIn wsL_law wsX7_savePoints := goodIn_r _ [348, 28, 349, 350, 351, 27, 352, 78, 496, 497, 498, 499, 500, 501, 515, 516] (by decide +kernel) (by decide +kernel)
set_option maxRecDepth 20000 in
theorem gL_law_X7_savePoints : GoodIn wsL_law (wsV RL 135 RX7 yX7_savePoints wsX7_savePoints) := goodIn_app (goodIn_of _ (by decide +kernel)) ggL_law_X7_savePoints
set_option maxRecDepth 20000 in
theorem ggL_law_L_low : GoodIn wsL_law wsL_low := goodIn_r _ [355, 356] (by decide +kernel) (by decide +kernel)
set_option maxRecDepth 20000 in
theorem gL_law_L_low : GoodIn wsL_law (va_wsS RL 70 yL_low wsL_low) := goodIn_app (goodIn_of _ (by decide +kernel)) ggL_law_L_low
set_option maxRecDepth 20000 in
theorem ggL_law_L_define : GoodIn wsL_law wsL_define := goodIn_ca (goodIn_ca (goodIn_ca (goodIn_r _ [359, 96, 97, 360, 98, 99, 361, 362, 363, 364, 2, 365, 104, 105, 106, 107, 366, 367, 12, 16, 108, 109, 110, 111, 112, 113, 114, 115, 116, 241, 242, 243, 11, 244, 40, 117, 118, 119, 15, 120, 121, 122, 123, 124, 45, 138, 139, 140, 141, 49, 142, 143, 144, 145, 146, 147, 148, 149, 150, 151, 38, 152, 153, 154, 155, 368, 369, 370, 371, 46, 48, 323, 324, 325, 326, 327, 496, 497, 498, 499, 500, 501, 502, 503, 504, 505, 506, 507, 508] (by decide +kernel) (by decide +kernel)) (goodIn_sub (fun _ h => List.mem_append_left _ (List.mem_append_left _ (List.mem_append_right _ h))) (by decide +kernel))) (goodIn_sub (fun _ h => List.mem_append_left _ (List.mem_append_right _ h)) (by decide +kernel))) (goodIn_sub (fun _ h => List.mem_append_right _ h) (by decide +kernel))
set_option maxRecDepth 20000 in
theorem gL_law_L_define : GoodIn wsL_law (va_wsS RL 75 yL_define wsL_define) := goodIn_app (goodIn_of _ (by decide +kernel)) ggL_law_L_define
set_option maxRecDepth 20000 in
theorem ggL_law_L_act : GoodIn wsL_law wsL_act := goodIn_ca (goodIn_ca (goodIn_ca (goodIn_r _ [374, 353, 354, 91, 355, 356, 357, 358, 359, 96, 97, 360, 98, 99, 361, 362, 363, 364, 2, 365, 104, 105, 106, 107, 366, 367, 12, 16, 108, 109, 110, 111, 112, 113, 114, 115, 116, 241, 242, 243, 11, 244, 40, 117, 118, 119, 15, 120, 121, 122, 123, 124, 45, 138, 139, 140, 141, 49, 142, 143, 144, 145, 146, 147, 148, 149, 150, 151, 38, 152, 153, 154, 155, 368, 369, 370, 371, 46, 48, 323, 324, 325, 326, 327, 375, 376, 377, 378, 379, 380, 381, 382, 383, 384, 385, 386, 387, 388, 389, 390, 391, 392, 393, 134, 135, 136, 137, 129, 394, 299, 300, 395, 396, 397, 398, 399, 400, 401, 402, 403, 404, 405, 406, 28, 305, 306, 307, 308, 309, 310, 407, 408, 409, 410, 411, 412, 413, 27, 414, 78, 415, 416, 417, 418, 419, 420, 421, 422, 311, 312, 313, 314, 39, 315, 316, 317, 318, 423, 424, 425, 426, 427, 428, 429, 430, 431, 432, 433, 349, 350, 351, 352, 434, 435, 436, 437, 77, 438, 439, 440, 441, 442, 443, 444, 445, 446, 447, 448, 449, 450, 451, 452, 453, 454, 455, 456, 457, 458, 459, 163, 164, 165, 166, 245, 246, 247, 248, 24, 172, 249, 250, 251, 252, 253, 254, 255, 256, 257, 258, 259, 260, 261, 262, 263, 37, 264, 265, 266, 267, 268, 269, 270, 271, 272, 273, 274, 23, 275, 71, 72, 276, 185, 186, 56, 187, 65, 64, 277, 200, 201, 202, 63, 278, 204, 205, 206, 279, 208, 209, 210, 280, 281, 282, 283, 284, 285, 286, 287, 288, 289, 290, 291, 73, 292, 131, 132, 133, 293, 195, 196, 197, 294, 295, 296, 297, 298, 301, 302, 303, 304, 460, 461, 462, 463, 464, 465, 466, 467, 468, 469, 470, 471, 472, 473, 474, 475, 476, 477, 478, 479, 480, 481, 482, 483, 484, 485, 486, 496, 497, 498, 499, 500, 501, 502, 503, 504, 505, 506, 507, 508, 515, 516, 512, 513, 514, 523, 524, 525] (by decide +kernel) (by decide +kernel)) (goodIn_sub (fun _ h => List.mem_append_left _ (List.mem_append_left _ (List.mem_append_right _ h))) (by decide +kernel))) (goodIn_sub (fun _ h => List.mem_append_left _ (List.mem_append_right _ h)) (by decide +kernel))) (goodIn_sub (fun _ h => List.mem_append_right _ h) (by decide +kernel))
set_option maxRecDepth 20000 in
theorem gL_law_L_act : GoodIn wsL_law (va_wsS RL 147 yL_act wsL_act) := goodIn_app (goodIn_of _ (by decide +kernel)) ggL_law_L_act
set_option maxRecDepth 20000 in
theorem ggL_law_L_deletes : GoodIn wsL_law wsL_deletes := goodIn_ca (goodIn_ca (goodIn_ca (goodIn_r _ [489, 99, 234, 235, 91, 236, 96, 98, 237, 238, 239, 2, 240, 104, 105, 12, 108, 109, 110, 163, 164, 165, 241, 242, 243, 11, 244, 40, 166, 144, 145, 245, 246, 247, 248, 24, 172, 153, 154, 155, 38, 249, 250, 251, 252, 39, 253, 254, 255, 256, 257, 258, 259, 260, 261, 262, 263, 37, 264, 265, 266, 267, 268, 269, 270, 271, 272, 273, 274, 23, 275, 71, 72, 276, 185, 186, 56, 187, 65, 64, 277, 200, 201, 202, 63, 278, 204, 205, 206, 279, 208, 209, 210, 280, 281, 282, 283, 284, 285, 286, 287, 288, 289, 290, 291, 73, 292, 131, 132, 15, 133, 46, 142, 143, 293, 195, 196, 197, 49, 121, 122, 123, 124, 45, 146, 147, 148, 149, 150, 151, 294, 295, 296, 297, 298, 299, 300, 301, 302, 303, 304, 16, 305, 306, 307, 308, 309, 135, 136, 137, 48, 310, 139, 140, 141, 152, 311, 312, 313, 314, 315, 316, 317, 318, 337, 338, 339, 340, 341, 342, 343, 344, 156, 157, 158, 159, 160, 161, 162, 111, 112, 113, 167, 93, 94, 95, 97, 100, 101, 102, 103, 106, 107, 114, 115, 116, 117, 118, 119, 120, 125, 126, 127, 128, 129, 130, 134, 138, 222, 223, 224, 225, 226, 227, 228, 229, 230, 231, 232, 233, 453, 454, 455, 360, 456, 457, 458, 459, 366, 367, 345, 346, 347, 348, 28, 349, 350, 351, 27, 352, 78, 438, 439, 440, 441, 442, 443, 444, 445, 446, 447, 448, 449, 450, 451, 452, 77, 168, 169, 170, 171, 423, 424, 425, 426, 427, 428, 429, 430, 431, 432, 433, 411, 412, 413, 414, 434, 435, 436, 437, 496, 497, 498, 499, 500, 501, 502, 503, 504, 512, 513, 514, 523, 524, 525, 505, 506, 507, 508, 515, 516] (by decide +kernel) (by decide +kernel)) (goodIn_sub (fun _ h => List.mem_append_left _ (List.mem_append_left _ (List.mem_append_right _ h))) (by decide +kernel))) (goodIn_sub (fun _ h => List.mem_append_left _ (List.mem_append_right _ h)) (by decide +kernel))) (goodIn_sub (fun _ h => List.mem_append_right _ h) (by decide +kernel))
set_option maxRecDepth 20000 in
theorem gL_law_L_deletes : GoodIn wsL_law (va_wsS RL 150 yL_deletes wsL_deletes) := goodIn_app (goodIn_of _ (by decide +kernel)) ggL_law_L_deletes
set_option maxRecDepth 20000 in
theorem ggL_law_L_statements : GoodIn wsL_law wsL_statements := goodIn_ca (goodIn_ca (goodIn_ca (goodIn_r _ [492, 361, 93, 94, 91, 95, 96, 97, 98, 99, 100, 101, 102, 2, 103, 104, 105, 106, 107, 16, 108, 109, 110, 111, 112, 113, 114, 115, 116, 117, 118, 119, 15, 120, 121, 122, 123, 124, 45, 125, 126, 127, 128, 129, 130, 131, 132, 133, 46, 134, 135, 136, 137, 48, 138, 139, 140, 141, 49, 142, 143, 144, 145, 146, 147, 148, 149, 150, 11, 151, 38, 152, 153, 154, 155, 460, 461, 462, 360, 463, 464, 465, 466, 366, 367, 163, 164, 165, 467, 468, 469, 166, 470, 471, 472, 473, 12, 172, 249, 250, 251, 252, 39, 40, 253, 254, 255, 256, 257, 258, 259, 260, 261, 262, 263, 37, 264, 265, 266, 267, 268, 269, 270, 271, 474, 295, 296, 297, 298, 284, 285, 286, 287, 301, 302, 303, 304, 305, 306, 307, 308, 309, 310, 299, 300, 311, 312, 313, 314, 315, 316, 317, 318, 168, 169, 170, 171, 211, 212, 213, 214, 215, 216, 217, 20, 218, 219, 220, 19, 221, 59, 194, 195, 196, 197, 341, 342, 343, 344, 241, 242, 243, 244, 475, 476, 477, 478, 479, 480, 481, 482, 483, 484, 485, 486, 173, 174, 175, 176, 177, 178, 179, 180, 181, 182, 183, 57, 184, 185, 186, 56, 187, 65, 64, 188, 189, 190, 191, 58, 192, 193, 198, 199, 200, 201, 202, 63, 203, 204, 205, 206, 207, 208, 209, 210, 453, 454, 455, 456, 457, 458, 459, 245, 246, 247, 248, 24, 272, 273, 274, 23, 275, 71, 72, 276, 277, 278, 279, 280, 281, 282, 283, 288, 289, 290, 291, 73, 292, 293, 294, 156, 157, 158, 159, 160, 161, 162, 167, 496, 497, 498, 499, 500, 501, 505, 506, 507, 508, 502, 503, 504, 509, 510, 511, 523, 524, 525, 512, 513, 514] (by decide +kernel) (by decide +kernel)) (goodIn_sub (fun _ h => List.mem_append_left _ (List.mem_append_left _ (List.mem_append_right _ h))) (by decide +kernel))) (goodIn_sub (fun _ h => List.mem_append_left _ (List.mem_append_right _ h)) (by decide +kernel))) (goodIn_sub (fun _ h => List.mem_append_right _ h) (by decide +kernel))
set_option maxRecDepth 20000 in
theorem gL_law_L_statements : GoodIn wsL_law (va_wsS RL 154 yL_statements wsL_statements) := goodIn_app (goodIn_of _ (by decide +kernel)) ggL_law_L_statements
set_option maxRecDepth 20000 in
theorem ggL_law_L_ends : GoodIn wsL_law wsL_ends := goodIn_ca (goodIn_ca (goodIn_ca (goodIn_r _ [495, 328, 329, 330, 2, 331, 16, 305, 306, 307, 15, 308, 309, 135, 136, 137, 48, 121, 122, 123, 124, 45, 310, 139, 140, 141, 49, 142, 143, 144, 145, 146, 147, 148, 149, 150, 11, 151, 38, 152, 153, 154, 155, 299, 300, 341, 342, 343, 344, 12, 241, 242, 243, 244, 40, 345, 346, 347, 348, 28, 349, 350, 351, 27, 352, 78, 337, 338, 91, 339, 340, 156, 157, 158, 96, 98, 159, 160, 161, 162, 104, 105, 108, 109, 110, 163, 164, 165, 111, 112, 113, 166, 167, 93, 94, 95, 97, 99, 100, 101, 102, 103, 106, 107, 114, 115, 116, 117, 118, 119, 120, 125, 126, 127, 128, 129, 130, 131, 132, 133, 46, 134, 138, 399, 400, 401, 402, 403, 404, 405, 406, 407, 408, 409, 410, 411, 412, 413, 414, 168, 169, 170, 171, 172, 475, 476, 477, 360, 361, 478, 479, 480, 481, 366, 367, 467, 468, 469, 482, 483, 484, 485, 249, 250, 251, 252, 39, 253, 254, 255, 256, 257, 258, 259, 260, 261, 262, 263, 37, 264, 265, 266, 267, 268, 269, 270, 271, 486, 285, 286, 287, 301, 302, 303, 304, 311, 312, 313, 314, 315, 316, 317, 318, 415, 416, 417, 418, 419, 420, 421, 422, 496, 497, 498, 499, 500, 501, 505, 506, 507, 508, 502, 503, 504, 515, 516] (by decide +kernel) (by decide +kernel)) (goodIn_sub (fun _ h => List.mem_append_left _ (List.mem_append_left _ (List.mem_append_right _ h))) (by decide +kernel))) (goodIn_sub (fun _ h => List.mem_append_left _ (List.mem_append_right _ h)) (by decide +kernel))) (goodIn_sub (fun _ h => List.mem_append_right _ h) (by decide +kernel))
set_option maxRecDepth 20000 in
theorem gL_law_L_ends : GoodIn wsL_law (va_wsS RL 158 yL_ends wsL_ends) := goodIn_app (goodIn_of _ (by decide +kernel)) ggL_law_L_ends
theorem dL_law_0 : decode cL_law 0 = .ok (.new 11, 3) := by decide +kernel
theorem dL_law_3 : decode cL_law 3 = .ok (.dup, 1) := by decide +kernel
theorem dL_law_4 : decode cL_law 4 = .ok (.invokespecial 138, 3) := by decide +kernel
theorem dL_law_7 : decode cL_law 7 = .ok (.astore_n 1, 1) := by decide +kernel
theorem dL_law_8 : decode cL_law 8 = .ok (.aload_n 1, 1) := by decide +kernel
theorem dL_law_9 : decode cL_law 9 = .ok (.invokestatic 139, 3) := by decide +kernel
theorem dL_law_12 : decode cL_law 12 = .ok (.istore_n 2, 1) := by decide +kernel
theorem dL_law_13 : decode cL_law 13 = .ok (.iconst 0, 1) := by decide +kernel
theorem dL_law_14 : decode cL_law 14 = .ok (.istore_n 3, 1) := by decide +kernel
theorem dL_law_15 : decode cL_law 15 = .ok (.iload_n 3, 1) := by decide +kernel
theorem dL_law_16 : decode cL_law 16 = .ok (.bipush 48, 2) := by decide +kernel
theorem dL_law_18 : decode cL_law 18 = .ok (.if_icmp .ge 256, 3) := by decide +kernel
theorem dL_law_21 : decode cL_law 21 = .ok (.iload_n 2, 1) := by decide +kernel
theorem dL_law_22 : decode cL_law 22 = .ok (.ifCond .eq 252, 3) := by decide +kernel
theorem dL_law_25 : decode cL_law 25 = .ok (.aload_n 0, 1) := by decide +kernel
theorem dL_law_26 : decode cL_law 26 = .ok (.iconst 2, 1) := by decide +kernel
theorem dL_law_27 : decode cL_law 27 = .ok (.iload_n 3, 1) := by decide +kernel
theorem dL_law_28 : decode cL_law 28 = .ok (.imul, 1) := by decide +kernel
theorem dL_law_29 : decode cL_law 29 = .ok (.invokestatic 143, 3) := by decide +kernel
theorem dL_law_32 : decode cL_law 32 = .ok (.istore 4, 2) := by decide +kernel
theorem dL_law_34 : decode cL_law 34 = .ok (.aload_n 0, 1) := by decide +kernel
theorem dL_law_35 : decode cL_law 35 = .ok (.iconst 2, 1) := by decide +kernel
theorem dL_law_36 : decode cL_law 36 = .ok (.iload_n 3, 1) := by decide +kernel
theorem dL_law_37 : decode cL_law 37 = .ok (.imul, 1) := by decide +kernel
theorem dL_law_38 : decode cL_law 38 = .ok (.iconst 1, 1) := by decide +kernel
theorem dL_law_39 : decode cL_law 39 = .ok (.iadd, 1) := by decide +kernel
theorem dL_law_40 : decode cL_law 40 = .ok (.invokestatic 143, 3) := by decide +kernel
theorem dL_law_43 : decode cL_law 43 = .ok (.istore 5, 2) := by decide +kernel
theorem dL_law_45 : decode cL_law 45 = .ok (.aload_n 1, 1) := by decide +kernel
theorem dL_law_46 : decode cL_law 46 = .ok (.invokestatic 131, 3) := by decide +kernel
theorem dL_law_49 : decode cL_law 49 = .ok (.lstore 6, 2) := by decide +kernel
theorem dL_law_51 : decode cL_law 51 = .ok (.aload_n 1, 1) := by decide +kernel
theorem dL_law_52 : decode cL_law 52 = .ok (.invokevirtual 135, 3) := by decide +kernel
theorem dL_law_55 : decode cL_law 55 = .ok (.istore 8, 2) := by decide +kernel
theorem dL_law_57 : decode cL_law 57 = .ok (.iload_n 3, 1) := by decide +kernel
theorem dL_law_58 : decode cL_law 58 = .ok (.iconst 5, 1) := by decide +kernel
theorem dL_law_59 : decode cL_law 59 = .ok (.if_icmp .ge 57, 3) := by decide +kernel
theorem dL_law_62 : decode cL_law 62 = .ok (.aload_n 1, 1) := by decide +kernel
theorem dL_law_63 : decode cL_law 63 = .ok (.iload 4, 2) := by decide +kernel
theorem dL_law_65 : decode cL_law 65 = .ok (.iconst 4, 1) := by decide +kernel
theorem dL_law_66 : decode cL_law 66 = .ok (.invokestatic 70, 3) := by decide +kernel
theorem dL_law_69 : decode cL_law 69 = .ok (.iload 4, 2) := by decide +kernel
theorem dL_law_71 : decode cL_law 71 = .ok (.iconst 2, 1) := by decide +kernel
theorem dL_law_72 : decode cL_law 72 = .ok (.ishr, 1) := by decide +kernel
theorem dL_law_73 : decode cL_law 73 = .ok (.iconst 2, 1) := by decide +kernel
theorem dL_law_74 : decode cL_law 74 = .ok (.invokestatic 70, 3) := by decide +kernel
theorem dL_law_77 : decode cL_law 77 = .ok (.iload 4, 2) := by decide +kernel
theorem dL_law_79 : decode cL_law 79 = .ok (.iconst 3, 1) := by decide +kernel
theorem dL_law_80 : decode cL_law 80 = .ok (.ishr, 1) := by decide +kernel
theorem dL_law_81 : decode cL_law 81 = .ok (.iconst 4, 1) := by decide +kernel
theorem dL_law_82 : decode cL_law 82 = .ok (.invokestatic 70, 3) := by decide +kernel
theorem dL_law_85 : decode cL_law 85 = .ok (.iload 4, 2) := by decide +kernel
theorem dL_law_87 : decode cL_law 87 = .ok (.iconst 5, 1) := by decide +kernel
theorem dL_law_88 : decode cL_law 88 = .ok (.ishr, 1) := by decide +kernel
theorem dL_law_89 : decode cL_law 89 = .ok (.iconst 4, 1) := by decide +kernel
theorem dL_law_90 : decode cL_law 90 = .ok (.invokestatic 70, 3) := by decide +kernel
theorem dL_law_93 : decode cL_law 93 = .ok (.iload 4, 2) := by decide +kernel
theorem dL_law_95 : decode cL_law 95 = .ok (.bipush 7, 2) := by decide +kernel
theorem dL_law_97 : decode cL_law 97 = .ok (.ishr, 1) := by decide +kernel
theorem dL_law_98 : decode cL_law 98 = .ok (.iconst 3, 1) := by decide +kernel
theorem dL_law_99 : decode cL_law 99 = .ok (.invokestatic 70, 3) := by decide +kernel
theorem dL_law_102 : decode cL_law 102 = .ok (.ifCond .ne 7, 3) := by decide +kernel
theorem dL_law_105 : decode cL_law 105 = .ok (.iconst 1, 1) := by decide +kernel
theorem dL_law_106 : decode cL_law 106 = .ok (.goto 4, 3) := by decide +kernel
theorem dL_law_109 : decode cL_law 109 = .ok (.iconst 0, 1) := by decide +kernel
theorem dL_law_110 : decode cL_law 110 = .ok (.invokestatic 75, 3) := by decide +kernel
theorem dL_law_113 : decode cL_law 113 = .ok (.goto 11, 3) := by decide +kernel
theorem dL_law_116 : decode cL_law 116 = .ok (.aload_n 1, 1) := by decide +kernel
theorem dL_law_117 : decode cL_law 117 = .ok (.iload 4, 2) := by decide +kernel
theorem dL_law_119 : decode cL_law 119 = .ok (.iload 5, 2) := by decide +kernel
theorem dL_law_121 : decode cL_law 121 = .ok (.invokestatic 147, 3) := by decide +kernel
theorem dL_law_124 : decode cL_law 124 = .ok (.istore 9, 2) := by decide +kernel
theorem dL_law_126 : decode cL_law 126 = .ok (.iload 9, 2) := by decide +kernel
theorem dL_law_128 : decode cL_law 128 = .ok (.ifCond .ge 22, 3) := by decide +kernel
theorem dL_law_131 : decode cL_law 131 = .ok (.aload_n 1, 1) := by decide +kernel
theorem dL_law_132 : decode cL_law 132 = .ok (.invokestatic 131, 3) := by decide +kernel
theorem dL_law_135 : decode cL_law 135 = .ok (.lload 6, 2) := by decide +kernel
theorem dL_law_137 : decode cL_law 137 = .ok (.lcmp, 1) := by decide +kernel
theorem dL_law_138 : decode cL_law 138 = .ok (.ifCond .ne 16, 3) := by decide +kernel
theorem dL_law_141 : decode cL_law 141 = .ok (.aload_n 1, 1) := by decide +kernel
theorem dL_law_142 : decode cL_law 142 = .ok (.invokevirtual 135, 3) := by decide +kernel
theorem dL_law_145 : decode cL_law 145 = .ok (.iload 8, 2) := by decide +kernel
theorem dL_law_147 : decode cL_law 147 = .ok (.if_icmp .ne 7, 3) := by decide +kernel
theorem dL_law_150 : decode cL_law 150 = .ok (.iconst 1, 1) := by decide +kernel
theorem dL_law_151 : decode cL_law 151 = .ok (.goto 4, 3) := by decide +kernel
theorem dL_law_154 : decode cL_law 154 = .ok (.iconst 0, 1) := by decide +kernel
theorem dL_law_155 : decode cL_law 155 = .ok (.istore_n 2, 1) := by decide +kernel
theorem dL_law_156 : decode cL_law 156 = .ok (.iload_n 2, 1) := by decide +kernel
theorem dL_law_157 : decode cL_law 157 = .ok (.ifCond .eq 109, 3) := by decide +kernel
theorem dL_law_160 : decode cL_law 160 = .ok (.iload_n 3, 1) := by decide +kernel
theorem dL_law_161 : decode cL_law 161 = .ok (.iconst 3, 1) := by decide +kernel
theorem dL_law_162 : decode cL_law 162 = .ok (.irem, 1) := by decide +kernel
theorem dL_law_163 : decode cL_law 163 = .ok (.ifCond .gt 10, 3) := by decide +kernel
theorem dL_law_166 : decode cL_law 166 = .ok (.aload_n 1, 1) := by decide +kernel
theorem dL_law_167 : decode cL_law 167 = .ok (.invokestatic 139, 3) := by decide +kernel
theorem dL_law_170 : decode cL_law 170 = .ok (.ifCond .eq 96, 3) := by decide +kernel
theorem dL_law_173 : decode cL_law 173 = .ok (.iload_n 3, 1) := by decide +kernel
theorem dL_law_174 : decode cL_law 174 = .ok (.iconst 2, 1) := by decide +kernel
theorem dL_law_175 : decode cL_law 175 = .ok (.irem, 1) := by decide +kernel
theorem dL_law_176 : decode cL_law 176 = .ok (.ifCond .gt 28, 3) := by decide +kernel
theorem dL_law_179 : decode cL_law 179 = .ok (.aload_n 1, 1) := by decide +kernel
theorem dL_law_180 : decode cL_law 180 = .ok (.iload 4, 2) := by decide +kernel
theorem dL_law_182 : decode cL_law 182 = .ok (.bipush 6, 2) := by decide +kernel
theorem dL_law_184 : decode cL_law 184 = .ok (.ishr, 1) := by decide +kernel
theorem dL_law_185 : decode cL_law 185 = .ok (.iconst 4, 1) := by decide +kernel
theorem dL_law_186 : decode cL_law 186 = .ok (.invokestatic 70, 3) := by decide +kernel
theorem dL_law_189 : decode cL_law 189 = .ok (.iload 4, 2) := by decide +kernel
theorem dL_law_191 : decode cL_law 191 = .ok (.bipush 8, 2) := by decide +kernel
theorem dL_law_193 : decode cL_law 193 = .ok (.ishr, 1) := by decide +kernel
theorem dL_law_194 : decode cL_law 194 = .ok (.iconst 4, 1) := by decide +kernel
theorem dL_law_195 : decode cL_law 195 = .ok (.invokestatic 70, 3) := by decide +kernel
theorem dL_law_198 : decode cL_law 198 = .ok (.invokestatic 150, 3) := by decide +kernel
theorem dL_law_201 : decode cL_law 201 = .ok (.ifCond .eq 65, 3) := by decide +kernel
theorem dL_law_204 : decode cL_law 204 = .ok (.iload_n 3, 1) := by decide +kernel
theorem dL_law_205 : decode cL_law 205 = .ok (.iconst 5, 1) := by decide +kernel
theorem dL_law_206 : decode cL_law 206 = .ok (.irem, 1) := by decide +kernel
theorem dL_law_207 : decode cL_law 207 = .ok (.ifCond .gt 41, 3) := by decide +kernel
theorem dL_law_210 : decode cL_law 210 = .ok (.iload_n 3, 1) := by decide +kernel
theorem dL_law_211 : decode cL_law 211 = .ok (.iconst 5, 1) := by decide +kernel
theorem dL_law_212 : decode cL_law 212 = .ok (.if_icmp .lt 36, 3) := by decide +kernel
theorem dL_law_215 : decode cL_law 215 = .ok (.aload_n 1, 1) := by decide +kernel
theorem dL_law_216 : decode cL_law 216 = .ok (.iload 5, 2) := by decide +kernel
theorem dL_law_218 : decode cL_law 218 = .ok (.iconst 3, 1) := by decide +kernel
theorem dL_law_219 : decode cL_law 219 = .ok (.ishr, 1) := by decide +kernel
theorem dL_law_220 : decode cL_law 220 = .ok (.iconst 4, 1) := by decide +kernel
theorem dL_law_221 : decode cL_law 221 = .ok (.invokestatic 70, 3) := by decide +kernel
theorem dL_law_224 : decode cL_law 224 = .ok (.iload 5, 2) := by decide +kernel
theorem dL_law_226 : decode cL_law 226 = .ok (.iconst 5, 1) := by decide +kernel
theorem dL_law_227 : decode cL_law 227 = .ok (.ishr, 1) := by decide +kernel
theorem dL_law_228 : decode cL_law 228 = .ok (.bipush 6, 2) := by decide +kernel
theorem dL_law_230 : decode cL_law 230 = .ok (.invokestatic 70, 3) := by decide +kernel
theorem dL_law_233 : decode cL_law 233 = .ok (.iload 5, 2) := by decide +kernel
theorem dL_law_235 : decode cL_law 235 = .ok (.bipush 8, 2) := by decide +kernel
theorem dL_law_237 : decode cL_law 237 = .ok (.ishr, 1) := by decide +kernel
theorem dL_law_238 : decode cL_law 238 = .ok (.iconst 2, 1) := by decide +kernel
theorem dL_law_239 : decode cL_law 239 = .ok (.invokestatic 70, 3) := by decide +kernel
theorem dL_law_242 : decode cL_law 242 = .ok (.invokestatic 154, 3) := by decide +kernel
theorem dL_law_245 : decode cL_law 245 = .ok (.ifCond .eq 21, 3) := by decide +kernel
theorem dL_law_248 : decode cL_law 248 = .ok (.iload_n 3, 1) := by decide +kernel
theorem dL_law_249 : decode cL_law 249 = .ok (.bipush 7, 2) := by decide +kernel
theorem dL_law_251 : decode cL_law 251 = .ok (.irem, 1) := by decide +kernel
theorem dL_law_252 : decode cL_law 252 = .ok (.ifCond .gt 10, 3) := by decide +kernel
theorem dL_law_255 : decode cL_law 255 = .ok (.aload_n 1, 1) := by decide +kernel
theorem dL_law_256 : decode cL_law 256 = .ok (.invokestatic 158, 3) := by decide +kernel
theorem dL_law_259 : decode cL_law 259 = .ok (.ifCond .eq 7, 3) := by decide +kernel
theorem dL_law_262 : decode cL_law 262 = .ok (.iconst 1, 1) := by decide +kernel
theorem dL_law_263 : decode cL_law 263 = .ok (.goto 4, 3) := by decide +kernel
theorem dL_law_266 : decode cL_law 266 = .ok (.iconst 0, 1) := by decide +kernel
theorem dL_law_267 : decode cL_law 267 = .ok (.istore_n 2, 1) := by decide +kernel
theorem dL_law_268 : decode cL_law 268 = .ok (.iinc 3 1, 3) := by decide +kernel
theorem dL_law_271 : decode cL_law 271 = .ok (.goto (-256), 3) := by decide +kernel
theorem dL_law_274 : decode cL_law 274 = .ok (.iload_n 2, 1) := by decide +kernel
theorem dL_law_275 : decode cL_law 275 = .ok (.ifCond .eq 14, 3) := by decide +kernel
theorem dL_law_278 : decode cL_law 278 = .ok (.aload_n 1, 1) := by decide +kernel
theorem dL_law_279 : decode cL_law 279 = .ok (.invokestatic 139, 3) := by decide +kernel
theorem dL_law_282 : decode cL_law 282 = .ok (.ifCond .eq 7, 3) := by decide +kernel
theorem dL_law_285 : decode cL_law 285 = .ok (.iconst 1, 1) := by decide +kernel
theorem dL_law_286 : decode cL_law 286 = .ok (.goto 4, 3) := by decide +kernel
theorem dL_law_289 : decode cL_law 289 = .ok (.iconst 0, 1) := by decide +kernel
theorem dL_law_290 : decode cL_law 290 = .ok (.ireturn, 1) := by decide +kernel
