set_option maxRecDepth 20000 in
theorem ggL_law_X7_init : GoodIn wsL_law wsX7_init := goodIn_r _ [9, 10, 11, 12, 13, 14, 15, 16, 17, 18, 19, 20, 21, 22, 23, 24, 25, 26, 27, 28, 29, 30, 31, 32, 33, 34, 35, 36, 37, 38, 39, 40, 41, 42, 43, 44, 45, 46, 47, 48, 49, 50, 51, 52, 53, 54, 55, 56, 57, 58, 59, 60, 61, 62, 63, 64, 65, 66, 67, 68, 69, 70, 71, 72, 73, 74, 75, 76, 77, 78, 79, 80, 81, 82, 83, 84, 85, 86, 87, 88, 89, 90, 91, 92, 974, 975, 976, 948, 949, 950, 951, 952, 953, 977, 978, 979, 980, 981, 982, 983, 984, 985, 986, 987, 988, 989, 990, 991, 992, 993, 994, 995, 996, 997] (by decide +kernel) (by decide +kernel)
set_option maxRecDepth 20000 in
theorem gL_law_X7_init : GoodIn wsL_law (wsX7_init) := ggL_law_X7_init
set_option maxRecDepth 20000 in
theorem ggL_law_X8_init : GoodIn wsL_law wsX8_init := goodIn_r _ [95, 96, 11, 12, 51, 97, 41, 98, 99, 100, 101, 102, 103, 104, 86, 105, 106, 107, 954, 955, 956, 957, 958, 959, 960, 961, 962, 963, 964, 965, 966, 967, 968, 969, 970, 971, 972, 973] (by decide +kernel) (by decide +kernel)
set_option maxRecDepth 20000 in
theorem gL_law_X8_init : GoodIn wsL_law (wsX8_init) := ggL_law_X8_init
set_option maxRecDepth 20000 in
theorem ggL_law_L_define : GoodIn wsL_law wsL_define := goodIn_ca (goodIn_ca (goodIn_ca (goodIn_r _ [111, 112, 113, 114, 115, 116, 117, 2, 118, 119, 120, 121, 122, 123, 124, 16, 20, 125, 126, 127, 128, 129, 130, 131, 132, 133, 134, 135, 136, 15, 137, 44, 138, 139, 140, 19, 141, 142, 143, 144, 145, 49, 146, 147, 148, 149, 53, 150, 151, 152, 153, 154, 155, 156, 157, 158, 159, 42, 160, 161, 162, 163, 164, 165, 166, 167, 50, 52, 168, 169, 170, 171, 172, 948, 949, 950, 951, 952, 953, 974, 975, 976, 977, 978, 979, 980] (by decide +kernel) (by decide +kernel)) (goodIn_sub (fun _ h => List.mem_append_left _ (List.mem_append_left _ (List.mem_append_right _ h))) (by decide +kernel))) (goodIn_sub (fun _ h => List.mem_append_left _ (List.mem_append_right _ h)) (by decide +kernel))) (goodIn_sub (fun _ h => List.mem_append_right _ h) (by decide +kernel))
set_option maxRecDepth 20000 in
theorem gL_law_L_define : GoodIn wsL_law (va_wsS RL 78 yL_define wsL_define) := goodIn_app (goodIn_of _ (by decide +kernel)) ggL_law_L_define
set_option maxRecDepth 20000 in
theorem ggL_law_X8_define : GoodIn wsL_law wsX8_define := goodIn_r _ [176, 177, 99, 100, 101, 102, 178, 179, 5, 180, 181, 182, 183, 184, 185, 186, 187, 188, 189, 190, 97, 191, 192, 193, 194, 98, 195, 196, 197, 198, 199, 200, 201, 202, 203, 204, 205, 206, 954, 955, 956, 957, 958, 959, 960, 961, 962, 963, 964, 965, 966, 967, 968, 969, 970, 971, 972, 973] (by decide +kernel) (by decide +kernel)
set_option maxRecDepth 20000 in
theorem gL_law_X8_define : GoodIn wsL_law (wsV RL 83 RX8 yX8_define wsX8_define) := goodIn_app (goodIn_of _ (by decide +kernel)) ggL_law_X8_define
set_option maxRecDepth 20000 in
theorem ggL_law_X8_thrown : GoodIn wsL_law wsX8_thrown := goodIn_r _ [210, 202, 954, 955, 956, 957, 958, 959, 960, 961, 962, 963, 964, 965, 966, 967, 968, 969, 970, 971, 972, 973] (by decide +kernel) (by decide +kernel)
set_option maxRecDepth 20000 in
theorem gL_law_X8_thrown : GoodIn wsL_law (wsV RL 84 RX8 yX8_thrown wsX8_thrown) := goodIn_app (goodIn_of _ (by decide +kernel)) ggL_law_X8_thrown
set_option maxRecDepth 20000 in
theorem ggL_law_L_drop : GoodIn wsL_law wsL_drop := goodIn_ca (goodIn_ca (goodIn_r _ [213, 112, 114, 214, 215, 216, 2, 217, 119, 120, 123, 124, 16, 20, 125, 126, 127, 128, 129, 130, 131, 132, 133, 134, 135, 136, 15, 137, 44, 138, 139, 140, 19, 141, 142, 143, 144, 145, 49, 218, 219, 220, 221, 222, 165, 166, 167, 50, 52, 168, 169, 170, 171, 172, 948, 949, 950, 951, 952, 953, 974, 975, 976, 977, 978, 979, 980] (by decide +kernel) (by decide +kernel)) (goodIn_sub (fun _ h => List.mem_append_left _ (List.mem_append_left _ (List.mem_append_right _ h))) (by decide +kernel))) (goodIn_sub (fun _ h => List.mem_append_right _ h) (by decide +kernel))
set_option maxRecDepth 20000 in
theorem gL_law_L_drop : GoodIn wsL_law (va_wsS RL 87 yL_drop wsL_drop) := goodIn_app (goodIn_of _ (by decide +kernel)) ggL_law_L_drop
set_option maxRecDepth 20000 in
theorem ggL_law_X8_drop : GoodIn wsL_law wsX8_drop := goodIn_r _ [226, 177, 99, 178, 179, 5, 180, 181, 182, 183, 184, 185, 186, 227, 228, 229, 230, 198, 199, 200, 201, 202, 203, 204, 205, 206, 954, 955, 956, 957, 958, 959, 960, 961, 962, 963, 964, 965, 966, 967, 968, 969, 970, 971, 972, 973] (by decide +kernel) (by decide +kernel)
set_option maxRecDepth 20000 in
theorem gL_law_X8_drop : GoodIn wsL_law (wsV RL 90 RX8 yX8_drop wsX8_drop) := goodIn_app (goodIn_of _ (by decide +kernel)) ggL_law_X8_drop
set_option maxRecDepth 20000 in
theorem ggL_law_L_setMode : GoodIn wsL_law wsL_setMode := goodIn_ca (goodIn_ca (goodIn_r _ [233, 112, 114, 234, 235, 236, 2, 237, 119, 120, 123, 124, 20, 125, 126, 127, 128, 129, 130, 131, 132, 133, 138, 139, 140, 19, 141, 142, 143, 144, 145, 49, 238, 239, 240, 241, 52, 242, 146, 147, 148, 149, 53, 150, 151, 152, 153, 154, 155, 156, 157, 158, 15, 159, 42, 160, 161, 162, 163, 243, 244, 245, 246, 247, 248, 249, 948, 949, 950, 951, 952, 953, 977, 978, 979, 980, 974, 975, 976] (by decide +kernel) (by decide +kernel)) (goodIn_sub (fun _ h => List.mem_append_left _ (List.mem_append_left _ (List.mem_append_right _ h))) (by decide +kernel))) (goodIn_sub (fun _ h => List.mem_append_right _ h) (by decide +kernel))
set_option maxRecDepth 20000 in
theorem gL_law_L_setMode : GoodIn wsL_law (va_wsS RL 91 yL_setMode wsL_setMode) := goodIn_app (goodIn_of _ (by decide +kernel)) ggL_law_L_setMode
set_option maxRecDepth 20000 in
theorem ggL_law_X8_setMode : GoodIn wsL_law wsX8_setMode := goodIn_r _ [253, 102, 178, 179, 5, 180, 181, 182, 183, 184, 185, 186, 227, 228, 229, 230, 99, 198, 199, 200, 201, 202, 187, 188, 189, 190, 97, 191, 192, 193, 194, 98, 100, 195, 196, 197, 254, 255, 256, 954, 955, 956, 957, 958, 959, 960, 961, 962, 963, 964, 965, 966, 967, 968, 969, 970, 971, 972, 973] (by decide +kernel) (by decide +kernel)
set_option maxRecDepth 20000 in
theorem gL_law_X8_setMode : GoodIn wsL_law (wsV RL 94 RX8 yX8_setMode wsX8_setMode) := goodIn_app (goodIn_of _ (by decide +kernel)) ggL_law_X8_setMode
set_option maxRecDepth 20000 in
theorem ggL_law_L_insert : GoodIn wsL_law wsL_insert := goodIn_ca (goodIn_ca (goodIn_ca (goodIn_r _ [259, 112, 113, 114, 260, 261, 262, 2, 263, 119, 120, 121, 122, 123, 124, 125, 126, 127, 264, 265, 266, 267, 268, 269, 270, 152, 153, 271, 272, 273, 274, 16, 275, 161, 162, 15, 163, 42, 276, 277, 278, 279, 43, 44, 280, 281, 282, 283, 284, 285, 286, 287, 288, 289, 290, 41, 291, 292, 293, 294, 295, 296, 297, 298, 299, 300, 301, 302, 303, 304, 305, 306, 20, 307, 308, 309, 19, 310, 311, 239, 240, 241, 52, 142, 143, 144, 145, 49, 312, 147, 148, 149, 53, 150, 151, 154, 155, 156, 157, 158, 159, 160, 244, 245, 313, 314, 315, 316, 317, 318, 319, 320, 948, 949, 950, 951, 952, 953, 974, 975, 976, 977, 978, 979, 980] (by decide +kernel) (by decide +kernel)) (goodIn_sub (fun _ h => List.mem_append_left _ (List.mem_append_left _ (List.mem_append_right _ h))) (by decide +kernel))) (goodIn_sub (fun _ h => List.mem_append_left _ (List.mem_append_right _ h)) (by decide +kernel))) (goodIn_sub (fun _ h => List.mem_append_right _ h) (by decide +kernel))
set_option maxRecDepth 20000 in
theorem gL_law_L_insert : GoodIn wsL_law (va_wsS RL 95 yL_insert wsL_insert) := goodIn_app (goodIn_of _ (by decide +kernel)) ggL_law_L_insert
set_option maxRecDepth 20000 in
theorem ggL_law_X8_insert : GoodIn wsL_law wsX8_insert := goodIn_r _ [324, 97, 178, 179, 5, 180, 181, 182, 183, 325, 326, 327, 328, 329, 330, 195, 196, 197, 198, 199, 200, 201, 202, 331, 332, 333, 334, 177, 335, 336, 337, 338, 98, 339, 340, 341, 342, 103, 343, 344, 345, 346, 347, 348, 349, 350, 102, 187, 188, 189, 190, 191, 192, 193, 194, 99, 100, 254, 255, 256, 351, 352, 353, 354, 954, 955, 956, 957, 958, 959, 960, 961, 962, 963, 964, 965, 966, 967, 968, 969, 970, 971, 972, 973] (by decide +kernel) (by decide +kernel)
set_option maxRecDepth 20000 in
theorem gL_law_X8_insert : GoodIn wsL_law (wsV RL 98 RX8 yX8_insert wsX8_insert) := goodIn_app (goodIn_of _ (by decide +kernel)) ggL_law_X8_insert
set_option maxRecDepth 20000 in
theorem ggL_law_L_update : GoodIn wsL_law wsL_update := goodIn_ca (goodIn_ca (goodIn_ca (goodIn_r _ [357, 112, 113, 114, 358, 359, 360, 2, 361, 119, 120, 121, 122, 123, 124, 125, 126, 127, 264, 265, 266, 128, 129, 130, 267, 268, 269, 270, 152, 153, 362, 363, 364, 365, 16, 275, 161, 162, 15, 163, 42, 276, 277, 278, 279, 43, 44, 280, 281, 282, 283, 284, 285, 286, 287, 288, 289, 290, 41, 291, 292, 293, 294, 295, 296, 297, 298, 366, 367, 368, 369, 370, 157, 158, 159, 371, 300, 301, 302, 303, 304, 305, 306, 20, 307, 308, 309, 19, 310, 311, 239, 240, 241, 52, 142, 143, 144, 145, 49, 312, 147, 148, 149, 53, 150, 151, 154, 155, 156, 160, 244, 245, 313, 314, 315, 316, 317, 318, 319, 320, 948, 949, 950, 951, 952, 953, 974, 975, 976, 977, 978, 979, 980] (by decide +kernel) (by decide +kernel)) (goodIn_sub (fun _ h => List.mem_append_left _ (List.mem_append_left _ (List.mem_append_right _ h))) (by decide +kernel))) (goodIn_sub (fun _ h => List.mem_append_left _ (List.mem_append_right _ h)) (by decide +kernel))) (goodIn_sub (fun _ h => List.mem_append_right _ h) (by decide +kernel))
set_option maxRecDepth 20000 in
theorem gL_law_L_update : GoodIn wsL_law (va_wsS RL 99 yL_update wsL_update) := goodIn_app (goodIn_of _ (by decide +kernel)) ggL_law_L_update
set_option maxRecDepth 20000 in
theorem ggL_law_X8_update : GoodIn wsL_law wsX8_update := goodIn_r _ [375, 97, 178, 179, 5, 180, 181, 182, 183, 325, 326, 327, 184, 185, 186, 328, 329, 330, 195, 196, 197, 198, 199, 200, 201, 202, 376, 377, 378, 379, 177, 380, 381, 382, 383, 98, 339, 340, 341, 342, 103, 343, 344, 345, 346, 347, 348, 349, 350, 102, 187, 188, 189, 190, 191, 192, 193, 194, 99, 100, 254, 255, 256, 351, 352, 353, 354, 954, 955, 956, 957, 958, 959, 960, 961, 962, 963, 964, 965, 966, 967, 968, 969, 970, 971, 972, 973] (by decide +kernel) (by decide +kernel)
set_option maxRecDepth 20000 in
theorem gL_law_X8_update : GoodIn wsL_law (wsV RL 101 RX8 yX8_update wsX8_update) := goodIn_app (goodIn_of _ (by decide +kernel)) ggL_law_X8_update
set_option maxRecDepth 20000 in
theorem ggL_law_L_delete : GoodIn wsL_law wsL_delete := goodIn_ca (goodIn_ca (goodIn_r _ [386, 112, 114, 387, 388, 389, 2, 390, 119, 120, 123, 124, 125, 126, 127, 264, 265, 266, 270, 152, 153, 391, 392, 393, 394, 16, 28, 275, 161, 162, 15, 163, 42, 276, 277, 278, 279, 43, 44, 280, 281, 282, 283, 284, 285, 286, 287, 288, 289, 290, 41, 291, 292, 293, 294, 295, 296, 297, 298, 395, 396, 397, 27, 398, 75, 76, 399, 400, 401, 60, 402, 69, 68, 403, 404, 405, 406, 67, 407, 408, 409, 410, 411, 412, 413, 414, 415, 416, 417, 418, 371, 300, 301, 302, 419, 420, 421, 422, 77, 423, 424, 425, 19, 426, 50, 150, 151, 427, 428, 429, 430, 53, 142, 143, 144, 145, 49, 154, 155, 156, 157, 158, 159, 431, 367, 368, 369, 370, 244, 245, 303, 304, 305, 306, 20, 307, 308, 309, 310, 311, 239, 240, 241, 52, 312, 147, 148, 149, 160, 313, 314, 315, 316, 317, 318, 319, 320, 948, 949, 950, 951, 952, 953, 974, 975, 976, 984, 985, 986, 995, 996, 997, 977, 978, 979, 980] (by decide +kernel) (by decide +kernel)) (goodIn_sub (fun _ h => List.mem_append_left _ (List.mem_append_left _ (List.mem_append_right _ h))) (by decide +kernel))) (goodIn_sub (fun _ h => List.mem_append_right _ h) (by decide +kernel))
set_option maxRecDepth 20000 in
theorem gL_law_L_delete : GoodIn wsL_law (va_wsS RL 102 yL_delete wsL_delete) := goodIn_app (goodIn_of _ (by decide +kernel)) ggL_law_L_delete
set_option maxRecDepth 20000 in
theorem ggL_law_X8_delete : GoodIn wsL_law wsX8_delete := goodIn_r _ [435, 97, 178, 179, 5, 180, 181, 182, 183, 325, 326, 327, 195, 196, 197, 198, 199, 200, 201, 202, 436, 437, 438, 439, 177, 440, 441, 442, 443, 106, 101, 444, 445, 446, 447, 339, 340, 341, 342, 103, 98, 191, 192, 193, 194, 99, 100, 254, 255, 256, 448, 449, 450, 451, 380, 381, 382, 383, 343, 344, 345, 346, 347, 348, 349, 350, 102, 187, 188, 189, 190, 351, 352, 353, 354, 954, 955, 956, 957, 958, 959, 960, 961, 962, 963, 964, 965, 966, 967, 968, 969, 970, 971, 972, 973] (by decide +kernel) (by decide +kernel)
set_option maxRecDepth 20000 in
theorem gL_law_X8_delete : GoodIn wsL_law (wsV RL 104 RX8 yX8_delete wsX8_delete) := goodIn_app (goodIn_of _ (by decide +kernel)) ggL_law_X8_delete
set_option maxRecDepth 20000 in
theorem ggL_law_X7_commit : GoodIn wsL_law wsX7_commit := goodIn_r _ [455, 456, 457, 458, 2, 459, 20, 16, 32, 307, 308, 309, 19, 310, 311, 239, 240, 241, 52, 142, 143, 144, 145, 49, 312, 147, 148, 149, 53, 150, 151, 152, 153, 154, 155, 156, 157, 158, 15, 159, 42, 160, 161, 162, 163, 244, 245, 134, 135, 136, 137, 44, 460, 461, 462, 463, 464, 465, 466, 31, 467, 82, 948, 949, 950, 951, 952, 953, 977, 978, 979, 980, 974, 975, 976, 987, 988] (by decide +kernel) (by decide +kernel)
set_option maxRecDepth 20000 in
theorem gL_law_X7_commit : GoodIn wsL_law (wsV RL 105 RX7 yX7_commit wsX7_commit) := goodIn_app (goodIn_of _ (by decide +kernel)) ggL_law_X7_commit
set_option maxRecDepth 20000 in
theorem ggL_law_X8_commit : GoodIn wsL_law wsX8_commit := goodIn_r _ [471, 202, 177, 472, 347, 348, 349, 5, 350, 102, 187, 188, 189, 190, 97, 191, 192, 193, 194, 99, 98, 100, 195, 196, 197, 254, 255, 256, 954, 955, 956, 957, 958, 959, 960, 961, 962, 963, 964, 965, 966, 967, 968, 969, 970, 971, 972, 973] (by decide +kernel) (by decide +kernel)
set_option maxRecDepth 20000 in
theorem gL_law_X8_commit : GoodIn wsL_law (wsV RL 108 RX8 yX8_commit wsX8_commit) := goodIn_app (goodIn_of _ (by decide +kernel)) ggL_law_X8_commit
set_option maxRecDepth 20000 in
theorem ggL_law_X7_rollBack : GoodIn wsL_law wsX7_rollBack := goodIn_r _ [476, 477, 478, 479, 2, 480, 32, 16, 464, 465, 466, 31, 467, 82, 313, 314, 315, 15, 316, 44, 43, 317, 318, 319, 320, 42, 948, 949, 950, 951, 952, 953, 987, 988, 974, 975, 976] (by decide +kernel) (by decide +kernel)
set_option maxRecDepth 20000 in
theorem gL_law_X7_rollBack : GoodIn wsL_law (wsV RL 109 RX7 yX7_rollBack wsX7_rollBack) := goodIn_app (goodIn_of _ (by decide +kernel)) ggL_law_X7_rollBack
set_option maxRecDepth 20000 in
theorem ggL_law_X8_rollBack : GoodIn wsL_law wsX8_rollBack := goodIn_r _ [484, 202, 472, 351, 352, 353, 5, 354, 177, 103, 97, 98, 954, 955, 956, 957, 958, 959, 960, 961, 962, 963, 964, 965, 966, 967, 968, 969, 970, 971, 972, 973] (by decide +kernel) (by decide +kernel)
set_option maxRecDepth 20000 in
theorem gL_law_X8_rollBack : GoodIn wsL_law (wsV RL 112 RX8 yX8_rollBack wsX8_rollBack) := goodIn_app (goodIn_of _ (by decide +kernel)) ggL_law_X8_rollBack
set_option maxRecDepth 20000 in
theorem ggL_law_L_savePoint : GoodIn wsL_law wsL_savePoint := goodIn_ca (goodIn_r _ [487, 114, 488, 489, 490, 2, 491, 123, 124, 492, 493, 494, 495, 32, 16, 496, 497, 498, 31, 499, 82, 134, 135, 136, 15, 137, 44, 500, 501, 502, 503, 81, 948, 949, 950, 951, 952, 953, 987, 988, 974, 975, 976] (by decide +kernel) (by decide +kernel)) (goodIn_sub (fun _ h => List.mem_append_right _ h) (by decide +kernel))
set_option maxRecDepth 20000 in
theorem gL_law_L_savePoint : GoodIn wsL_law (va_wsS RL 113 yL_savePoint wsL_savePoint) := goodIn_app (goodIn_of _ (by decide +kernel)) ggL_law_L_savePoint
set_option maxRecDepth 20000 in
theorem ggL_law_X8_savePoint : GoodIn wsL_law wsX8_savePoint := goodIn_r _ [507, 472, 104, 177, 198, 199, 200, 5, 201, 202, 954, 955, 956, 957, 958, 959, 960, 961, 962, 963, 964, 965, 966, 967, 968, 969, 970, 971, 972, 973] (by decide +kernel) (by decide +kernel)
set_option maxRecDepth 20000 in
theorem gL_law_X8_savePoint : GoodIn wsL_law (wsV RL 116 RX8 yX8_savePoint wsX8_savePoint) := goodIn_app (goodIn_of _ (by decide +kernel)) ggL_law_X8_savePoint
set_option maxRecDepth 20000 in
theorem ggL_law_L_rollBackTo : GoodIn wsL_law wsL_rollBackTo := goodIn_ca (goodIn_r _ [510, 112, 511, 512, 513, 2, 514, 119, 120, 515, 516, 517, 518, 32, 16, 496, 497, 498, 31, 499, 82, 464, 465, 466, 467, 519, 520, 521, 522, 81, 313, 314, 315, 15, 316, 44, 43, 317, 318, 319, 320, 42, 948, 949, 950, 951, 952, 953, 987, 988, 974, 975, 976] (by decide +kernel) (by decide +kernel)) (goodIn_sub (fun _ h => List.mem_append_left _ (List.mem_append_left _ (List.mem_append_right _ h))) (by decide +kernel))
set_option maxRecDepth 20000 in
theorem gL_law_L_rollBackTo : GoodIn wsL_law (va_wsS RL 117 yL_rollBackTo wsL_rollBackTo) := goodIn_app (goodIn_of _ (by decide +kernel)) ggL_law_L_rollBackTo
set_option maxRecDepth 20000 in
theorem ggL_law_X8_rollBackTo : GoodIn wsL_law wsX8_rollBackTo := goodIn_r _ [526, 472, 104, 181, 182, 5, 183, 198, 199, 200, 201, 202, 351, 352, 353, 354, 177, 103, 97, 98, 954, 955, 956, 957, 958, 959, 960, 961, 962, 963, 964, 965, 966, 967, 968, 969, 970, 971, 972, 973] (by decide +kernel) (by decide +kernel)
set_option maxRecDepth 20000 in
theorem gL_law_X8_rollBackTo : GoodIn wsL_law (wsV RL 120 RX8 yX8_rollBackTo wsX8_rollBackTo) := goodIn_app (goodIn_of _ (by decide +kernel)) ggL_law_X8_rollBackTo
set_option maxRecDepth 20000 in
theorem ggL_law_L_appendText : GoodIn wsL_law wsL_appendText := goodIn_ca (goodIn_ca (goodIn_r _ [529, 113, 114, 530, 531, 532, 2, 533, 121, 122, 123, 124, 36, 534, 535, 536, 35, 537, 88, 538, 539, 540, 541, 87, 948, 949, 950, 951, 952, 953, 989, 990, 991, 992, 993, 994] (by decide +kernel) (by decide +kernel)) (goodIn_sub (fun _ h => List.mem_append_left _ (List.mem_append_right _ h)) (by decide +kernel))) (goodIn_sub (fun _ h => List.mem_append_right _ h) (by decide +kernel))
set_option maxRecDepth 20000 in
theorem gL_law_L_appendText : GoodIn wsL_law (va_wsS RL 121 yL_appendText wsL_appendText) := goodIn_app (goodIn_of _ (by decide +kernel)) ggL_law_L_appendText
set_option maxRecDepth 20000 in
theorem ggL_law_X8_appendText : GoodIn wsL_law wsX8_appendText := goodIn_r _ [545, 546, 105, 181, 182, 5, 183, 198, 199, 200, 201, 202, 954, 955, 956, 957, 958, 959, 960, 961, 962, 963, 964, 965, 966, 967, 968, 969, 970, 971, 972, 973] (by decide +kernel) (by decide +kernel)
set_option maxRecDepth 20000 in
theorem gL_law_X8_appendText : GoodIn wsL_law (wsV RL 123 RX8 yX8_appendText wsX8_appendText) := goodIn_app (goodIn_of _ (by decide +kernel)) ggL_law_X8_appendText
set_option maxRecDepth 20000 in
theorem ggL_law_X7_clearText : GoodIn wsL_law wsX7_clearText := goodIn_r _ [550, 36, 534, 535, 536, 35, 537, 88, 551, 552, 553, 554, 948, 949, 950, 951, 952, 953, 989, 990, 991, 992, 993, 994] (by decide +kernel) (by decide +kernel)
set_option maxRecDepth 20000 in
theorem gL_law_X7_clearText : GoodIn wsL_law (wsV RL 124 RX7 yX7_clearText wsX7_clearText) := goodIn_app (goodIn_of _ (by decide +kernel)) ggL_law_X7_clearText
set_option maxRecDepth 20000 in
theorem ggL_law_X8_clearText : GoodIn wsL_law wsX8_clearText := goodIn_r _ [558, 202, 546, 954, 955, 956, 957, 958, 959, 960, 961, 962, 963, 964, 965, 966, 967, 968, 969, 970, 971, 972, 973] (by decide +kernel) (by decide +kernel)
set_option maxRecDepth 20000 in
theorem gL_law_X8_clearText : GoodIn wsL_law (wsV RL 127 RX8 yX8_clearText wsX8_clearText) := goodIn_app (goodIn_of _ (by decide +kernel)) ggL_law_X8_clearText
set_option maxRecDepth 20000 in
theorem ggL_law_X7_errorPosition : GoodIn wsL_law wsX7_errorPosition := goodIn_r _ [562, 36, 563, 564, 565, 35, 566, 89, 88, 567, 568, 569, 570, 571, 572, 573, 574, 90, 92, 575, 576, 577, 578, 87, 579, 580, 581, 582, 583, 584, 585, 586, 587, 588, 589, 590, 591, 592, 593, 594, 595, 596, 597, 598, 599, 600, 601, 602, 603, 604, 605, 606, 607, 608, 293, 609, 610, 292, 294, 611, 612, 613, 614, 615, 616, 617, 618, 619, 620, 621, 622, 623, 624, 625, 626, 627, 628, 629, 630, 631, 632, 633, 634, 635, 636, 637, 638, 639, 640, 641, 642, 643, 644, 645, 646, 647, 648, 649, 650, 651, 652, 653, 654, 655, 656, 657, 658, 659, 660, 661, 662, 663, 664, 665, 666, 667, 668, 669, 670, 671, 672, 673, 674, 675, 676, 677, 678, 679, 680, 681, 682, 683, 684, 685, 686, 687, 688, 689, 690, 691, 692, 693, 694, 695, 696, 697, 698, 699, 700, 91, 701, 702, 703, 704, 705, 706, 707, 708, 948, 949, 950, 951, 952, 953, 989, 990, 991, 992, 993, 994] (by decide +kernel) (by decide +kernel)
set_option maxRecDepth 20000 in
theorem gL_law_X7_errorPosition : GoodIn wsL_law (wsV RL 128 RX7 yX7_errorPosition wsX7_errorPosition) := goodIn_app (goodIn_of _ (by decide +kernel)) ggL_law_X7_errorPosition
set_option maxRecDepth 20000 in
theorem ggL_law_X8_errorPosition : GoodIn wsL_law wsX8_errorPosition := goodIn_r _ [712, 202, 713, 714, 715, 5, 716, 717, 546, 718, 719, 720, 721, 105, 722, 723, 724, 725, 726, 727, 728, 729, 730, 731, 732, 733, 734, 735, 736, 737, 738, 739, 740, 741, 181, 182, 183, 742, 743, 744, 745, 746, 747, 748, 749, 750, 751, 752, 753, 754, 755, 756, 757, 954, 955, 956, 957, 958, 959, 960, 961, 962, 963, 964, 965, 966, 967, 968, 969, 970, 971, 972, 973] (by decide +kernel) (by decide +kernel)
set_option maxRecDepth 20000 in
theorem gL_law_X8_errorPosition : GoodIn wsL_law (wsV RL 131 RX8 yX8_errorPosition wsX8_errorPosition) := goodIn_app (goodIn_of _ (by decide +kernel)) ggL_law_X8_errorPosition
set_option maxRecDepth 20000 in
theorem ggL_law_L_runText : GoodIn wsL_law wsL_runText := goodIn_ca (goodIn_r _ [760, 114, 761, 762, 763, 2, 764, 123, 124, 36, 563, 564, 565, 35, 566, 89, 88, 567, 568, 569, 570, 571, 572, 573, 574, 90, 92, 575, 576, 577, 578, 87, 579, 580, 581, 582, 583, 584, 585, 586, 587, 588, 589, 590, 591, 592, 593, 594, 595, 596, 597, 598, 599, 600, 601, 602, 603, 604, 605, 606, 607, 608, 293, 609, 610, 292, 294, 611, 612, 613, 614, 615, 616, 617, 618, 619, 620, 621, 622, 623, 624, 625, 626, 627, 628, 629, 630, 631, 632, 633, 634, 635, 636, 637, 638, 639, 640, 641, 642, 643, 644, 645, 646, 647, 648, 649, 650, 651, 652, 653, 654, 655, 656, 657, 658, 659, 660, 661, 662, 663, 664, 665, 666, 667, 668, 669, 670, 671, 672, 673, 674, 675, 676, 677, 678, 679, 680, 681, 682, 683, 684, 685, 686, 687, 688, 689, 690, 691, 692, 693, 694, 695, 696, 697, 698, 699, 700, 91, 701, 702, 703, 704, 705, 706, 707, 708, 765, 766, 767, 768, 769, 770, 771, 772, 773, 774, 270, 152, 153, 775, 776, 777, 778, 271, 272, 273, 274, 16, 275, 161, 162, 15, 163, 42, 276, 277, 278, 279, 43, 44, 280, 281, 282, 283, 284, 285, 286, 287, 288, 289, 290, 41, 291, 295, 296, 297, 298, 299, 300, 301, 302, 303, 304, 305, 306, 20, 307, 308, 309, 19, 310, 311, 239, 240, 241, 52, 142, 143, 144, 145, 49, 312, 147, 148, 149, 53, 150, 151, 154, 155, 156, 157, 158, 159, 160, 244, 245, 313, 314, 315, 316, 317, 318, 319, 320, 362, 363, 364, 365, 366, 367, 368, 369, 370, 371, 391, 392, 393, 394, 28, 395, 396, 397, 27, 398, 75, 76, 399, 400, 401, 60, 402, 69, 68, 403, 404, 405, 406, 67, 407, 408, 409, 410, 411, 412, 413, 414, 415, 416, 417, 418, 419, 420, 421, 422, 77, 423, 424, 425, 426, 50, 427, 428, 429, 430, 431, 456, 457, 458, 459, 32, 134, 135, 136, 137, 460, 461, 462, 463, 464, 465, 466, 31, 467, 82, 477, 478, 479, 480, 492, 493, 494, 495, 496, 497, 498, 499, 500, 501, 502, 503, 81, 515, 516, 517, 518, 519, 520, 521, 522, 779, 948, 949, 950, 951, 952, 953, 989, 990, 991, 992, 993, 994, 974, 975, 976, 977, 978, 979, 980, 984, 985, 986, 995, 996, 997, 987, 988] (by decide +kernel) (by decide +kernel)) (goodIn_sub (fun _ h => List.mem_append_right _ h) (by decide +kernel))
set_option maxRecDepth 20000 in
theorem gL_law_L_runText : GoodIn wsL_law (va_wsS RL 132 yL_runText wsL_runText) := goodIn_app (goodIn_of _ (by decide +kernel)) ggL_law_L_runText
set_option maxRecDepth 20000 in
theorem ggL_law_X8_runText : GoodIn wsL_law wsX8_runText := goodIn_r _ [783, 717, 713, 714, 715, 5, 716, 546, 718, 719, 720, 721, 105, 722, 723, 724, 725, 726, 727, 728, 729, 730, 731, 732, 733, 734, 735, 736, 737, 738, 739, 740, 741, 181, 182, 183, 742, 743, 744, 745, 746, 747, 748, 749, 750, 751, 752, 753, 754, 755, 756, 757, 198, 199, 200, 201, 202, 784, 785, 786, 787, 97, 472, 195, 196, 197, 788, 789, 790, 791, 331, 332, 333, 334, 177, 335, 336, 337, 338, 98, 339, 340, 341, 342, 103, 343, 344, 345, 346, 347, 348, 349, 350, 102, 187, 188, 189, 190, 191, 192, 193, 194, 99, 100, 254, 255, 256, 351, 352, 353, 354, 376, 377, 378, 379, 380, 381, 382, 383, 436, 437, 438, 439, 440, 441, 442, 443, 106, 101, 444, 445, 446, 447, 448, 449, 450, 451, 792, 505, 506, 507, 104, 793, 524, 525, 526, 794, 469, 470, 471, 795, 482, 483, 484, 954, 955, 956, 957, 958, 959, 960, 961, 962, 963, 964, 965, 966, 967, 968, 969, 970, 971, 972, 973] (by decide +kernel) (by decide +kernel)
set_option maxRecDepth 20000 in
theorem gL_law_X8_runText : GoodIn wsL_law (wsV RL 134 RX8 yX8_runText wsX8_runText) := goodIn_app (goodIn_of _ (by decide +kernel)) ggL_law_X8_runText
set_option maxRecDepth 20000 in
theorem ggL_law_L_exists : GoodIn wsL_law wsL_exists := goodIn_ca (goodIn_r _ [798, 112, 799, 800, 801, 2, 802, 119, 120, 16, 125, 126, 127, 264, 265, 266, 270, 152, 153, 275, 161, 162, 15, 163, 42, 948, 949, 950, 951, 952, 953, 974, 975, 976] (by decide +kernel) (by decide +kernel)) (goodIn_sub (fun _ h => List.mem_append_left _ (List.mem_append_left _ (List.mem_append_right _ h))) (by decide +kernel))
set_option maxRecDepth 20000 in
theorem gL_law_L_exists : GoodIn wsL_law (va_wsS RL 135 yL_exists wsL_exists) := goodIn_app (goodIn_of _ (by decide +kernel)) ggL_law_L_exists
set_option maxRecDepth 20000 in
theorem ggL_law_X8_exists : GoodIn wsL_law wsX8_exists := goodIn_r _ [806, 97, 178, 179, 5, 180, 181, 182, 183, 325, 326, 327, 198, 199, 200, 201, 202, 195, 196, 197, 954, 955, 956, 957, 958, 959, 960, 961, 962, 963, 964, 965, 966, 967, 968, 969, 970, 971, 972, 973] (by decide +kernel) (by decide +kernel)
set_option maxRecDepth 20000 in
theorem gL_law_X8_exists : GoodIn wsL_law (wsV RL 137 RX8 yX8_exists wsX8_exists) := goodIn_app (goodIn_of _ (by decide +kernel)) ggL_law_X8_exists
set_option maxRecDepth 20000 in
theorem ggL_law_L_value : GoodIn wsL_law wsL_value := goodIn_ca (goodIn_r _ [809, 112, 810, 811, 812, 2, 813, 119, 120, 16, 125, 126, 127, 264, 265, 266, 128, 129, 130, 270, 152, 153, 814, 157, 158, 15, 159, 42, 948, 949, 950, 951, 952, 953, 974, 975, 976] (by decide +kernel) (by decide +kernel)) (goodIn_sub (fun _ h => List.mem_append_left _ (List.mem_append_left _ (List.mem_append_right _ h))) (by decide +kernel))
set_option maxRecDepth 20000 in
theorem gL_law_L_value : GoodIn wsL_law (va_wsS RL 138 yL_value wsL_value) := goodIn_app (goodIn_of _ (by decide +kernel)) ggL_law_L_value
set_option maxRecDepth 20000 in
theorem ggL_law_X8_value : GoodIn wsL_law wsX8_value := goodIn_r _ [818, 97, 98, 178, 179, 5, 180, 181, 182, 183, 325, 326, 327, 184, 185, 186, 198, 199, 200, 201, 202, 195, 196, 197, 954, 955, 956, 957, 958, 959, 960, 961, 962, 963, 964, 965, 966, 967, 968, 969, 970, 971, 972, 973] (by decide +kernel) (by decide +kernel)
set_option maxRecDepth 20000 in
theorem gL_law_X8_value : GoodIn wsL_law (wsV RL 141 RX8 yX8_value wsX8_value) := goodIn_app (goodIn_of _ (by decide +kernel)) ggL_law_X8_value
set_option maxRecDepth 20000 in
theorem ggL_law_L_rows : GoodIn wsL_law wsL_rows := goodIn_ca (goodIn_r _ [821, 112, 822, 823, 824, 2, 825, 119, 120, 16, 125, 126, 127, 826, 827, 828, 15, 829, 152, 153, 830, 161, 162, 163, 42, 948, 949, 950, 951, 952, 953, 974, 975, 976] (by decide +kernel) (by decide +kernel)) (goodIn_sub (fun _ h => List.mem_append_left _ (List.mem_append_left _ (List.mem_append_right _ h))) (by decide +kernel))
set_option maxRecDepth 20000 in
theorem gL_law_L_rows : GoodIn wsL_law (va_wsS RL 142 yL_rows wsL_rows) := goodIn_app (goodIn_of _ (by decide +kernel)) ggL_law_L_rows
set_option maxRecDepth 20000 in
theorem ggL_law_X8_rows : GoodIn wsL_law wsX8_rows := goodIn_r _ [834, 97, 178, 179, 5, 180, 181, 182, 183, 198, 199, 200, 201, 202, 195, 196, 197, 954, 955, 956, 957, 958, 959, 960, 961, 962, 963, 964, 965, 966, 967, 968, 969, 970, 971, 972, 973] (by decide +kernel) (by decide +kernel)
set_option maxRecDepth 20000 in
theorem gL_law_X8_rows : GoodIn wsL_law (wsV RL 144 RX8 yX8_rows wsX8_rows) := goodIn_app (goodIn_of _ (by decide +kernel)) ggL_law_X8_rows
set_option maxRecDepth 20000 in
theorem ggL_law_L_references : GoodIn wsL_law wsL_references := goodIn_ca (goodIn_r _ [837, 112, 838, 839, 840, 2, 841, 119, 120, 24, 125, 126, 127, 264, 265, 266, 270, 152, 153, 842, 843, 844, 23, 845, 63, 150, 151, 846, 428, 429, 19, 430, 53, 142, 143, 144, 145, 49, 154, 155, 156, 157, 158, 15, 159, 42, 948, 949, 950, 951, 952, 953, 981, 982, 983, 977, 978, 979, 980, 974, 975, 976] (by decide +kernel) (by decide +kernel)) (goodIn_sub (fun _ h => List.mem_append_left _ (List.mem_append_left _ (List.mem_append_right _ h))) (by decide +kernel))
set_option maxRecDepth 20000 in
theorem gL_law_L_references : GoodIn wsL_law (va_wsS RL 145 yL_references wsL_references) := goodIn_app (goodIn_of _ (by decide +kernel)) ggL_law_L_references
set_option maxRecDepth 20000 in
theorem ggL_law_X8_references : GoodIn wsL_law wsX8_references := goodIn_r _ [850, 178, 179, 5, 180, 181, 182, 183, 325, 326, 327, 198, 199, 200, 201, 202, 191, 192, 193, 194, 97, 99, 98, 100, 195, 196, 197, 954, 955, 956, 957, 958, 959, 960, 961, 962, 963, 964, 965, 966, 967, 968, 969, 970, 971, 972, 973] (by decide +kernel) (by decide +kernel)
set_option maxRecDepth 20000 in
theorem gL_law_X8_references : GoodIn wsL_law (wsV RL 147 RX8 yX8_references wsX8_references) := goodIn_app (goodIn_of _ (by decide +kernel)) ggL_law_X8_references
set_option maxRecDepth 20000 in
theorem ggL_law_L_ancestors : GoodIn wsL_law wsL_ancestors := goodIn_ca (goodIn_r _ [853, 112, 854, 855, 856, 2, 857, 119, 120, 16, 24, 125, 126, 127, 264, 265, 266, 270, 152, 153, 275, 161, 162, 15, 163, 42, 858, 859, 860, 23, 861, 61, 862, 400, 401, 60, 402, 69, 68, 863, 864, 865, 866, 63, 62, 867, 868, 132, 133, 846, 428, 429, 19, 430, 53, 142, 143, 144, 145, 49, 154, 155, 156, 157, 158, 159, 869, 870, 404, 405, 406, 67, 871, 408, 409, 410, 872, 412, 413, 414, 948, 949, 950, 951, 952, 953, 974, 975, 976, 981, 982, 983, 995, 996, 997, 977, 978, 979, 980] (by decide +kernel) (by decide +kernel)) (goodIn_sub (fun _ h => List.mem_append_left _ (List.mem_append_left _ (List.mem_append_right _ h))) (by decide +kernel))
set_option maxRecDepth 20000 in
theorem gL_law_L_ancestors : GoodIn wsL_law (va_wsS RL 148 yL_ancestors wsL_ancestors) := goodIn_app (goodIn_of _ (by decide +kernel)) ggL_law_L_ancestors
set_option maxRecDepth 20000 in
theorem ggL_law_X8_ancestors : GoodIn wsL_law wsX8_ancestors := goodIn_r _ [876, 97, 107, 178, 179, 5, 180, 181, 182, 183, 325, 326, 327, 198, 199, 200, 201, 202, 195, 196, 197, 877, 878, 879, 880, 191, 192, 193, 194, 99, 98, 100, 954, 955, 956, 957, 958, 959, 960, 961, 962, 963, 964, 965, 966, 967, 968, 969, 970, 971, 972, 973] (by decide +kernel) (by decide +kernel)
set_option maxRecDepth 20000 in
theorem gL_law_X8_ancestors : GoodIn wsL_law (wsV RL 150 RX8 yX8_ancestors wsX8_ancestors) := goodIn_app (goodIn_of _ (by decide +kernel)) ggL_law_X8_ancestors
set_option maxRecDepth 20000 in
theorem ggL_law_L_constraint : GoodIn wsL_law wsL_constraint := goodIn_ca (goodIn_ca (goodIn_r _ [883, 112, 113, 884, 885, 886, 2, 887, 119, 120, 121, 122, 20, 125, 126, 127, 128, 129, 130, 131, 132, 133, 138, 139, 140, 19, 141, 142, 143, 144, 145, 49, 888, 889, 890, 891, 242, 892, 424, 425, 426, 50, 238, 239, 240, 241, 52, 146, 147, 148, 149, 53, 150, 151, 152, 153, 154, 155, 156, 157, 158, 15, 159, 42, 160, 161, 162, 163, 948, 949, 950, 951, 952, 953, 977, 978, 979, 980, 974, 975, 976] (by decide +kernel) (by decide +kernel)) (goodIn_sub (fun _ h => List.mem_append_left _ (List.mem_append_left _ (List.mem_append_right _ h))) (by decide +kernel))) (goodIn_sub (fun _ h => List.mem_append_left _ (List.mem_append_right _ h)) (by decide +kernel))
set_option maxRecDepth 20000 in
theorem gL_law_L_constraint : GoodIn wsL_law (va_wsS RL 151 yL_constraint wsL_constraint) := goodIn_app (goodIn_of _ (by decide +kernel)) ggL_law_L_constraint
set_option maxRecDepth 20000 in
theorem ggL_law_X8_constraint : GoodIn wsL_law wsX8_constraint := goodIn_r _ [896, 99, 100, 101, 102, 178, 179, 5, 180, 181, 182, 183, 184, 185, 186, 198, 199, 200, 201, 202, 187, 188, 189, 190, 97, 191, 192, 193, 194, 98, 195, 196, 197, 954, 955, 956, 957, 958, 959, 960, 961, 962, 963, 964, 965, 966, 967, 968, 969, 970, 971, 972, 973] (by decide +kernel) (by decide +kernel)
set_option maxRecDepth 20000 in
theorem gL_law_X8_constraint : GoodIn wsL_law (wsV RL 153 RX8 yX8_constraint wsX8_constraint) := goodIn_app (goodIn_of _ (by decide +kernel)) ggL_law_X8_constraint
set_option maxRecDepth 20000 in
theorem ggL_law_X7_constraints : GoodIn wsL_law wsX7_constraints := goodIn_r _ [900, 20, 168, 169, 170, 19, 171, 172, 139, 140, 141, 142, 143, 144, 145, 49, 948, 949, 950, 951, 952, 953, 977, 978, 979, 980] (by decide +kernel) (by decide +kernel)
set_option maxRecDepth 20000 in
theorem gL_law_X7_constraints : GoodIn wsL_law (wsV RL 154 RX7 yX7_constraints wsX7_constraints) := goodIn_app (goodIn_of _ (by decide +kernel)) ggL_law_X7_constraints
set_option maxRecDepth 20000 in
theorem ggL_law_X8_constraints : GoodIn wsL_law wsX8_constraints := goodIn_r _ [904, 202, 203, 204, 205, 5, 206, 99, 954, 955, 956, 957, 958, 959, 960, 961, 962, 963, 964, 965, 966, 967, 968, 969, 970, 971, 972, 973] (by decide +kernel) (by decide +kernel)
set_option maxRecDepth 20000 in
theorem gL_law_X8_constraints : GoodIn wsL_law (wsV RL 157 RX8 yX8_constraints wsX8_constraints) := goodIn_app (goodIn_of _ (by decide +kernel)) ggL_law_X8_constraints
set_option maxRecDepth 20000 in
theorem ggL_law_X7_firstViolation : GoodIn wsL_law wsX7_firstViolation := goodIn_r _ [908, 20, 307, 308, 309, 19, 310, 311, 239, 240, 241, 52, 142, 143, 144, 145, 49, 312, 147, 148, 149, 53, 150, 2, 151, 152, 153, 154, 155, 156, 157, 158, 15, 159, 42, 160, 161, 162, 163, 244, 245, 948, 949, 950, 951, 952, 953, 977, 978, 979, 980, 974, 975, 976] (by decide +kernel) (by decide +kernel)
set_option maxRecDepth 20000 in
theorem gL_law_X7_firstViolation : GoodIn wsL_law (wsV RL 158 RX7 yX7_firstViolation wsX7_firstViolation) := goodIn_app (goodIn_of _ (by decide +kernel)) ggL_law_X7_firstViolation
set_option maxRecDepth 20000 in
theorem ggL_law_X8_firstViolation : GoodIn wsL_law wsX8_firstViolation := goodIn_r _ [912, 202, 347, 348, 349, 5, 350, 102, 187, 188, 189, 190, 97, 191, 192, 193, 194, 99, 98, 100, 195, 196, 197, 254, 255, 256, 954, 955, 956, 957, 958, 959, 960, 961, 962, 963, 964, 965, 966, 967, 968, 969, 970, 971, 972, 973] (by decide +kernel) (by decide +kernel)
set_option maxRecDepth 20000 in
theorem gL_law_X8_firstViolation : GoodIn wsL_law (wsV RL 161 RX8 yX8_firstViolation wsX8_firstViolation) := goodIn_app (goodIn_of _ (by decide +kernel)) ggL_law_X8_firstViolation
set_option maxRecDepth 20000 in
theorem ggL_law_L_ifDeleted : GoodIn wsL_law wsL_ifDeleted := goodIn_ca (goodIn_r _ [915, 112, 916, 917, 918, 2, 919, 119, 120, 16, 125, 126, 127, 264, 265, 266, 134, 135, 136, 15, 137, 44, 270, 152, 153, 391, 392, 393, 394, 28, 275, 161, 162, 163, 42, 276, 277, 278, 279, 43, 280, 281, 282, 283, 284, 285, 286, 287, 288, 289, 290, 41, 291, 292, 293, 294, 295, 296, 297, 298, 395, 396, 397, 27, 398, 75, 76, 399, 400, 401, 60, 402, 69, 68, 403, 404, 405, 406, 67, 407, 408, 409, 410, 411, 412, 413, 414, 415, 416, 417, 418, 371, 300, 301, 302, 419, 420, 421, 422, 77, 423, 424, 425, 19, 426, 50, 150, 151, 427, 428, 429, 430, 53, 142, 143, 144, 145, 49, 154, 155, 156, 157, 158, 159, 431, 367, 368, 369, 370, 244, 245, 303, 304, 305, 306, 20, 307, 308, 309, 310, 311, 239, 240, 241, 52, 312, 147, 148, 149, 160, 313, 314, 315, 316, 317, 318, 319, 320, 948, 949, 950, 951, 952, 953, 974, 975, 976, 984, 985, 986, 995, 996, 997, 977, 978, 979, 980] (by decide +kernel) (by decide +kernel)) (goodIn_sub (fun _ h => List.mem_append_left _ (List.mem_append_left _ (List.mem_append_right _ h))) (by decide +kernel))
set_option maxRecDepth 20000 in
theorem gL_law_L_ifDeleted : GoodIn wsL_law (va_wsS RL 162 yL_ifDeleted wsL_ifDeleted) := goodIn_app (goodIn_of _ (by decide +kernel)) ggL_law_L_ifDeleted
set_option maxRecDepth 20000 in
theorem ggL_law_X8_ifDeleted : GoodIn wsL_law wsX8_ifDeleted := goodIn_r _ [923, 97, 177, 178, 179, 5, 180, 181, 182, 183, 325, 326, 327, 198, 199, 200, 201, 202, 195, 196, 197, 436, 437, 438, 439, 440, 441, 442, 443, 106, 101, 444, 445, 446, 447, 339, 340, 341, 342, 103, 98, 191, 192, 193, 194, 99, 100, 254, 255, 256, 448, 449, 450, 451, 380, 381, 382, 383, 343, 344, 345, 346, 347, 348, 349, 350, 102, 187, 188, 189, 190, 351, 352, 353, 354, 954, 955, 956, 957, 958, 959, 960, 961, 962, 963, 964, 965, 966, 967, 968, 969, 970, 971, 972, 973] (by decide +kernel) (by decide +kernel)
set_option maxRecDepth 20000 in
theorem gL_law_X8_ifDeleted : GoodIn wsL_law (wsV RL 164 RX8 yX8_ifDeleted wsX8_ifDeleted) := goodIn_app (goodIn_of _ (by decide +kernel)) ggL_law_X8_ifDeleted
set_option maxRecDepth 20000 in
theorem ggL_law_X7_changes : GoodIn wsL_law wsX7_changes := goodIn_r _ [927, 16, 134, 135, 136, 15, 137, 44, 948, 949, 950, 951, 952, 953, 974, 975, 976] (by decide +kernel) (by decide +kernel)
set_option maxRecDepth 20000 in
theorem gL_law_X7_changes : GoodIn wsL_law (wsV RL 165 RX7 yX7_changes wsX7_changes) := goodIn_app (goodIn_of _ (by decide +kernel)) ggL_law_X7_changes
set_option maxRecDepth 20000 in
theorem ggL_law_X8_changes : GoodIn wsL_law wsX8_changes := goodIn_r _ [931, 202, 177, 954, 955, 956, 957, 958, 959, 960, 961, 962, 963, 964, 965, 966, 967, 968, 969, 970, 971, 972, 973] (by decide +kernel) (by decide +kernel)
set_option maxRecDepth 20000 in
theorem gL_law_X8_changes : GoodIn wsL_law (wsV RL 168 RX8 yX8_changes wsX8_changes) := goodIn_app (goodIn_of _ (by decide +kernel)) ggL_law_X8_changes
set_option maxRecDepth 20000 in
theorem ggL_law_X7_savePoints : GoodIn wsL_law wsX7_savePoints := goodIn_r _ [935, 32, 496, 497, 498, 31, 499, 82, 948, 949, 950, 951, 952, 953, 987, 988] (by decide +kernel) (by decide +kernel)
set_option maxRecDepth 20000 in
theorem gL_law_X7_savePoints : GoodIn wsL_law (wsV RL 169 RX7 yX7_savePoints wsX7_savePoints) := goodIn_app (goodIn_of _ (by decide +kernel)) ggL_law_X7_savePoints
set_option maxRecDepth 20000 in
theorem ggL_law_X8_savePoints : GoodIn wsL_law wsX8_savePoints := goodIn_r _ [939, 202, 472, 954, 955, 956, 957, 958, 959, 960, 961, 962, 963, 964, 965, 966, 967, 968, 969, 970, 971, 972, 973] (by decide +kernel) (by decide +kernel)
set_option maxRecDepth 20000 in
theorem gL_law_X8_savePoints : GoodIn wsL_law (wsV RL 172 RX8 yX8_savePoints wsX8_savePoints) := goodIn_app (goodIn_of _ (by decide +kernel)) ggL_law_X8_savePoints
set_option maxRecDepth 20000 in
theorem ggL_law_X7_textLength : GoodIn wsL_law wsX7_textLength := goodIn_r _ [943, 36, 534, 535, 536, 35, 537, 88, 948, 949, 950, 951, 952, 953, 989, 990, 991, 992, 993, 994] (by decide +kernel) (by decide +kernel)
set_option maxRecDepth 20000 in
theorem gL_law_X7_textLength : GoodIn wsL_law (wsV RL 173 RX7 yX7_textLength wsX7_textLength) := goodIn_app (goodIn_of _ (by decide +kernel)) ggL_law_X7_textLength
set_option maxRecDepth 20000 in
theorem ggL_law_X8_textLength : GoodIn wsL_law wsX8_textLength := goodIn_r _ [947, 202, 546, 954, 955, 956, 957, 958, 959, 960, 961, 962, 963, 964, 965, 966, 967, 968, 969, 970, 971, 972, 973] (by decide +kernel) (by decide +kernel)
set_option maxRecDepth 20000 in
theorem gL_law_X8_textLength : GoodIn wsL_law (wsV RL 176 RX8 yX8_textLength wsX8_textLength) := goodIn_app (goodIn_of _ (by decide +kernel)) ggL_law_X8_textLength
theorem dL_law_0 : decode cL_law 0 = .ok (.new 8, 3) := by decide +kernel
theorem dL_law_3 : decode cL_law 3 = .ok (.dup, 1) := by decide +kernel
theorem dL_law_4 : decode cL_law 4 = .ok (.invokespecial 74, 3) := by decide +kernel
theorem dL_law_7 : decode cL_law 7 = .ok (.astore_n 1, 1) := by decide +kernel
theorem dL_law_8 : decode cL_law 8 = .ok (.new 75, 3) := by decide +kernel
theorem dL_law_11 : decode cL_law 11 = .ok (.dup, 1) := by decide +kernel
theorem dL_law_12 : decode cL_law 12 = .ok (.invokespecial 77, 3) := by decide +kernel
theorem dL_law_15 : decode cL_law 15 = .ok (.astore_n 2, 1) := by decide +kernel
theorem dL_law_16 : decode cL_law 16 = .ok (.iconst 1, 1) := by decide +kernel
theorem dL_law_17 : decode cL_law 17 = .ok (.newarray .long, 2) := by decide +kernel
theorem dL_law_19 : decode cL_law 19 = .ok (.astore_n 3, 1) := by decide +kernel
theorem dL_law_20 : decode cL_law 20 = .ok (.iconst 0, 1) := by decide +kernel
theorem dL_law_21 : decode cL_law 21 = .ok (.istore 4, 2) := by decide +kernel
theorem dL_law_23 : decode cL_law 23 = .ok (.iload 4, 2) := by decide +kernel
theorem dL_law_25 : decode cL_law 25 = .ok (.aload_n 0, 1) := by decide +kernel
theorem dL_law_26 : decode cL_law 26 = .ok (.arraylength, 1) := by decide +kernel
theorem dL_law_27 : decode cL_law 27 = .ok (.bipush 6, 2) := by decide +kernel
