set_option maxRecDepth 20000 in
theorem ggL_act_L_low : GoodIn wsL_act wsL_low := goodIn_r _ [4, 5] (by decide +kernel) (by decide +kernel)
set_option maxRecDepth 20000 in
theorem gL_act_L_low : GoodIn wsL_act (va_wsS RL 70 yL_low wsL_low) := goodIn_app (goodIn_of _ (by decide +kernel)) ggL_act_L_low
set_option maxRecDepth 20000 in
theorem ggL_act_L_define : GoodIn wsL_act wsL_define := goodIn_ca (goodIn_ca (goodIn_ca (goodIn_r _ [8, 9, 10, 11, 12, 13, 14, 15, 16, 17, 18, 19, 20, 21, 22, 23, 24, 25, 26, 27, 28, 29, 30, 31, 32, 33, 34, 35, 36, 37, 38, 39, 40, 41, 42, 43, 44, 45, 46, 47, 48, 49, 50, 51, 52, 53, 54, 55, 56, 57, 58, 59, 60, 61, 62, 63, 64, 65, 66, 67, 68, 69, 70, 71, 72, 73, 74, 75, 76, 77, 78, 79, 80, 81, 82, 83, 317, 318, 319, 320, 321, 322, 323, 324, 325, 326, 327, 328, 329] (by decide +kernel) (by decide +kernel)) (goodIn_sub (fun _ h => List.mem_cons_of_mem _ (List.mem_append_left _ (List.mem_append_left _ (List.mem_append_right _ h)))) (by decide +kernel))) (goodIn_sub (fun _ h => List.mem_cons_of_mem _ (List.mem_append_left _ (List.mem_append_right _ h))) (by decide +kernel))) (goodIn_sub (fun _ h => List.mem_cons_of_mem _ (List.mem_append_right _ h)) (by decide +kernel))
set_option maxRecDepth 20000 in
theorem gL_act_L_define : GoodIn wsL_act (va_wsS RL 75 yL_define wsL_define) := goodIn_app (goodIn_of _ (by decide +kernel)) ggL_act_L_define
set_option maxRecDepth 20000 in
theorem ggL_act_L_drop : GoodIn wsL_act wsL_drop := goodIn_ca (goodIn_ca (goodIn_r _ [86, 9, 11, 12, 13, 87, 88, 89, 18, 90, 20, 21, 24, 25, 26, 27, 28, 29, 30, 31, 32, 33, 34, 35, 36, 37, 38, 39, 40, 41, 42, 43, 44, 45, 46, 47, 48, 49, 50, 51, 52, 91, 92, 93, 94, 95, 74, 75, 76, 77, 78, 79, 80, 81, 82, 83, 317, 318, 319, 320, 321, 322, 323, 324, 325, 326, 327, 328, 329] (by decide +kernel) (by decide +kernel)) (goodIn_sub (fun _ h => List.mem_cons_of_mem _ (List.mem_append_left _ (List.mem_append_left _ (List.mem_append_right _ h)))) (by decide +kernel))) (goodIn_sub (fun _ h => List.mem_cons_of_mem _ (List.mem_append_right _ h)) (by decide +kernel))
set_option maxRecDepth 20000 in
theorem gL_act_L_drop : GoodIn wsL_act (va_wsS RL 78 yL_drop wsL_drop) := goodIn_app (goodIn_of _ (by decide +kernel)) ggL_act_L_drop
set_option maxRecDepth 20000 in
theorem ggL_act_L_setMode : GoodIn wsL_act wsL_setMode := goodIn_ca (goodIn_ca (goodIn_r _ [98, 9, 11, 12, 13, 99, 100, 101, 18, 102, 20, 21, 24, 25, 27, 28, 29, 30, 31, 32, 33, 34, 35, 36, 43, 44, 45, 46, 47, 48, 49, 50, 51, 52, 103, 104, 105, 106, 78, 107, 53, 54, 55, 56, 57, 58, 59, 60, 61, 62, 63, 64, 65, 66, 40, 67, 68, 69, 70, 71, 72, 108, 109, 110, 111, 112, 113, 114, 317, 318, 319, 320, 321, 322, 326, 327, 328, 329, 323, 324, 325] (by decide +kernel) (by decide +kernel)) (goodIn_sub (fun _ h => List.mem_cons_of_mem _ (List.mem_append_left _ (List.mem_append_left _ (List.mem_append_right _ h)))) (by decide +kernel))) (goodIn_sub (fun _ h => List.mem_cons_of_mem _ (List.mem_append_right _ h)) (by decide +kernel))
set_option maxRecDepth 20000 in
theorem gL_act_L_setMode : GoodIn wsL_act (va_wsS RL 81 yL_setMode wsL_setMode) := goodIn_app (goodIn_of _ (by decide +kernel)) ggL_act_L_setMode
set_option maxRecDepth 20000 in
theorem ggL_act_X7_commit : GoodIn wsL_act wsX7_commit := goodIn_r _ [118, 119, 120, 121, 18, 122, 27, 26, 123, 124, 125, 126, 46, 127, 128, 104, 105, 106, 78, 48, 49, 50, 51, 52, 129, 54, 55, 56, 57, 58, 59, 60, 61, 62, 63, 64, 65, 66, 40, 67, 68, 69, 70, 71, 72, 109, 110, 37, 38, 39, 41, 42, 130, 131, 132, 133, 134, 135, 136, 137, 138, 139, 317, 318, 319, 320, 321, 322, 326, 327, 328, 329, 323, 324, 325, 330, 331] (by decide +kernel) (by decide +kernel)
set_option maxRecDepth 20000 in
theorem gL_act_X7_commit : GoodIn wsL_act (wsV RL 84 RX7 yX7_commit wsX7_commit) := goodIn_app (goodIn_of _ (by decide +kernel)) ggL_act_X7_commit
set_option maxRecDepth 20000 in
theorem ggL_act_X7_rollBack : GoodIn wsL_act wsX7_rollBack := goodIn_r _ [143, 144, 145, 146, 18, 147, 123, 26, 134, 135, 136, 137, 138, 139, 148, 149, 150, 40, 151, 42, 152, 153, 154, 155, 156, 68, 317, 318, 319, 320, 321, 322, 330, 331, 323, 324, 325] (by decide +kernel) (by decide +kernel)
set_option maxRecDepth 20000 in
theorem gL_act_X7_rollBack : GoodIn wsL_act (wsV RL 87 RX7 yX7_rollBack wsX7_rollBack) := goodIn_app (goodIn_of _ (by decide +kernel)) ggL_act_X7_rollBack
set_option maxRecDepth 20000 in
theorem ggL_act_L_rollBackTo : GoodIn wsL_act wsL_rollBackTo := goodIn_ca (goodIn_r _ [159, 9, 12, 160, 161, 162, 18, 163, 20, 21, 164, 165, 166, 167, 123, 26, 168, 169, 170, 137, 171, 139, 134, 135, 136, 138, 172, 173, 174, 175, 176, 148, 149, 150, 40, 151, 42, 152, 153, 154, 155, 156, 68, 317, 318, 319, 320, 321, 322, 330, 331, 323, 324, 325] (by decide +kernel) (by decide +kernel)) (goodIn_sub (fun _ h => List.mem_cons_of_mem _ (List.mem_append_left _ (List.mem_append_left _ (List.mem_append_right _ h)))) (by decide +kernel))
set_option maxRecDepth 20000 in
theorem gL_act_L_rollBackTo : GoodIn wsL_act (va_wsS RL 90 yL_rollBackTo wsL_rollBackTo) := goodIn_app (goodIn_of _ (by decide +kernel)) ggL_act_L_rollBackTo
set_option maxRecDepth 20000 in
theorem ggL_act_L_savePoint : GoodIn wsL_act wsL_savePoint := goodIn_ca (goodIn_r _ [179, 11, 12, 180, 181, 182, 18, 183, 24, 25, 184, 185, 186, 187, 123, 26, 168, 169, 170, 137, 171, 139, 37, 38, 39, 40, 41, 42, 188, 189, 190, 191, 176, 317, 318, 319, 320, 321, 322, 330, 331, 323, 324, 325] (by decide +kernel) (by decide +kernel)) (goodIn_sub (fun _ h => List.mem_cons_of_mem _ (List.mem_append_right _ h)) (by decide +kernel))
set_option maxRecDepth 20000 in
theorem gL_act_L_savePoint : GoodIn wsL_act (va_wsS RL 93 yL_savePoint wsL_savePoint) := goodIn_app (goodIn_of _ (by decide +kernel)) ggL_act_L_savePoint
set_option maxRecDepth 20000 in
theorem ggL_act_L_delete : GoodIn wsL_act wsL_delete := goodIn_ca (goodIn_ca (goodIn_r _ [194, 9, 11, 12, 13, 195, 196, 197, 18, 198, 20, 21, 24, 25, 28, 29, 30, 199, 200, 201, 202, 60, 61, 203, 204, 205, 206, 26, 207, 208, 70, 71, 40, 72, 68, 209, 210, 211, 212, 152, 42, 213, 214, 215, 216, 217, 218, 219, 220, 221, 222, 223, 224, 225, 226, 227, 228, 229, 230, 231, 232, 233, 234, 235, 236, 237, 238, 239, 240, 241, 242, 243, 244, 245, 246, 247, 248, 249, 250, 251, 252, 253, 254, 255, 256, 257, 258, 259, 260, 261, 262, 263, 264, 265, 266, 267, 268, 269, 270, 271, 272, 273, 274, 275, 46, 276, 77, 58, 59, 277, 278, 279, 280, 57, 48, 49, 50, 51, 52, 62, 63, 64, 65, 66, 67, 281, 282, 283, 284, 285, 109, 110, 286, 287, 288, 289, 27, 124, 125, 126, 127, 128, 104, 105, 106, 78, 129, 54, 55, 56, 69, 148, 149, 150, 151, 153, 154, 155, 156, 317, 318, 319, 320, 321, 322, 323, 324, 325, 332, 333, 334, 335, 336, 337, 326, 327, 328, 329] (by decide +kernel) (by decide +kernel)) (goodIn_sub (fun _ h => List.mem_cons_of_mem _ (List.mem_append_left _ (List.mem_append_left _ (List.mem_append_right _ h)))) (by decide +kernel))) (goodIn_sub (fun _ h => List.mem_cons_of_mem _ (List.mem_append_right _ h)) (by decide +kernel))
set_option maxRecDepth 20000 in
theorem gL_act_L_delete : GoodIn wsL_act (va_wsS RL 96 yL_delete wsL_delete) := goodIn_app (goodIn_of _ (by decide +kernel)) ggL_act_L_delete
set_option maxRecDepth 20000 in
theorem ggL_act_L_update : GoodIn wsL_act wsL_update := goodIn_ca (goodIn_ca (goodIn_ca (goodIn_r _ [292, 9, 10, 11, 12, 13, 14, 293, 294, 295, 18, 296, 20, 21, 22, 23, 24, 25, 28, 29, 30, 199, 200, 201, 31, 32, 33, 297, 298, 299, 202, 60, 61, 300, 301, 302, 303, 26, 208, 70, 71, 40, 72, 68, 209, 210, 211, 212, 152, 42, 213, 214, 215, 216, 217, 218, 219, 220, 221, 222, 223, 224, 225, 226, 227, 228, 229, 230, 231, 232, 304, 282, 283, 284, 285, 65, 66, 67, 264, 265, 266, 267, 286, 287, 288, 289, 27, 124, 125, 126, 46, 127, 128, 104, 105, 106, 78, 48, 49, 50, 51, 52, 129, 54, 55, 56, 57, 58, 59, 62, 63, 64, 69, 109, 110, 148, 149, 150, 151, 153, 154, 155, 156, 317, 318, 319, 320, 321, 322, 323, 324, 325, 326, 327, 328, 329] (by decide +kernel) (by decide +kernel)) (goodIn_sub (fun _ h => List.mem_cons_of_mem _ (List.mem_append_left _ (List.mem_append_left _ (List.mem_append_right _ h)))) (by decide +kernel))) (goodIn_sub (fun _ h => List.mem_cons_of_mem _ (List.mem_append_left _ (List.mem_append_right _ h))) (by decide +kernel))) (goodIn_sub (fun _ h => List.mem_cons_of_mem _ (List.mem_append_right _ h)) (by decide +kernel))
set_option maxRecDepth 20000 in
theorem gL_act_L_update : GoodIn wsL_act (va_wsS RL 98 yL_update wsL_update) := goodIn_app (goodIn_of _ (by decide +kernel)) ggL_act_L_update
set_option maxRecDepth 20000 in
theorem ggL_act_L_insert : GoodIn wsL_act wsL_insert := goodIn_ca (goodIn_ca (goodIn_ca (goodIn_r _ [307, 9, 10, 11, 12, 13, 14, 308, 309, 310, 18, 311, 20, 21, 22, 23, 24, 25, 28, 29, 30, 199, 200, 201, 297, 298, 299, 202, 60, 61, 312, 313, 314, 315, 26, 208, 70, 71, 40, 72, 68, 209, 210, 211, 212, 152, 42, 213, 214, 215, 216, 217, 218, 219, 220, 221, 222, 223, 224, 225, 226, 227, 228, 229, 230, 231, 232, 316, 265, 266, 267, 286, 287, 288, 289, 27, 124, 125, 126, 46, 127, 128, 104, 105, 106, 78, 48, 49, 50, 51, 52, 129, 54, 55, 56, 57, 58, 59, 62, 63, 64, 65, 66, 67, 69, 109, 110, 148, 149, 150, 151, 153, 154, 155, 156, 317, 318, 319, 320, 321, 322, 323, 324, 325, 326, 327, 328, 329] (by decide +kernel) (by decide +kernel)) (goodIn_sub (fun _ h => List.mem_cons_of_mem _ (List.mem_append_left _ (List.mem_append_left _ (List.mem_append_right _ h)))) (by decide +kernel))) (goodIn_sub (fun _ h => List.mem_cons_of_mem _ (List.mem_append_left _ (List.mem_append_right _ h))) (by decide +kernel))) (goodIn_sub (fun _ h => List.mem_cons_of_mem _ (List.mem_append_right _ h)) (by decide +kernel))
set_option maxRecDepth 20000 in
theorem gL_act_L_insert : GoodIn wsL_act (va_wsS RL 101 yL_insert wsL_insert) := goodIn_app (goodIn_of _ (by decide +kernel)) ggL_act_L_insert
theorem dL_act_0 : decode cL_act 0 = .ok (.iload_n 1, 1) := by decide +kernel
theorem dL_act_1 : decode cL_act 1 = .ok (.iconst 5, 1) := by decide +kernel
theorem dL_act_2 : decode cL_act 2 = .ok (.ishr, 1) := by decide +kernel
theorem dL_act_3 : decode cL_act 3 = .ok (.iconst 4, 1) := by decide +kernel
theorem dL_act_4 : decode cL_act 4 = .ok (.invokestatic 70, 3) := by decide +kernel
theorem dL_act_7 : decode cL_act 7 = .ok (.istore_n 3, 1) := by decide +kernel
theorem dL_act_8 : decode cL_act 8 = .ok (.iload_n 1, 1) := by decide +kernel
theorem dL_act_9 : decode cL_act 9 = .ok (.bipush 7, 2) := by decide +kernel
theorem dL_act_11 : decode cL_act 11 = .ok (.ishr, 1) := by decide +kernel
theorem dL_act_12 : decode cL_act 12 = .ok (.iload_n 1, 1) := by decide +kernel
theorem dL_act_13 : decode cL_act 13 = .ok (.bipush 12, 2) := by decide +kernel
theorem dL_act_15 : decode cL_act 15 = .ok (.ishr, 1) := by decide +kernel
theorem dL_act_16 : decode cL_act 16 = .ok (.iconst 4, 1) := by decide +kernel
theorem dL_act_17 : decode cL_act 17 = .ok (.invokestatic 70, 3) := by decide +kernel
theorem dL_act_20 : decode cL_act 20 = .ok (.ifCond .ne 8, 3) := by decide +kernel
theorem dL_act_23 : decode cL_act 23 = .ok (.bipush 20, 2) := by decide +kernel
theorem dL_act_25 : decode cL_act 25 = .ok (.goto 4, 3) := by decide +kernel
theorem dL_act_28 : decode cL_act 28 = .ok (.iconst 4, 1) := by decide +kernel
theorem dL_act_29 : decode cL_act 29 = .ok (.invokestatic 70, 3) := by decide +kernel
theorem dL_act_32 : decode cL_act 32 = .ok (.istore 4, 2) := by decide +kernel
theorem dL_act_34 : decode cL_act 34 = .ok (.iload_n 2, 1) := by decide +kernel
theorem dL_act_35 : decode cL_act 35 = .ok (.iconst 4, 1) := by decide +kernel
theorem dL_act_36 : decode cL_act 36 = .ok (.invokestatic 70, 3) := by decide +kernel
theorem dL_act_39 : decode cL_act 39 = .ok (.ifCond .ne 7, 3) := by decide +kernel
theorem dL_act_42 : decode cL_act 42 = .ok (.iconst (-1), 1) := by decide +kernel
theorem dL_act_43 : decode cL_act 43 = .ok (.goto 27, 3) := by decide +kernel
theorem dL_act_46 : decode cL_act 46 = .ok (.iload_n 2, 1) := by decide +kernel
theorem dL_act_47 : decode cL_act 47 = .ok (.iconst 2, 1) := by decide +kernel
theorem dL_act_48 : decode cL_act 48 = .ok (.ishr, 1) := by decide +kernel
theorem dL_act_49 : decode cL_act 49 = .ok (.iload_n 2, 1) := by decide +kernel
theorem dL_act_50 : decode cL_act 50 = .ok (.bipush 8, 2) := by decide +kernel
theorem dL_act_52 : decode cL_act 52 = .ok (.ishr, 1) := by decide +kernel
theorem dL_act_53 : decode cL_act 53 = .ok (.bipush 6, 2) := by decide +kernel
theorem dL_act_55 : decode cL_act 55 = .ok (.invokestatic 70, 3) := by decide +kernel
theorem dL_act_58 : decode cL_act 58 = .ok (.ifCond .ne 8, 3) := by decide +kernel
theorem dL_act_61 : decode cL_act 61 = .ok (.bipush 20, 2) := by decide +kernel
theorem dL_act_63 : decode cL_act 63 = .ok (.goto 4, 3) := by decide +kernel
theorem dL_act_66 : decode cL_act 66 = .ok (.iconst 4, 1) := by decide +kernel
theorem dL_act_67 : decode cL_act 67 = .ok (.invokestatic 70, 3) := by decide +kernel
theorem dL_act_70 : decode cL_act 70 = .ok (.istore 5, 2) := by decide +kernel
theorem dL_act_72 : decode cL_act 72 = .ok (.iload_n 1, 1) := by decide +kernel
theorem dL_act_73 : decode cL_act 73 = .ok (.bipush 19, 2) := by decide +kernel
theorem dL_act_75 : decode cL_act 75 = .ok (.invokestatic 70, 3) := by decide +kernel
theorem dL_act_78 : decode cL_act 78 = .ok (.tableswitch 218 0 12 #[66, 66, 106, 157, 162, 187, 192, 192, 192, 200, 200, 200, 200], 66) := by decide +kernel
theorem dL_act_144 : decode cL_act 144 = .ok (.aload_n 0, 1) := by decide +kernel
theorem dL_act_145 : decode cL_act 145 = .ok (.iload_n 3, 1) := by decide +kernel
theorem dL_act_146 : decode cL_act 146 = .ok (.iload_n 2, 1) := by decide +kernel
theorem dL_act_147 : decode cL_act 147 = .ok (.iconst 2, 1) := by decide +kernel
theorem dL_act_148 : decode cL_act 148 = .ok (.invokestatic 70, 3) := by decide +kernel
theorem dL_act_151 : decode cL_act 151 = .ok (.iload_n 2, 1) := by decide +kernel
theorem dL_act_152 : decode cL_act 152 = .ok (.iconst 1, 1) := by decide +kernel
theorem dL_act_153 : decode cL_act 153 = .ok (.ishr, 1) := by decide +kernel
theorem dL_act_154 : decode cL_act 154 = .ok (.iconst 4, 1) := by decide +kernel
theorem dL_act_155 : decode cL_act 155 = .ok (.invokestatic 70, 3) := by decide +kernel
theorem dL_act_158 : decode cL_act 158 = .ok (.iload_n 2, 1) := by decide +kernel
theorem dL_act_159 : decode cL_act 159 = .ok (.iconst 3, 1) := by decide +kernel
theorem dL_act_160 : decode cL_act 160 = .ok (.ishr, 1) := by decide +kernel
theorem dL_act_161 : decode cL_act 161 = .ok (.iconst 4, 1) := by decide +kernel
theorem dL_act_162 : decode cL_act 162 = .ok (.invokestatic 70, 3) := by decide +kernel
theorem dL_act_165 : decode cL_act 165 = .ok (.iload_n 2, 1) := by decide +kernel
theorem dL_act_166 : decode cL_act 166 = .ok (.iconst 5, 1) := by decide +kernel
theorem dL_act_167 : decode cL_act 167 = .ok (.ishr, 1) := by decide +kernel
theorem dL_act_168 : decode cL_act 168 = .ok (.iconst 3, 1) := by decide +kernel
theorem dL_act_169 : decode cL_act 169 = .ok (.invokestatic 70, 3) := by decide +kernel
theorem dL_act_172 : decode cL_act 172 = .ok (.ifCond .ne 7, 3) := by decide +kernel
theorem dL_act_175 : decode cL_act 175 = .ok (.iconst 1, 1) := by decide +kernel
theorem dL_act_176 : decode cL_act 176 = .ok (.goto 4, 3) := by decide +kernel
theorem dL_act_179 : decode cL_act 179 = .ok (.iconst 0, 1) := by decide +kernel
theorem dL_act_180 : decode cL_act 180 = .ok (.invokestatic 75, 3) := by decide +kernel
theorem dL_act_183 : decode cL_act 183 = .ok (.ireturn, 1) := by decide +kernel
theorem dL_act_184 : decode cL_act 184 = .ok (.iload_n 2, 1) := by decide +kernel
theorem dL_act_185 : decode cL_act 185 = .ok (.iconst 3, 1) := by decide +kernel
theorem dL_act_186 : decode cL_act 186 = .ok (.invokestatic 70, 3) := by decide +kernel
theorem dL_act_189 : decode cL_act 189 = .ok (.ifCond .ne 18, 3) := by decide +kernel
theorem dL_act_192 : decode cL_act 192 = .ok (.aload_n 0, 1) := by decide +kernel
theorem dL_act_193 : decode cL_act 193 = .ok (.iload_n 3, 1) := by decide +kernel
theorem dL_act_194 : decode cL_act 194 = .ok (.iload_n 2, 1) := by decide +kernel
theorem dL_act_195 : decode cL_act 195 = .ok (.iconst 2, 1) := by decide +kernel
theorem dL_act_196 : decode cL_act 196 = .ok (.ishr, 1) := by decide +kernel
theorem dL_act_197 : decode cL_act 197 = .ok (.iconst 2, 1) := by decide +kernel
theorem dL_act_198 : decode cL_act 198 = .ok (.invokestatic 70, 3) := by decide +kernel
theorem dL_act_201 : decode cL_act 201 = .ok (.invokestatic 78, 3) := by decide +kernel
theorem dL_act_204 : decode cL_act 204 = .ok (.goto 30, 3) := by decide +kernel
theorem dL_act_207 : decode cL_act 207 = .ok (.aload_n 0, 1) := by decide +kernel
theorem dL_act_208 : decode cL_act 208 = .ok (.iload_n 3, 1) := by decide +kernel
theorem dL_act_209 : decode cL_act 209 = .ok (.iload_n 2, 1) := by decide +kernel
theorem dL_act_210 : decode cL_act 210 = .ok (.iconst 2, 1) := by decide +kernel
theorem dL_act_211 : decode cL_act 211 = .ok (.ishr, 1) := by decide +kernel
theorem dL_act_212 : decode cL_act 212 = .ok (.iconst 2, 1) := by decide +kernel
theorem dL_act_213 : decode cL_act 213 = .ok (.invokestatic 70, 3) := by decide +kernel
theorem dL_act_216 : decode cL_act 216 = .ok (.iload_n 2, 1) := by decide +kernel
theorem dL_act_217 : decode cL_act 217 = .ok (.iconst 3, 1) := by decide +kernel
theorem dL_act_218 : decode cL_act 218 = .ok (.ishr, 1) := by decide +kernel
theorem dL_act_219 : decode cL_act 219 = .ok (.iconst 2, 1) := by decide +kernel
theorem dL_act_220 : decode cL_act 220 = .ok (.invokestatic 70, 3) := by decide +kernel
theorem dL_act_223 : decode cL_act 223 = .ok (.ifCond .ne 7, 3) := by decide +kernel
theorem dL_act_226 : decode cL_act 226 = .ok (.iconst 1, 1) := by decide +kernel
theorem dL_act_227 : decode cL_act 227 = .ok (.goto 4, 3) := by decide +kernel
theorem dL_act_230 : decode cL_act 230 = .ok (.iconst 0, 1) := by decide +kernel
theorem dL_act_231 : decode cL_act 231 = .ok (.invokestatic 81, 3) := by decide +kernel
theorem dL_act_234 : decode cL_act 234 = .ok (.ireturn, 1) := by decide +kernel
theorem dL_act_235 : decode cL_act 235 = .ok (.aload_n 0, 1) := by decide +kernel
theorem dL_act_236 : decode cL_act 236 = .ok (.invokevirtual 84, 3) := by decide +kernel
theorem dL_act_239 : decode cL_act 239 = .ok (.ireturn, 1) := by decide +kernel
theorem dL_act_240 : decode cL_act 240 = .ok (.iload_n 2, 1) := by decide +kernel
theorem dL_act_241 : decode cL_act 241 = .ok (.iconst 3, 1) := by decide +kernel
theorem dL_act_242 : decode cL_act 242 = .ok (.invokestatic 70, 3) := by decide +kernel
theorem dL_act_245 : decode cL_act 245 = .ok (.ifCond .ne 10, 3) := by decide +kernel
theorem dL_act_248 : decode cL_act 248 = .ok (.aload_n 0, 1) := by decide +kernel
theorem dL_act_249 : decode cL_act 249 = .ok (.invokevirtual 87, 3) := by decide +kernel
theorem dL_act_252 : decode cL_act 252 = .ok (.goto 12, 3) := by decide +kernel
theorem dL_act_255 : decode cL_act 255 = .ok (.aload_n 0, 1) := by decide +kernel
theorem dL_act_256 : decode cL_act 256 = .ok (.iload_n 2, 1) := by decide +kernel
theorem dL_act_257 : decode cL_act 257 = .ok (.iconst 3, 1) := by decide +kernel
theorem dL_act_258 : decode cL_act 258 = .ok (.invokestatic 70, 3) := by decide +kernel
theorem dL_act_261 : decode cL_act 261 = .ok (.invokestatic 90, 3) := by decide +kernel
theorem dL_act_264 : decode cL_act 264 = .ok (.ireturn, 1) := by decide +kernel
theorem dL_act_265 : decode cL_act 265 = .ok (.aload_n 0, 1) := by decide +kernel
theorem dL_act_266 : decode cL_act 266 = .ok (.invokestatic 93, 3) := by decide +kernel
theorem dL_act_269 : decode cL_act 269 = .ok (.ireturn, 1) := by decide +kernel
theorem dL_act_270 : decode cL_act 270 = .ok (.aload_n 0, 1) := by decide +kernel
theorem dL_act_271 : decode cL_act 271 = .ok (.iload_n 3, 1) := by decide +kernel
theorem dL_act_272 : decode cL_act 272 = .ok (.iload 4, 2) := by decide +kernel
theorem dL_act_274 : decode cL_act 274 = .ok (.invokestatic 96, 3) := by decide +kernel
theorem dL_act_277 : decode cL_act 277 = .ok (.ireturn, 1) := by decide +kernel
theorem dL_act_278 : decode cL_act 278 = .ok (.aload_n 0, 1) := by decide +kernel
theorem dL_act_279 : decode cL_act 279 = .ok (.iload_n 3, 1) := by decide +kernel
theorem dL_act_280 : decode cL_act 280 = .ok (.iload 4, 2) := by decide +kernel
theorem dL_act_282 : decode cL_act 282 = .ok (.iload_n 2, 1) := by decide +kernel
theorem dL_act_283 : decode cL_act 283 = .ok (.bipush 9, 2) := by decide +kernel
theorem dL_act_285 : decode cL_act 285 = .ok (.ishr, 1) := by decide +kernel
theorem dL_act_286 : decode cL_act 286 = .ok (.iconst 2, 1) := by decide +kernel
theorem dL_act_287 : decode cL_act 287 = .ok (.invokestatic 70, 3) := by decide +kernel
theorem dL_act_290 : decode cL_act 290 = .ok (.iload 5, 2) := by decide +kernel
theorem dL_act_292 : decode cL_act 292 = .ok (.invokestatic 98, 3) := by decide +kernel
theorem dL_act_295 : decode cL_act 295 = .ok (.ireturn, 1) := by decide +kernel
theorem dL_act_296 : decode cL_act 296 = .ok (.aload_n 0, 1) := by decide +kernel
theorem dL_act_297 : decode cL_act 297 = .ok (.iload_n 3, 1) := by decide +kernel
theorem dL_act_298 : decode cL_act 298 = .ok (.iload 4, 2) := by decide +kernel
theorem dL_act_300 : decode cL_act 300 = .ok (.iload 5, 2) := by decide +kernel
theorem dL_act_302 : decode cL_act 302 = .ok (.iload_n 2, 1) := by decide +kernel
theorem dL_act_303 : decode cL_act 303 = .ok (.bipush 10, 2) := by decide +kernel
theorem dL_act_305 : decode cL_act 305 = .ok (.ishr, 1) := by decide +kernel
theorem dL_act_306 : decode cL_act 306 = .ok (.iconst 2, 1) := by decide +kernel
theorem dL_act_307 : decode cL_act 307 = .ok (.invokestatic 70, 3) := by decide +kernel
theorem dL_act_310 : decode cL_act 310 = .ok (.ifCond .ne 7, 3) := by decide +kernel
theorem dL_act_313 : decode cL_act 313 = .ok (.iconst (-1), 1) := by decide +kernel
theorem dL_act_314 : decode cL_act 314 = .ok (.goto 11, 3) := by decide +kernel
theorem dL_act_317 : decode cL_act 317 = .ok (.iload_n 2, 1) := by decide +kernel
theorem dL_act_318 : decode cL_act 318 = .ok (.bipush 11, 2) := by decide +kernel
theorem dL_act_320 : decode cL_act 320 = .ok (.ishr, 1) := by decide +kernel
theorem dL_act_321 : decode cL_act 321 = .ok (.iconst 4, 1) := by decide +kernel
theorem dL_act_322 : decode cL_act 322 = .ok (.invokestatic 70, 3) := by decide +kernel
theorem dL_act_325 : decode cL_act 325 = .ok (.invokestatic 101, 3) := by decide +kernel
theorem dL_act_328 : decode cL_act 328 = .ok (.ireturn, 1) := by decide +kernel
set_option maxRecDepth 20000 in
theorem ggL_hangs_L_constraint : GoodIn wsL_hangs wsL_constraint := goodIn_ca (goodIn_ca (goodIn_r _ [4, 5, 6, 7, 8, 9, 10, 11, 12, 13, 14, 15, 16, 17, 18, 19, 20, 21, 22, 23, 24, 25, 26, 27, 28, 29, 30, 31, 32, 33, 34, 35, 36, 37, 38, 39, 40, 41, 42, 43, 44, 45, 46, 47, 48, 49, 50, 51, 52, 53, 54, 55, 56, 57, 58, 59, 60, 61, 62, 63, 64, 65, 66, 67, 68, 69, 70, 71, 72, 73, 268, 269, 270, 271, 272, 273, 274, 275, 276, 277, 278, 279, 280] (by decide +kernel) (by decide +kernel)) (goodIn_sub (fun _ h => List.mem_cons_of_mem _ (List.mem_append_left _ (List.mem_append_right _ h))) (by decide +kernel))) (goodIn_sub (fun _ h => List.mem_cons_of_mem _ (List.mem_append_right _ h)) (by decide +kernel))
set_option maxRecDepth 20000 in
theorem gL_hangs_L_constraint : GoodIn wsL_hangs (va_wsS RL 103 yL_constraint wsL_constraint) := goodIn_app (goodIn_of _ (by decide +kernel)) ggL_hangs_L_constraint
set_option maxRecDepth 20000 in
theorem ggL_hangs_L_value : GoodIn wsL_hangs wsL_value := goodIn_ca (goodIn_r _ [76, 5, 7, 77, 78, 79, 12, 80, 14, 15, 81, 19, 20, 21, 82, 83, 84, 22, 23, 24, 85, 60, 61, 86, 65, 66, 67, 68, 69, 268, 269, 270, 271, 272, 273, 278, 279, 280] (by decide +kernel) (by decide +kernel)) (goodIn_sub (fun _ h => List.mem_cons_of_mem _ (List.mem_append_left _ (List.mem_append_right _ h))) (by decide +kernel))
set_option maxRecDepth 20000 in
theorem gL_hangs_L_value : GoodIn wsL_hangs (va_wsS RL 106 yL_value wsL_value) := goodIn_app (goodIn_of _ (by decide +kernel)) ggL_hangs_L_value
set_option maxRecDepth 20000 in
theorem ggL_hangs_X7_exists : GoodIn wsL_hangs wsX7_exists := goodIn_ca (goodIn_r _ [90, 14, 15, 81, 19, 20, 12, 21, 82, 83, 84, 85, 60, 61, 91, 71, 72, 67, 73, 69, 268, 269, 270, 271, 272, 273, 278, 279, 280] (by decide +kernel) (by decide +kernel)) (goodIn_sub (fun _ h => List.mem_cons_of_mem _ (List.mem_append_left _ (List.mem_append_right _ h))) (by decide +kernel))
set_option maxRecDepth 20000 in
theorem gL_hangs_X7_exists : GoodIn wsL_hangs (wsV RL 108 RX7 yX7_exists wsX7_exists) := goodIn_app (goodIn_of _ (by decide +kernel)) ggL_hangs_X7_exists
set_option maxRecDepth 20000 in
theorem ggL_hangs_L_ancestors : GoodIn wsL_hangs wsL_ancestors := goodIn_ca (goodIn_r _ [94, 5, 7, 95, 96, 97, 12, 98, 14, 15, 81, 99, 19, 20, 21, 82, 83, 84, 85, 60, 61, 91, 71, 72, 67, 73, 69, 100, 101, 102, 103, 104, 105, 106, 107, 108, 109, 110, 111, 112, 113, 114, 115, 116, 117, 118, 119, 120, 26, 27, 121, 122, 123, 31, 124, 57, 33, 34, 35, 36, 37, 62, 63, 64, 65, 66, 68, 125, 126, 127, 128, 129, 130, 131, 132, 133, 134, 135, 136, 137, 138, 268, 269, 270, 271, 272, 273, 278, 279, 280, 281, 282, 283, 284, 285, 286, 274, 275, 276, 277] (by decide +kernel) (by decide +kernel)) (goodIn_sub (fun _ h => List.mem_cons_of_mem _ (List.mem_append_left _ (List.mem_append_right _ h))) (by decide +kernel))
set_option maxRecDepth 20000 in
theorem gL_hangs_L_ancestors : GoodIn wsL_hangs (va_wsS RL 112 yL_ancestors wsL_ancestors) := goodIn_app (goodIn_of _ (by decide +kernel)) ggL_hangs_L_ancestors
set_option maxRecDepth 20000 in
theorem ggL_hangs_L_references : GoodIn wsL_hangs wsL_references := goodIn_ca (goodIn_r _ [141, 5, 7, 142, 143, 144, 12, 145, 14, 15, 99, 19, 20, 21, 82, 83, 84, 85, 60, 61, 146, 147, 148, 103, 149, 117, 58, 59, 121, 122, 123, 31, 124, 57, 33, 34, 35, 36, 37, 62, 63, 64, 65, 66, 67, 68, 69, 268, 269, 270, 271, 272, 273, 281, 282, 283, 274, 275, 276, 277, 278, 279, 280] (by decide +kernel) (by decide +kernel)) (goodIn_sub (fun _ h => List.mem_cons_of_mem _ (List.mem_append_left _ (List.mem_append_right _ h))) (by decide +kernel))
set_option maxRecDepth 20000 in
theorem gL_hangs_L_references : GoodIn wsL_hangs (va_wsS RL 114 yL_references wsL_references) := goodIn_app (goodIn_of _ (by decide +kernel)) ggL_hangs_L_references
set_option maxRecDepth 20000 in
theorem ggL_hangs_L_rows : GoodIn wsL_hangs wsL_rows := goodIn_ca (goodIn_r _ [152, 5, 7, 153, 154, 155, 12, 156, 14, 15, 81, 19, 20, 21, 157, 158, 159, 67, 160, 60, 61, 161, 71, 72, 73, 69, 268, 269, 270, 271, 272, 273, 278, 279, 280] (by decide +kernel) (by decide +kernel)) (goodIn_sub (fun _ h => List.mem_cons_of_mem _ (List.mem_append_left _ (List.mem_append_right _ h))) (by decide +kernel))
set_option maxRecDepth 20000 in
theorem gL_hangs_L_rows : GoodIn wsL_hangs (va_wsS RL 116 yL_rows wsL_rows) := goodIn_app (goodIn_of _ (by decide +kernel)) ggL_hangs_L_rows
set_option maxRecDepth 20000 in
theorem ggL_hangs_L_ifDeleted : GoodIn wsL_hangs wsL_ifDeleted := goodIn_ca (goodIn_r _ [164, 5, 7, 165, 166, 167, 12, 168, 14, 15, 81, 19, 20, 21, 82, 83, 84, 169, 170, 171, 67, 172, 173, 85, 60, 61, 174, 175, 176, 177, 178, 91, 71, 72, 73, 69, 179, 180, 181, 182, 183, 184, 185, 186, 187, 188, 189, 190, 191, 192, 193, 194, 195, 196, 197, 198, 199, 200, 201, 202, 203, 204, 205, 206, 207, 208, 209, 210, 211, 107, 108, 109, 110, 111, 112, 212, 127, 128, 129, 130, 213, 132, 133, 134, 214, 136, 137, 138, 215, 216, 217, 218, 219, 220, 221, 222, 223, 224, 225, 226, 227, 228, 44, 45, 31, 46, 47, 58, 59, 229, 122, 123, 124, 57, 33, 34, 35, 36, 37, 62, 63, 64, 65, 66, 68, 230, 231, 232, 233, 234, 235, 236, 237, 238, 239, 240, 18, 241, 242, 243, 244, 245, 49, 50, 51, 52, 246, 54, 55, 56, 70, 247, 248, 249, 250, 251, 252, 253, 254, 268, 269, 270, 271, 272, 273, 278, 279, 280, 287, 288, 289, 284, 285, 286, 274, 275, 276, 277] (by decide +kernel) (by decide +kernel)) (goodIn_sub (fun _ h => List.mem_cons_of_mem _ (List.mem_append_left _ (List.mem_append_right _ h))) (by decide +kernel))
set_option maxRecDepth 20000 in
theorem gL_hangs_L_ifDeleted : GoodIn wsL_hangs (va_wsS RL 118 yL_ifDeleted wsL_ifDeleted) := goodIn_app (goodIn_of _ (by decide +kernel)) ggL_hangs_L_ifDeleted
set_option maxRecDepth 20000 in
theorem ggL_hangs_X7_constraints : GoodIn wsL_hangs wsX7_constraints := goodIn_r _ [258, 18, 259, 260, 261, 31, 262, 263, 29, 30, 32, 33, 34, 35, 36, 37, 268, 269, 270, 271, 272, 273, 274, 275, 276, 277] (by decide +kernel) (by decide +kernel)
set_option maxRecDepth 20000 in
theorem gL_hangs_X7_constraints : GoodIn wsL_hangs (wsV RL 120 RX7 yX7_constraints wsX7_constraints) := goodIn_app (goodIn_of _ (by decide +kernel)) ggL_hangs_X7_constraints
set_option maxRecDepth 20000 in
theorem ggL_hangs_X7_firstViolation : GoodIn wsL_hangs wsX7_firstViolation := goodIn_r _ [267, 18, 241, 242, 243, 31, 244, 245, 49, 50, 51, 52, 33, 34, 35, 36, 37, 246, 54, 55, 56, 57, 58, 12, 59, 60, 61, 62, 63, 64, 65, 66, 67, 68, 69, 70, 71, 72, 73, 235, 236, 268, 269, 270, 271, 272, 273, 274, 275, 276, 277, 278, 279, 280] (by decide +kernel) (by decide +kernel)
set_option maxRecDepth 20000 in
theorem gL_hangs_X7_firstViolation : GoodIn wsL_hangs (wsV RL 123 RX7 yX7_firstViolation wsX7_firstViolation) := goodIn_app (goodIn_of _ (by decide +kernel)) ggL_hangs_X7_firstViolation
theorem dL_hangs_0 : decode cL_hangs 0 = .ok (.iconst 0, 1) := by decide +kernel
theorem dL_hangs_1 : decode cL_hangs 1 = .ok (.istore_n 1, 1) := by decide +kernel
theorem dL_hangs_2 : decode cL_hangs 2 = .ok (.iconst 0, 1) := by decide +kernel
theorem dL_hangs_3 : decode cL_hangs 3 = .ok (.istore_n 2, 1) := by decide +kernel
theorem dL_hangs_4 : decode cL_hangs 4 = .ok (.iconst 0, 1) := by decide +kernel
theorem dL_hangs_5 : decode cL_hangs 5 = .ok (.istore_n 3, 1) := by decide +kernel
theorem dL_hangs_6 : decode cL_hangs 6 = .ok (.iconst 0, 1) := by decide +kernel
theorem dL_hangs_7 : decode cL_hangs 7 = .ok (.istore 4, 2) := by decide +kernel
theorem dL_hangs_9 : decode cL_hangs 9 = .ok (.iconst 0, 1) := by decide +kernel
theorem dL_hangs_10 : decode cL_hangs 10 = .ok (.istore 5, 2) := by decide +kernel
theorem dL_hangs_12 : decode cL_hangs 12 = .ok (.iload 5, 2) := by decide +kernel
theorem dL_hangs_14 : decode cL_hangs 14 = .ok (.bipush 8, 2) := by decide +kernel
theorem dL_hangs_16 : decode cL_hangs 16 = .ok (.if_icmp .ge 169, 3) := by decide +kernel
theorem dL_hangs_19 : decode cL_hangs 19 = .ok (.aload_n 0, 1) := by decide +kernel
theorem dL_hangs_20 : decode cL_hangs 20 = .ok (.iload 5, 2) := by decide +kernel
theorem dL_hangs_22 : decode cL_hangs 22 = .ok (.iconst 2, 1) := by decide +kernel
theorem dL_hangs_23 : decode cL_hangs 23 = .ok (.idiv, 1) := by decide +kernel
theorem dL_hangs_24 : decode cL_hangs 24 = .ok (.iload 5, 2) := by decide +kernel
theorem dL_hangs_26 : decode cL_hangs 26 = .ok (.iconst 2, 1) := by decide +kernel
theorem dL_hangs_27 : decode cL_hangs 27 = .ok (.irem, 1) := by decide +kernel
theorem dL_hangs_28 : decode cL_hangs 28 = .ok (.iconst 0, 1) := by decide +kernel
theorem dL_hangs_29 : decode cL_hangs 29 = .ok (.invokestatic 103, 3) := by decide +kernel
theorem dL_hangs_32 : decode cL_hangs 32 = .ok (.istore 6, 2) := by decide +kernel
theorem dL_hangs_34 : decode cL_hangs 34 = .ok (.iload 6, 2) := by decide +kernel
theorem dL_hangs_36 : decode cL_hangs 36 = .ok (.bipush (-2), 2) := by decide +kernel
theorem dL_hangs_38 : decode cL_hangs 38 = .ok (.if_icmp .ne 23, 3) := by decide +kernel
theorem dL_hangs_41 : decode cL_hangs 41 = .ok (.aload_n 0, 1) := by decide +kernel
theorem dL_hangs_42 : decode cL_hangs 42 = .ok (.iload 5, 2) := by decide +kernel
theorem dL_hangs_44 : decode cL_hangs 44 = .ok (.iconst 2, 1) := by decide +kernel
theorem dL_hangs_45 : decode cL_hangs 45 = .ok (.idiv, 1) := by decide +kernel
theorem dL_hangs_46 : decode cL_hangs 46 = .ok (.iload 5, 2) := by decide +kernel
theorem dL_hangs_48 : decode cL_hangs 48 = .ok (.iconst 2, 1) := by decide +kernel
theorem dL_hangs_49 : decode cL_hangs 49 = .ok (.irem, 1) := by decide +kernel
theorem dL_hangs_50 : decode cL_hangs 50 = .ok (.iconst 3, 1) := by decide +kernel
theorem dL_hangs_51 : decode cL_hangs 51 = .ok (.invokestatic 103, 3) := by decide +kernel
theorem dL_hangs_54 : decode cL_hangs 54 = .ok (.bipush (-2), 2) := by decide +kernel
theorem dL_hangs_56 : decode cL_hangs 56 = .ok (.if_icmp .eq 123, 3) := by decide +kernel
theorem dL_hangs_59 : decode cL_hangs 59 = .ok (.iconst 0, 1) := by decide +kernel
theorem dL_hangs_60 : decode cL_hangs 60 = .ok (.ireturn, 1) := by decide +kernel
theorem dL_hangs_61 : decode cL_hangs 61 = .ok (.iconst 0, 1) := by decide +kernel
theorem dL_hangs_62 : decode cL_hangs 62 = .ok (.istore 7, 2) := by decide +kernel
theorem dL_hangs_64 : decode cL_hangs 64 = .ok (.iinc 1 1, 3) := by decide +kernel
theorem dL_hangs_67 : decode cL_hangs 67 = .ok (.iconst 0, 1) := by decide +kernel
theorem dL_hangs_68 : decode cL_hangs 68 = .ok (.istore 8, 2) := by decide +kernel
theorem dL_hangs_70 : decode cL_hangs 70 = .ok (.iload 8, 2) := by decide +kernel
theorem dL_hangs_72 : decode cL_hangs 72 = .ok (.bipush 20, 2) := by decide +kernel
theorem dL_hangs_74 : decode cL_hangs 74 = .ok (.if_icmp .ge 66, 3) := by decide +kernel
theorem dL_hangs_77 : decode cL_hangs 77 = .ok (.aload_n 0, 1) := by decide +kernel
theorem dL_hangs_78 : decode cL_hangs 78 = .ok (.iload 5, 2) := by decide +kernel
theorem dL_hangs_80 : decode cL_hangs 80 = .ok (.iconst 2, 1) := by decide +kernel
theorem dL_hangs_81 : decode cL_hangs 81 = .ok (.idiv, 1) := by decide +kernel
theorem dL_hangs_82 : decode cL_hangs 82 = .ok (.iload 8, 2) := by decide +kernel
theorem dL_hangs_84 : decode cL_hangs 84 = .ok (.iload 5, 2) := by decide +kernel
theorem dL_hangs_86 : decode cL_hangs 86 = .ok (.iconst 2, 1) := by decide +kernel
theorem dL_hangs_87 : decode cL_hangs 87 = .ok (.irem, 1) := by decide +kernel
theorem dL_hangs_88 : decode cL_hangs 88 = .ok (.invokestatic 106, 3) := by decide +kernel
theorem dL_hangs_91 : decode cL_hangs 91 = .ok (.istore 9, 2) := by decide +kernel
theorem dL_hangs_93 : decode cL_hangs 93 = .ok (.iload 4, 2) := by decide +kernel
theorem dL_hangs_95 : decode cL_hangs 95 = .ok (.iload 9, 2) := by decide +kernel
theorem dL_hangs_97 : decode cL_hangs 97 = .ok (.ifCond .lt 7, 3) := by decide +kernel
theorem dL_hangs_100 : decode cL_hangs 100 = .ok (.iconst 1, 1) := by decide +kernel
theorem dL_hangs_101 : decode cL_hangs 101 = .ok (.goto 4, 3) := by decide +kernel
theorem dL_hangs_104 : decode cL_hangs 104 = .ok (.iconst 0, 1) := by decide +kernel
theorem dL_hangs_105 : decode cL_hangs 105 = .ok (.iadd, 1) := by decide +kernel
theorem dL_hangs_106 : decode cL_hangs 106 = .ok (.istore 4, 2) := by decide +kernel
theorem dL_hangs_108 : decode cL_hangs 108 = .ok (.iload 7, 2) := by decide +kernel
theorem dL_hangs_110 : decode cL_hangs 110 = .ok (.iload 9, 2) := by decide +kernel
theorem dL_hangs_112 : decode cL_hangs 112 = .ok (.ifCond .lt 18, 3) := by decide +kernel
theorem dL_hangs_115 : decode cL_hangs 115 = .ok (.aload_n 0, 1) := by decide +kernel
theorem dL_hangs_116 : decode cL_hangs 116 = .ok (.iload 6, 2) := by decide +kernel
theorem dL_hangs_118 : decode cL_hangs 118 = .ok (.iload 9, 2) := by decide +kernel
theorem dL_hangs_120 : decode cL_hangs 120 = .ok (.invokevirtual 108, 3) := by decide +kernel
theorem dL_hangs_123 : decode cL_hangs 123 = .ok (.ifCond .ne 7, 3) := by decide +kernel
theorem dL_hangs_126 : decode cL_hangs 126 = .ok (.iconst 1, 1) := by decide +kernel
theorem dL_hangs_127 : decode cL_hangs 127 = .ok (.goto 4, 3) := by decide +kernel
theorem dL_hangs_130 : decode cL_hangs 130 = .ok (.iconst 0, 1) := by decide +kernel
theorem dL_hangs_131 : decode cL_hangs 131 = .ok (.iadd, 1) := by decide +kernel
theorem dL_hangs_132 : decode cL_hangs 132 = .ok (.istore 7, 2) := by decide +kernel
theorem dL_hangs_134 : decode cL_hangs 134 = .ok (.iinc 8 1, 3) := by decide +kernel
theorem dL_hangs_137 : decode cL_hangs 137 = .ok (.goto (-67), 3) := by decide +kernel
theorem dL_hangs_140 : decode cL_hangs 140 = .ok (.iload 7, 2) := by decide +kernel
theorem dL_hangs_142 : decode cL_hangs 142 = .ok (.ifCond .le 15, 3) := by decide +kernel
theorem dL_hangs_145 : decode cL_hangs 145 = .ok (.iload_n 2, 1) := by decide +kernel
theorem dL_hangs_146 : decode cL_hangs 146 = .ok (.ifCond .ne 11, 3) := by decide +kernel
theorem dL_hangs_149 : decode cL_hangs 149 = .ok (.bipush (-10), 2) := by decide +kernel
theorem dL_hangs_151 : decode cL_hangs 151 = .ok (.iload 5, 2) := by decide +kernel
theorem dL_hangs_153 : decode cL_hangs 153 = .ok (.isub, 1) := by decide +kernel
theorem dL_hangs_154 : decode cL_hangs 154 = .ok (.goto 4, 3) := by decide +kernel
theorem dL_hangs_157 : decode cL_hangs 157 = .ok (.iload_n 2, 1) := by decide +kernel
theorem dL_hangs_158 : decode cL_hangs 158 = .ok (.istore_n 2, 1) := by decide +kernel
theorem dL_hangs_159 : decode cL_hangs 159 = .ok (.aload_n 0, 1) := by decide +kernel
theorem dL_hangs_160 : decode cL_hangs 160 = .ok (.iload 5, 2) := by decide +kernel
theorem dL_hangs_162 : decode cL_hangs 162 = .ok (.iconst 2, 1) := by decide +kernel
theorem dL_hangs_163 : decode cL_hangs 163 = .ok (.idiv, 1) := by decide +kernel
theorem dL_hangs_164 : decode cL_hangs 164 = .ok (.iload 5, 2) := by decide +kernel
theorem dL_hangs_166 : decode cL_hangs 166 = .ok (.iconst 2, 1) := by decide +kernel
theorem dL_hangs_167 : decode cL_hangs 167 = .ok (.irem, 1) := by decide +kernel
theorem dL_hangs_168 : decode cL_hangs 168 = .ok (.iconst 3, 1) := by decide +kernel
theorem dL_hangs_169 : decode cL_hangs 169 = .ok (.invokestatic 103, 3) := by decide +kernel
theorem dL_hangs_172 : decode cL_hangs 172 = .ok (.iload 7, 2) := by decide +kernel
theorem dL_hangs_174 : decode cL_hangs 174 = .ok (.if_icmp .eq 5, 3) := by decide +kernel
theorem dL_hangs_177 : decode cL_hangs 177 = .ok (.iconst 0, 1) := by decide +kernel
theorem dL_hangs_178 : decode cL_hangs 178 = .ok (.ireturn, 1) := by decide +kernel
theorem dL_hangs_179 : decode cL_hangs 179 = .ok (.iinc 5 1, 3) := by decide +kernel
theorem dL_hangs_182 : decode cL_hangs 182 = .ok (.goto (-170), 3) := by decide +kernel
theorem dL_hangs_185 : decode cL_hangs 185 = .ok (.iconst 0, 1) := by decide +kernel
theorem dL_hangs_186 : decode cL_hangs 186 = .ok (.istore 5, 2) := by decide +kernel
theorem dL_hangs_188 : decode cL_hangs 188 = .ok (.iload 5, 2) := by decide +kernel
theorem dL_hangs_190 : decode cL_hangs 190 = .ok (.bipush 80, 2) := by decide +kernel
theorem dL_hangs_192 : decode cL_hangs 192 = .ok (.if_icmp .ge 182, 3) := by decide +kernel
theorem dL_hangs_195 : decode cL_hangs 195 = .ok (.iload 5, 2) := by decide +kernel
theorem dL_hangs_197 : decode cL_hangs 197 = .ok (.bipush 20, 2) := by decide +kernel
theorem dL_hangs_199 : decode cL_hangs 199 = .ok (.idiv, 1) := by decide +kernel
theorem dL_hangs_200 : decode cL_hangs 200 = .ok (.istore 6, 2) := by decide +kernel
theorem dL_hangs_202 : decode cL_hangs 202 = .ok (.iload 5, 2) := by decide +kernel
theorem dL_hangs_204 : decode cL_hangs 204 = .ok (.bipush 20, 2) := by decide +kernel
theorem dL_hangs_206 : decode cL_hangs 206 = .ok (.irem, 1) := by decide +kernel
theorem dL_hangs_207 : decode cL_hangs 207 = .ok (.istore 7, 2) := by decide +kernel
theorem dL_hangs_209 : decode cL_hangs 209 = .ok (.aload_n 0, 1) := by decide +kernel
theorem dL_hangs_210 : decode cL_hangs 210 = .ok (.iload 6, 2) := by decide +kernel
theorem dL_hangs_212 : decode cL_hangs 212 = .ok (.iload 7, 2) := by decide +kernel
theorem dL_hangs_214 : decode cL_hangs 214 = .ok (.invokevirtual 108, 3) := by decide +kernel
theorem dL_hangs_217 : decode cL_hangs 217 = .ok (.istore 8, 2) := by decide +kernel
theorem dL_hangs_219 : decode cL_hangs 219 = .ok (.aload_n 0, 1) := by decide +kernel
theorem dL_hangs_220 : decode cL_hangs 220 = .ok (.iload 6, 2) := by decide +kernel
theorem dL_hangs_222 : decode cL_hangs 222 = .ok (.iload 7, 2) := by decide +kernel
theorem dL_hangs_224 : decode cL_hangs 224 = .ok (.invokestatic 112, 3) := by decide +kernel
theorem dL_hangs_227 : decode cL_hangs 227 = .ok (.istore 9, 2) := by decide +kernel
theorem dL_hangs_229 : decode cL_hangs 229 = .ok (.iload_n 3, 1) := by decide +kernel
theorem dL_hangs_230 : decode cL_hangs 230 = .ok (.aload_n 0, 1) := by decide +kernel
theorem dL_hangs_231 : decode cL_hangs 231 = .ok (.iload 6, 2) := by decide +kernel
theorem dL_hangs_233 : decode cL_hangs 233 = .ok (.iload 7, 2) := by decide +kernel
theorem dL_hangs_235 : decode cL_hangs 235 = .ok (.invokestatic 114, 3) := by decide +kernel
theorem dL_hangs_238 : decode cL_hangs 238 = .ok (.iadd, 1) := by decide +kernel
theorem dL_hangs_239 : decode cL_hangs 239 = .ok (.istore_n 3, 1) := by decide +kernel
theorem dL_hangs_240 : decode cL_hangs 240 = .ok (.iload 8, 2) := by decide +kernel
theorem dL_hangs_242 : decode cL_hangs 242 = .ok (.aload_n 0, 1) := by decide +kernel
theorem dL_hangs_243 : decode cL_hangs 243 = .ok (.iload 6, 2) := by decide +kernel
theorem dL_hangs_245 : decode cL_hangs 245 = .ok (.iload 7, 2) := by decide +kernel
theorem dL_hangs_247 : decode cL_hangs 247 = .ok (.iconst 0, 1) := by decide +kernel
theorem dL_hangs_248 : decode cL_hangs 248 = .ok (.invokestatic 106, 3) := by decide +kernel
theorem dL_hangs_251 : decode cL_hangs 251 = .ok (.bipush (-2), 2) := by decide +kernel
theorem dL_hangs_253 : decode cL_hangs 253 = .ok (.if_icmp .eq 7, 3) := by decide +kernel
theorem dL_hangs_256 : decode cL_hangs 256 = .ok (.iconst 1, 1) := by decide +kernel
theorem dL_hangs_257 : decode cL_hangs 257 = .ok (.goto 4, 3) := by decide +kernel
theorem dL_hangs_260 : decode cL_hangs 260 = .ok (.iconst 0, 1) := by decide +kernel
theorem dL_hangs_261 : decode cL_hangs 261 = .ok (.if_icmp .ne 105, 3) := by decide +kernel
theorem dL_hangs_264 : decode cL_hangs 264 = .ok (.iload 8, 2) := by decide +kernel
theorem dL_hangs_266 : decode cL_hangs 266 = .ok (.aload_n 0, 1) := by decide +kernel
theorem dL_hangs_267 : decode cL_hangs 267 = .ok (.iload 6, 2) := by decide +kernel
theorem dL_hangs_269 : decode cL_hangs 269 = .ok (.iload 7, 2) := by decide +kernel
theorem dL_hangs_271 : decode cL_hangs 271 = .ok (.iconst 1, 1) := by decide +kernel
theorem dL_hangs_272 : decode cL_hangs 272 = .ok (.invokestatic 106, 3) := by decide +kernel
theorem dL_hangs_275 : decode cL_hangs 275 = .ok (.bipush (-2), 2) := by decide +kernel
theorem dL_hangs_277 : decode cL_hangs 277 = .ok (.if_icmp .eq 7, 3) := by decide +kernel
theorem dL_hangs_280 : decode cL_hangs 280 = .ok (.iconst 1, 1) := by decide +kernel
theorem dL_hangs_281 : decode cL_hangs 281 = .ok (.goto 4, 3) := by decide +kernel
theorem dL_hangs_284 : decode cL_hangs 284 = .ok (.iconst 0, 1) := by decide +kernel
theorem dL_hangs_285 : decode cL_hangs 285 = .ok (.if_icmp .ne 81, 3) := by decide +kernel
theorem dL_hangs_288 : decode cL_hangs 288 = .ok (.iload 8, 2) := by decide +kernel
theorem dL_hangs_290 : decode cL_hangs 290 = .ok (.iload 9, 2) := by decide +kernel
theorem dL_hangs_292 : decode cL_hangs 292 = .ok (.bipush (-2), 2) := by decide +kernel
theorem dL_hangs_294 : decode cL_hangs 294 = .ok (.if_icmp .eq 7, 3) := by decide +kernel
theorem dL_hangs_297 : decode cL_hangs 297 = .ok (.iconst 1, 1) := by decide +kernel
theorem dL_hangs_298 : decode cL_hangs 298 = .ok (.goto 4, 3) := by decide +kernel
theorem dL_hangs_301 : decode cL_hangs 301 = .ok (.iconst 0, 1) := by decide +kernel
theorem dL_hangs_302 : decode cL_hangs 302 = .ok (.if_icmp .ne 64, 3) := by decide +kernel
theorem dL_hangs_305 : decode cL_hangs 305 = .ok (.iload 8, 2) := by decide +kernel
theorem dL_hangs_307 : decode cL_hangs 307 = .ok (.ifCond .eq 36, 3) := by decide +kernel
theorem dL_hangs_310 : decode cL_hangs 310 = .ok (.iload 9, 2) := by decide +kernel
theorem dL_hangs_312 : decode cL_hangs 312 = .ok (.ifCond .lt 54, 3) := by decide +kernel
theorem dL_hangs_315 : decode cL_hangs 315 = .ok (.iload 9, 2) := by decide +kernel
theorem dL_hangs_317 : decode cL_hangs 317 = .ok (.aload_n 0, 1) := by decide +kernel
theorem dL_hangs_318 : decode cL_hangs 318 = .ok (.iconst 0, 1) := by decide +kernel
theorem dL_hangs_319 : decode cL_hangs 319 = .ok (.invokestatic 116, 3) := by decide +kernel
theorem dL_hangs_322 : decode cL_hangs 322 = .ok (.aload_n 0, 1) := by decide +kernel
theorem dL_hangs_323 : decode cL_hangs 323 = .ok (.iconst 1, 1) := by decide +kernel
theorem dL_hangs_324 : decode cL_hangs 324 = .ok (.invokestatic 116, 3) := by decide +kernel
theorem dL_hangs_327 : decode cL_hangs 327 = .ok (.iadd, 1) := by decide +kernel
theorem dL_hangs_328 : decode cL_hangs 328 = .ok (.aload_n 0, 1) := by decide +kernel
theorem dL_hangs_329 : decode cL_hangs 329 = .ok (.iconst 2, 1) := by decide +kernel
theorem dL_hangs_330 : decode cL_hangs 330 = .ok (.invokestatic 116, 3) := by decide +kernel
theorem dL_hangs_333 : decode cL_hangs 333 = .ok (.iadd, 1) := by decide +kernel
theorem dL_hangs_334 : decode cL_hangs 334 = .ok (.aload_n 0, 1) := by decide +kernel
theorem dL_hangs_335 : decode cL_hangs 335 = .ok (.iconst 3, 1) := by decide +kernel
theorem dL_hangs_336 : decode cL_hangs 336 = .ok (.invokestatic 116, 3) := by decide +kernel
theorem dL_hangs_339 : decode cL_hangs 339 = .ok (.iadd, 1) := by decide +kernel
theorem dL_hangs_340 : decode cL_hangs 340 = .ok (.if_icmp .gt 26, 3) := by decide +kernel
theorem dL_hangs_343 : decode cL_hangs 343 = .ok (.iload 8, 2) := by decide +kernel
theorem dL_hangs_345 : decode cL_hangs 345 = .ok (.aload_n 0, 1) := by decide +kernel
theorem dL_hangs_346 : decode cL_hangs 346 = .ok (.iload 6, 2) := by decide +kernel
theorem dL_hangs_348 : decode cL_hangs 348 = .ok (.iload 7, 2) := by decide +kernel
theorem dL_hangs_350 : decode cL_hangs 350 = .ok (.invokestatic 118, 3) := by decide +kernel
theorem dL_hangs_353 : decode cL_hangs 353 = .ok (.bipush (-2), 2) := by decide +kernel
theorem dL_hangs_355 : decode cL_hangs 355 = .ok (.if_icmp .eq 7, 3) := by decide +kernel
theorem dL_hangs_358 : decode cL_hangs 358 = .ok (.iconst 1, 1) := by decide +kernel
theorem dL_hangs_359 : decode cL_hangs 359 = .ok (.goto 4, 3) := by decide +kernel
theorem dL_hangs_362 : decode cL_hangs 362 = .ok (.iconst 0, 1) := by decide +kernel
theorem dL_hangs_363 : decode cL_hangs 363 = .ok (.if_icmp .eq 5, 3) := by decide +kernel
theorem dL_hangs_366 : decode cL_hangs 366 = .ok (.iconst 0, 1) := by decide +kernel
theorem dL_hangs_367 : decode cL_hangs 367 = .ok (.ireturn, 1) := by decide +kernel
theorem dL_hangs_368 : decode cL_hangs 368 = .ok (.iinc 5 1, 3) := by decide +kernel
theorem dL_hangs_371 : decode cL_hangs 371 = .ok (.goto (-183), 3) := by decide +kernel
theorem dL_hangs_374 : decode cL_hangs 374 = .ok (.iload_n 3, 1) := by decide +kernel
theorem dL_hangs_375 : decode cL_hangs 375 = .ok (.iload 4, 2) := by decide +kernel
theorem dL_hangs_377 : decode cL_hangs 377 = .ok (.if_icmp .ne 23, 3) := by decide +kernel
theorem dL_hangs_380 : decode cL_hangs 380 = .ok (.aload_n 0, 1) := by decide +kernel
theorem dL_hangs_381 : decode cL_hangs 381 = .ok (.invokevirtual 120, 3) := by decide +kernel
theorem dL_hangs_384 : decode cL_hangs 384 = .ok (.iload_n 1, 1) := by decide +kernel
theorem dL_hangs_385 : decode cL_hangs 385 = .ok (.if_icmp .ne 15, 3) := by decide +kernel
theorem dL_hangs_388 : decode cL_hangs 388 = .ok (.aload_n 0, 1) := by decide +kernel
theorem dL_hangs_389 : decode cL_hangs 389 = .ok (.invokevirtual 123, 3) := by decide +kernel
theorem dL_hangs_392 : decode cL_hangs 392 = .ok (.iload_n 2, 1) := by decide +kernel
theorem dL_hangs_393 : decode cL_hangs 393 = .ok (.if_icmp .ne 7, 3) := by decide +kernel
theorem dL_hangs_396 : decode cL_hangs 396 = .ok (.iconst 1, 1) := by decide +kernel
theorem dL_hangs_397 : decode cL_hangs 397 = .ok (.goto 4, 3) := by decide +kernel
theorem dL_hangs_400 : decode cL_hangs 400 = .ok (.iconst 0, 1) := by decide +kernel
theorem dL_hangs_401 : decode cL_hangs 401 = .ok (.ireturn, 1) := by decide +kernel
set_option maxRecDepth 20000 in
theorem ggL_print_X7_changes : GoodIn wsL_print wsX7_changes := goodIn_r _ [6, 7, 8, 9, 10, 11, 12, 13, 97, 98, 99, 100, 101, 102, 103, 104, 105] (by decide +kernel) (by decide +kernel)
set_option maxRecDepth 20000 in
theorem gL_print_X7_changes : GoodIn wsL_print (wsV RL 126 RX7 yX7_changes wsX7_changes) := goodIn_app (goodIn_of _ (by decide +kernel)) ggL_print_X7_changes
set_option maxRecDepth 20000 in
theorem ggL_print_L_value : GoodIn wsL_print wsL_value := goodIn_ca (goodIn_r _ [17, 18, 19, 20, 21, 22, 5, 23, 24, 25, 7, 26, 27, 28, 29, 30, 31, 32, 33, 34, 35, 36, 37, 38, 39, 40, 11, 41, 42, 97, 98, 99, 100, 101, 102, 103, 104, 105] (by decide +kernel) (by decide +kernel)) (goodIn_sub (fun _ h => List.mem_cons_of_mem _ (List.mem_append_left _ (List.mem_append_right _ h))) (by decide +kernel))
set_option maxRecDepth 20000 in
theorem gL_print_L_value : GoodIn wsL_print (va_wsS RL 106 yL_value wsL_value) := goodIn_app (goodIn_of _ (by decide +kernel)) ggL_print_L_value
set_option maxRecDepth 20000 in
theorem ggL_print_L_constraint : GoodIn wsL_print wsL_constraint := goodIn_ca (goodIn_ca (goodIn_r _ [45, 18, 46, 19, 47, 48, 49, 50, 5, 51, 24, 25, 52, 53, 54, 26, 27, 28, 32, 33, 34, 55, 56, 57, 58, 59, 60, 61, 62, 63, 64, 65, 66, 67, 68, 69, 70, 71, 72, 73, 74, 75, 76, 77, 78, 79, 80, 81, 82, 83, 84, 85, 86, 87, 88, 89, 36, 37, 90, 91, 92, 39, 40, 11, 41, 42, 93, 94, 95, 96, 97, 98, 99, 100, 101, 102, 106, 107, 108, 109, 103, 104, 105] (by decide +kernel) (by decide +kernel)) (goodIn_sub (fun _ h => List.mem_cons_of_mem _ (List.mem_append_left _ (List.mem_append_right _ h))) (by decide +kernel))) (goodIn_sub (fun _ h => List.mem_cons_of_mem _ (List.mem_append_right _ h)) (by decide +kernel))
set_option maxRecDepth 20000 in
theorem gL_print_L_constraint : GoodIn wsL_print (va_wsS RL 103 yL_constraint wsL_constraint) := goodIn_app (goodIn_of _ (by decide +kernel)) ggL_print_L_constraint
theorem dL_print_0 : decode cL_print 0 = .ok (.aload_n 0, 1) := by decide +kernel
theorem dL_print_1 : decode cL_print 1 = .ok (.invokevirtual 126, 3) := by decide +kernel
theorem dL_print_4 : decode cL_print 4 = .ok (.i2l, 1) := by decide +kernel
theorem dL_print_5 : decode cL_print 5 = .ok (.lstore_n 1, 1) := by decide +kernel
theorem dL_print_6 : decode cL_print 6 = .ok (.iconst 0, 1) := by decide +kernel
theorem dL_print_7 : decode cL_print 7 = .ok (.istore_n 3, 1) := by decide +kernel
theorem dL_print_8 : decode cL_print 8 = .ok (.iload_n 3, 1) := by decide +kernel
theorem dL_print_9 : decode cL_print 9 = .ok (.sipush 160, 3) := by decide +kernel
theorem dL_print_12 : decode cL_print 12 = .ok (.if_icmp .ge 34, 3) := by decide +kernel
theorem dL_print_15 : decode cL_print 15 = .ok (.ldc2_w 129, 3) := by decide +kernel
theorem dL_print_18 : decode cL_print 18 = .ok (.lload_n 1, 1) := by decide +kernel
theorem dL_print_19 : decode cL_print 19 = .ok (.lmul, 1) := by decide +kernel
theorem dL_print_20 : decode cL_print 20 = .ok (.aload_n 0, 1) := by decide +kernel
theorem dL_print_21 : decode cL_print 21 = .ok (.iload_n 3, 1) := by decide +kernel
theorem dL_print_22 : decode cL_print 22 = .ok (.bipush 40, 2) := by decide +kernel
theorem dL_print_24 : decode cL_print 24 = .ok (.idiv, 1) := by decide +kernel
theorem dL_print_25 : decode cL_print 25 = .ok (.iload_n 3, 1) := by decide +kernel
theorem dL_print_26 : decode cL_print 26 = .ok (.iconst 2, 1) := by decide +kernel
theorem dL_print_27 : decode cL_print 27 = .ok (.idiv, 1) := by decide +kernel
theorem dL_print_28 : decode cL_print 28 = .ok (.bipush 20, 2) := by decide +kernel
theorem dL_print_30 : decode cL_print 30 = .ok (.irem, 1) := by decide +kernel
theorem dL_print_31 : decode cL_print 31 = .ok (.iload_n 3, 1) := by decide +kernel
theorem dL_print_32 : decode cL_print 32 = .ok (.iconst 2, 1) := by decide +kernel
theorem dL_print_33 : decode cL_print 33 = .ok (.irem, 1) := by decide +kernel
theorem dL_print_34 : decode cL_print 34 = .ok (.invokestatic 106, 3) := by decide +kernel
theorem dL_print_37 : decode cL_print 37 = .ok (.i2l, 1) := by decide +kernel
theorem dL_print_38 : decode cL_print 38 = .ok (.ladd, 1) := by decide +kernel
theorem dL_print_39 : decode cL_print 39 = .ok (.lstore_n 1, 1) := by decide +kernel
theorem dL_print_40 : decode cL_print 40 = .ok (.iinc 3 1, 3) := by decide +kernel
theorem dL_print_43 : decode cL_print 43 = .ok (.goto (-35), 3) := by decide +kernel
theorem dL_print_46 : decode cL_print 46 = .ok (.iconst 0, 1) := by decide +kernel
theorem dL_print_47 : decode cL_print 47 = .ok (.istore_n 3, 1) := by decide +kernel
theorem dL_print_48 : decode cL_print 48 = .ok (.iload_n 3, 1) := by decide +kernel
theorem dL_print_49 : decode cL_print 49 = .ok (.bipush 32, 2) := by decide +kernel
theorem dL_print_51 : decode cL_print 51 = .ok (.if_icmp .ge 33, 3) := by decide +kernel
theorem dL_print_54 : decode cL_print 54 = .ok (.ldc2_w 129, 3) := by decide +kernel
theorem dL_print_57 : decode cL_print 57 = .ok (.lload_n 1, 1) := by decide +kernel
theorem dL_print_58 : decode cL_print 58 = .ok (.lmul, 1) := by decide +kernel
theorem dL_print_59 : decode cL_print 59 = .ok (.aload_n 0, 1) := by decide +kernel
theorem dL_print_60 : decode cL_print 60 = .ok (.iload_n 3, 1) := by decide +kernel
theorem dL_print_61 : decode cL_print 61 = .ok (.bipush 8, 2) := by decide +kernel
theorem dL_print_63 : decode cL_print 63 = .ok (.idiv, 1) := by decide +kernel
theorem dL_print_64 : decode cL_print 64 = .ok (.iload_n 3, 1) := by decide +kernel
theorem dL_print_65 : decode cL_print 65 = .ok (.iconst 4, 1) := by decide +kernel
theorem dL_print_66 : decode cL_print 66 = .ok (.idiv, 1) := by decide +kernel
theorem dL_print_67 : decode cL_print 67 = .ok (.iconst 2, 1) := by decide +kernel
theorem dL_print_68 : decode cL_print 68 = .ok (.irem, 1) := by decide +kernel
theorem dL_print_69 : decode cL_print 69 = .ok (.iload_n 3, 1) := by decide +kernel
theorem dL_print_70 : decode cL_print 70 = .ok (.iconst 4, 1) := by decide +kernel
theorem dL_print_71 : decode cL_print 71 = .ok (.irem, 1) := by decide +kernel
theorem dL_print_72 : decode cL_print 72 = .ok (.invokestatic 103, 3) := by decide +kernel
theorem dL_print_75 : decode cL_print 75 = .ok (.i2l, 1) := by decide +kernel
theorem dL_print_76 : decode cL_print 76 = .ok (.ladd, 1) := by decide +kernel
theorem dL_print_77 : decode cL_print 77 = .ok (.lstore_n 1, 1) := by decide +kernel
theorem dL_print_78 : decode cL_print 78 = .ok (.iinc 3 1, 3) := by decide +kernel
theorem dL_print_81 : decode cL_print 81 = .ok (.goto (-33), 3) := by decide +kernel
theorem dL_print_84 : decode cL_print 84 = .ok (.lload_n 1, 1) := by decide +kernel
theorem dL_print_85 : decode cL_print 85 = .ok (.lreturn, 1) := by decide +kernel
set_option maxRecDepth 20000 in
theorem ggL_deletes_L_ifDeleted : GoodIn wsL_deletes wsL_ifDeleted := goodIn_ca (goodIn_r _ [5, 6, 7, 8, 9, 10, 11, 12, 13, 14, 15, 16, 17, 18, 19, 20, 21, 22, 23, 24, 25, 26, 27, 28, 29, 30, 31, 32, 33, 34, 35, 36, 37, 38, 39, 40, 41, 42, 43, 44, 45, 46, 47, 48, 49, 50, 51, 52, 53, 54, 55, 56, 57, 58, 59, 60, 61, 62, 63, 64, 65, 66, 67, 68, 69, 70, 71, 72, 73, 74, 75, 76, 77, 78, 79, 80, 81, 82, 83, 84, 85, 86, 87, 88, 89, 90, 91, 92, 93, 94, 95, 96, 97, 98, 99, 100, 101, 102, 103, 104, 105, 106, 107, 108, 109, 110, 111, 112, 113, 114, 115, 116, 117, 118, 119, 120, 121, 122, 123, 124, 125, 126, 127, 128, 129, 130, 131, 132, 133, 134, 135, 136, 137, 138, 139, 140, 141, 142, 143, 144, 145, 146, 147, 148, 149, 150, 151, 152, 153, 154, 155, 156, 157, 158, 159, 160, 161, 162, 163, 280, 281, 282, 283, 284, 285, 286, 287, 288, 289, 290, 291, 292, 293, 294, 295, 296, 297, 298] (by decide +kernel) (by decide +kernel)) (goodIn_sub (fun _ h => List.mem_cons_of_mem _ (List.mem_append_left _ (List.mem_append_left _ (List.mem_append_right _ h)))) (by decide +kernel))
set_option maxRecDepth 20000 in
theorem gL_deletes_L_ifDeleted : GoodIn wsL_deletes (va_wsS RL 118 yL_ifDeleted wsL_ifDeleted) := goodIn_app (goodIn_of _ (by decide +kernel)) ggL_deletes_L_ifDeleted
set_option maxRecDepth 20000 in
theorem ggL_deletes_L_print : GoodIn wsL_deletes wsL_print := goodIn_ca (goodIn_ca (goodIn_r _ [166, 167, 168, 169, 170, 11, 171, 15, 22, 23, 24, 25, 26, 27, 172, 173, 4, 174, 6, 7, 175, 176, 177, 178, 13, 14, 16, 17, 18, 19, 20, 21, 179, 180, 181, 28, 29, 30, 182, 127, 128, 129, 40, 183, 184, 185, 186, 1, 187, 188, 189, 190, 191, 192, 141, 193, 194, 195, 196, 197, 198, 109, 199, 119, 120, 121, 122, 123, 200, 201, 202, 203, 204, 205, 107, 108, 110, 111, 206, 147, 148, 149, 150, 207, 152, 153, 154, 118, 112, 113, 124, 125, 126, 155, 37, 38, 39, 280, 281, 282, 283, 284, 285, 286, 287, 288, 295, 296, 297, 298] (by decide +kernel) (by decide +kernel)) (goodIn_sub (fun _ h => List.mem_cons_of_mem _ (List.mem_append_left _ (List.mem_append_left _ (List.mem_append_right _ h)))) (by decide +kernel))) (goodIn_sub (fun _ h => List.mem_cons_of_mem _ (List.mem_append_left _ (List.mem_append_right _ h))) (by decide +kernel))
