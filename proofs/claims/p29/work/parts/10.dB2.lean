set_option maxRecDepth 20000 in
theorem gL_deletes_L_print : GoodIn wsL_deletes (va_wsS RL 131 yL_print wsL_print) := goodIn_app (goodIn_of _ (by decide +kernel)) ggL_deletes_L_print
set_option maxRecDepth 20000 in
theorem ggL_deletes_L_rows : GoodIn wsL_deletes wsL_rows := goodIn_ca (goodIn_r _ [210, 6, 7, 211, 212, 213, 11, 214, 13, 14, 15, 16, 17, 18, 215, 216, 217, 25, 218, 29, 30, 219, 37, 38, 39, 40, 280, 281, 282, 283, 284, 285, 286, 287, 288] (by decide +kernel) (by decide +kernel)) (goodIn_sub (fun _ h => List.mem_cons_of_mem _ (List.mem_append_left _ (List.mem_append_left _ (List.mem_append_right _ h)))) (by decide +kernel))
set_option maxRecDepth 20000 in
theorem gL_deletes_L_rows : GoodIn wsL_deletes (va_wsS RL 116 yL_rows wsL_rows) := goodIn_app (goodIn_of _ (by decide +kernel)) ggL_deletes_L_rows
set_option maxRecDepth 20000 in
theorem ggL_deletes_X7_changes : GoodIn wsL_deletes wsX7_changes := goodIn_r _ [171, 15, 22, 23, 24, 25, 26, 27, 280, 281, 282, 283, 284, 285, 286, 287, 288] (by decide +kernel) (by decide +kernel)
set_option maxRecDepth 20000 in
theorem gL_deletes_X7_changes : GoodIn wsL_deletes (wsV RL 126 RX7 yX7_changes wsX7_changes) := goodIn_app (goodIn_of _ (by decide +kernel)) ggL_deletes_X7_changes
set_option maxRecDepth 20000 in
theorem ggL_deletes_L_delete : GoodIn wsL_deletes wsL_delete := goodIn_ca (goodIn_ca (goodIn_r _ [222, 6, 223, 7, 1, 224, 225, 226, 11, 227, 13, 14, 228, 229, 16, 17, 18, 19, 20, 21, 28, 29, 30, 31, 32, 33, 34, 15, 35, 36, 37, 38, 25, 39, 40, 41, 42, 43, 44, 45, 27, 46, 47, 48, 49, 50, 51, 52, 53, 54, 55, 56, 57, 58, 59, 60, 61, 62, 63, 64, 65, 66, 67, 68, 69, 70, 71, 72, 73, 74, 75, 76, 77, 78, 79, 80, 81, 82, 83, 84, 85, 86, 87, 88, 89, 90, 91, 92, 93, 94, 95, 96, 97, 98, 99, 100, 101, 102, 103, 104, 105, 106, 107, 108, 109, 110, 111, 112, 113, 114, 115, 116, 117, 118, 119, 120, 121, 122, 123, 124, 125, 126, 127, 128, 129, 130, 131, 132, 133, 134, 135, 136, 137, 138, 139, 140, 141, 142, 143, 144, 145, 146, 147, 148, 149, 150, 151, 152, 153, 154, 155, 156, 157, 158, 159, 160, 161, 162, 163, 280, 281, 282, 283, 284, 285, 286, 287, 288, 289, 290, 291, 292, 293, 294, 295, 296, 297, 298] (by decide +kernel) (by decide +kernel)) (goodIn_sub (fun _ h => List.mem_cons_of_mem _ (List.mem_append_left _ (List.mem_append_left _ (List.mem_append_right _ h)))) (by decide +kernel))) (goodIn_sub (fun _ h => List.mem_cons_of_mem _ (List.mem_append_right _ h)) (by decide +kernel))
set_option maxRecDepth 20000 in
theorem gL_deletes_L_delete : GoodIn wsL_deletes (va_wsS RL 96 yL_delete wsL_delete) := goodIn_app (goodIn_of _ (by decide +kernel)) ggL_deletes_L_delete
set_option maxRecDepth 20000 in
theorem ggL_deletes_X7_savePoints : GoodIn wsL_deletes wsX7_savePoints := goodIn_r _ [233, 234, 235, 236, 237, 238, 239, 240, 280, 281, 282, 283, 284, 285, 299, 300] (by decide +kernel) (by decide +kernel)
set_option maxRecDepth 20000 in
theorem gL_deletes_X7_savePoints : GoodIn wsL_deletes (wsV RL 135 RX7 yX7_savePoints wsX7_savePoints) := goodIn_app (goodIn_of _ (by decide +kernel)) ggL_deletes_X7_savePoints
set_option maxRecDepth 20000 in
theorem ggL_deletes_L_savePoint : GoodIn wsL_deletes wsL_savePoint := goodIn_ca (goodIn_r _ [243, 223, 7, 244, 245, 246, 11, 247, 228, 229, 248, 249, 250, 251, 234, 15, 235, 236, 237, 238, 239, 240, 22, 23, 24, 25, 26, 27, 252, 253, 254, 255, 256, 280, 281, 282, 283, 284, 285, 299, 300, 286, 287, 288] (by decide +kernel) (by decide +kernel)) (goodIn_sub (fun _ h => List.mem_cons_of_mem _ (List.mem_append_right _ h)) (by decide +kernel))
set_option maxRecDepth 20000 in
theorem gL_deletes_L_savePoint : GoodIn wsL_deletes (va_wsS RL 93 yL_savePoint wsL_savePoint) := goodIn_app (goodIn_of _ (by decide +kernel)) ggL_deletes_L_savePoint
set_option maxRecDepth 20000 in
theorem ggL_deletes_X7_exists : GoodIn wsL_deletes wsX7_exists := goodIn_ca (goodIn_r _ [260, 13, 14, 15, 16, 17, 11, 18, 19, 20, 21, 28, 29, 30, 36, 37, 38, 25, 39, 40, 280, 281, 282, 283, 284, 285, 286, 287, 288] (by decide +kernel) (by decide +kernel)) (goodIn_sub (fun _ h => List.mem_cons_of_mem _ (List.mem_append_left _ (List.mem_append_left _ (List.mem_append_right _ h)))) (by decide +kernel))
set_option maxRecDepth 20000 in
theorem gL_deletes_X7_exists : GoodIn wsL_deletes (wsV RL 108 RX7 yX7_exists wsX7_exists) := goodIn_app (goodIn_of _ (by decide +kernel)) ggL_deletes_X7_exists
set_option maxRecDepth 20000 in
theorem ggL_deletes_L_rollBackTo : GoodIn wsL_deletes wsL_rollBackTo := goodIn_ca (goodIn_r _ [263, 6, 7, 264, 265, 266, 11, 267, 13, 14, 268, 269, 270, 271, 234, 15, 235, 236, 237, 238, 239, 240, 272, 273, 274, 275, 276, 277, 278, 279, 256, 156, 157, 158, 25, 159, 27, 45, 160, 161, 162, 163, 40, 280, 281, 282, 283, 284, 285, 299, 300, 286, 287, 288] (by decide +kernel) (by decide +kernel)) (goodIn_sub (fun _ h => List.mem_cons_of_mem _ (List.mem_append_left _ (List.mem_append_left _ (List.mem_append_right _ h)))) (by decide +kernel))
set_option maxRecDepth 20000 in
theorem gL_deletes_L_rollBackTo : GoodIn wsL_deletes (va_wsS RL 90 yL_rollBackTo wsL_rollBackTo) := goodIn_app (goodIn_of _ (by decide +kernel)) ggL_deletes_L_rollBackTo
theorem dL_deletes_0 : decode cL_deletes 0 = .ok (.aload_n 0, 1) := by decide +kernel
theorem dL_deletes_1 : decode cL_deletes 1 = .ok (.iload_n 1, 1) := by decide +kernel
theorem dL_deletes_2 : decode cL_deletes 2 = .ok (.iload_n 2, 1) := by decide +kernel
theorem dL_deletes_3 : decode cL_deletes 3 = .ok (.invokestatic 118, 3) := by decide +kernel
theorem dL_deletes_6 : decode cL_deletes 6 = .ok (.istore_n 3, 1) := by decide +kernel
theorem dL_deletes_7 : decode cL_deletes 7 = .ok (.aload_n 0, 1) := by decide +kernel
theorem dL_deletes_8 : decode cL_deletes 8 = .ok (.invokestatic 131, 3) := by decide +kernel
theorem dL_deletes_11 : decode cL_deletes 11 = .ok (.lstore 4, 2) := by decide +kernel
theorem dL_deletes_13 : decode cL_deletes 13 = .ok (.aload_n 0, 1) := by decide +kernel
theorem dL_deletes_14 : decode cL_deletes 14 = .ok (.iconst 0, 1) := by decide +kernel
theorem dL_deletes_15 : decode cL_deletes 15 = .ok (.invokestatic 116, 3) := by decide +kernel
theorem dL_deletes_18 : decode cL_deletes 18 = .ok (.aload_n 0, 1) := by decide +kernel
theorem dL_deletes_19 : decode cL_deletes 19 = .ok (.iconst 1, 1) := by decide +kernel
theorem dL_deletes_20 : decode cL_deletes 20 = .ok (.invokestatic 116, 3) := by decide +kernel
theorem dL_deletes_23 : decode cL_deletes 23 = .ok (.iadd, 1) := by decide +kernel
theorem dL_deletes_24 : decode cL_deletes 24 = .ok (.aload_n 0, 1) := by decide +kernel
theorem dL_deletes_25 : decode cL_deletes 25 = .ok (.iconst 2, 1) := by decide +kernel
theorem dL_deletes_26 : decode cL_deletes 26 = .ok (.invokestatic 116, 3) := by decide +kernel
theorem dL_deletes_29 : decode cL_deletes 29 = .ok (.iadd, 1) := by decide +kernel
theorem dL_deletes_30 : decode cL_deletes 30 = .ok (.aload_n 0, 1) := by decide +kernel
theorem dL_deletes_31 : decode cL_deletes 31 = .ok (.iconst 3, 1) := by decide +kernel
theorem dL_deletes_32 : decode cL_deletes 32 = .ok (.invokestatic 116, 3) := by decide +kernel
theorem dL_deletes_35 : decode cL_deletes 35 = .ok (.iadd, 1) := by decide +kernel
theorem dL_deletes_36 : decode cL_deletes 36 = .ok (.istore 6, 2) := by decide +kernel
theorem dL_deletes_38 : decode cL_deletes 38 = .ok (.aload_n 0, 1) := by decide +kernel
theorem dL_deletes_39 : decode cL_deletes 39 = .ok (.invokevirtual 126, 3) := by decide +kernel
theorem dL_deletes_42 : decode cL_deletes 42 = .ok (.istore 7, 2) := by decide +kernel
theorem dL_deletes_44 : decode cL_deletes 44 = .ok (.iload_n 3, 1) := by decide +kernel
theorem dL_deletes_45 : decode cL_deletes 45 = .ok (.bipush (-2), 2) := by decide +kernel
theorem dL_deletes_47 : decode cL_deletes 47 = .ok (.if_icmp .ne 30, 3) := by decide +kernel
theorem dL_deletes_50 : decode cL_deletes 50 = .ok (.aload_n 0, 1) := by decide +kernel
theorem dL_deletes_51 : decode cL_deletes 51 = .ok (.iload_n 1, 1) := by decide +kernel
theorem dL_deletes_52 : decode cL_deletes 52 = .ok (.iload_n 2, 1) := by decide +kernel
theorem dL_deletes_53 : decode cL_deletes 53 = .ok (.invokestatic 96, 3) := by decide +kernel
theorem dL_deletes_56 : decode cL_deletes 56 = .ok (.ldc 21, 2) := by decide +kernel
theorem dL_deletes_58 : decode cL_deletes 58 = .ok (.if_icmp .ne 17, 3) := by decide +kernel
theorem dL_deletes_61 : decode cL_deletes 61 = .ok (.aload_n 0, 1) := by decide +kernel
theorem dL_deletes_62 : decode cL_deletes 62 = .ok (.invokestatic 131, 3) := by decide +kernel
theorem dL_deletes_65 : decode cL_deletes 65 = .ok (.lload 4, 2) := by decide +kernel
theorem dL_deletes_67 : decode cL_deletes 67 = .ok (.lcmp, 1) := by decide +kernel
theorem dL_deletes_68 : decode cL_deletes 68 = .ok (.ifCond .ne 7, 3) := by decide +kernel
theorem dL_deletes_71 : decode cL_deletes 71 = .ok (.iconst 1, 1) := by decide +kernel
theorem dL_deletes_72 : decode cL_deletes 72 = .ok (.goto 4, 3) := by decide +kernel
theorem dL_deletes_75 : decode cL_deletes 75 = .ok (.iconst 0, 1) := by decide +kernel
theorem dL_deletes_76 : decode cL_deletes 76 = .ok (.ireturn, 1) := by decide +kernel
theorem dL_deletes_77 : decode cL_deletes 77 = .ok (.aload_n 0, 1) := by decide +kernel
theorem dL_deletes_78 : decode cL_deletes 78 = .ok (.invokevirtual 135, 3) := by decide +kernel
theorem dL_deletes_81 : decode cL_deletes 81 = .ok (.iconst 4, 1) := by decide +kernel
theorem dL_deletes_82 : decode cL_deletes 82 = .ok (.if_icmp .ne 33, 3) := by decide +kernel
theorem dL_deletes_85 : decode cL_deletes 85 = .ok (.iload_n 3, 1) := by decide +kernel
theorem dL_deletes_86 : decode cL_deletes 86 = .ok (.ifCond .gt 23, 3) := by decide +kernel
theorem dL_deletes_89 : decode cL_deletes 89 = .ok (.aload_n 0, 1) := by decide +kernel
theorem dL_deletes_90 : decode cL_deletes 90 = .ok (.iload_n 1, 1) := by decide +kernel
theorem dL_deletes_91 : decode cL_deletes 91 = .ok (.iload_n 2, 1) := by decide +kernel
theorem dL_deletes_92 : decode cL_deletes 92 = .ok (.invokestatic 96, 3) := by decide +kernel
theorem dL_deletes_95 : decode cL_deletes 95 = .ok (.iload_n 3, 1) := by decide +kernel
theorem dL_deletes_96 : decode cL_deletes 96 = .ok (.if_icmp .ne 17, 3) := by decide +kernel
theorem dL_deletes_99 : decode cL_deletes 99 = .ok (.aload_n 0, 1) := by decide +kernel
theorem dL_deletes_100 : decode cL_deletes 100 = .ok (.invokestatic 131, 3) := by decide +kernel
theorem dL_deletes_103 : decode cL_deletes 103 = .ok (.lload 4, 2) := by decide +kernel
theorem dL_deletes_105 : decode cL_deletes 105 = .ok (.lcmp, 1) := by decide +kernel
theorem dL_deletes_106 : decode cL_deletes 106 = .ok (.ifCond .ne 7, 3) := by decide +kernel
theorem dL_deletes_109 : decode cL_deletes 109 = .ok (.iconst 1, 1) := by decide +kernel
theorem dL_deletes_110 : decode cL_deletes 110 = .ok (.goto 4, 3) := by decide +kernel
theorem dL_deletes_113 : decode cL_deletes 113 = .ok (.iconst 0, 1) := by decide +kernel
theorem dL_deletes_114 : decode cL_deletes 114 = .ok (.ireturn, 1) := by decide +kernel
theorem dL_deletes_115 : decode cL_deletes 115 = .ok (.aload_n 0, 1) := by decide +kernel
theorem dL_deletes_116 : decode cL_deletes 116 = .ok (.invokestatic 93, 3) := by decide +kernel
theorem dL_deletes_119 : decode cL_deletes 119 = .ok (.istore 8, 2) := by decide +kernel
theorem dL_deletes_121 : decode cL_deletes 121 = .ok (.aload_n 0, 1) := by decide +kernel
theorem dL_deletes_122 : decode cL_deletes 122 = .ok (.iload_n 1, 1) := by decide +kernel
theorem dL_deletes_123 : decode cL_deletes 123 = .ok (.iload_n 2, 1) := by decide +kernel
theorem dL_deletes_124 : decode cL_deletes 124 = .ok (.invokestatic 96, 3) := by decide +kernel
theorem dL_deletes_127 : decode cL_deletes 127 = .ok (.istore 9, 2) := by decide +kernel
theorem dL_deletes_129 : decode cL_deletes 129 = .ok (.iload 9, 2) := by decide +kernel
theorem dL_deletes_131 : decode cL_deletes 131 = .ok (.iload_n 3, 1) := by decide +kernel
theorem dL_deletes_132 : decode cL_deletes 132 = .ok (.if_icmp .ne 33, 3) := by decide +kernel
theorem dL_deletes_135 : decode cL_deletes 135 = .ok (.iload_n 3, 1) := by decide +kernel
theorem dL_deletes_136 : decode cL_deletes 136 = .ok (.ifCond .gt 25, 3) := by decide +kernel
theorem dL_deletes_139 : decode cL_deletes 139 = .ok (.aload_n 0, 1) := by decide +kernel
theorem dL_deletes_140 : decode cL_deletes 140 = .ok (.invokestatic 131, 3) := by decide +kernel
theorem dL_deletes_143 : decode cL_deletes 143 = .ok (.lload 4, 2) := by decide +kernel
theorem dL_deletes_145 : decode cL_deletes 145 = .ok (.lcmp, 1) := by decide +kernel
theorem dL_deletes_146 : decode cL_deletes 146 = .ok (.ifCond .ne 19, 3) := by decide +kernel
theorem dL_deletes_149 : decode cL_deletes 149 = .ok (.iload_n 3, 1) := by decide +kernel
theorem dL_deletes_150 : decode cL_deletes 150 = .ok (.bipush (-10), 2) := by decide +kernel
theorem dL_deletes_152 : decode cL_deletes 152 = .ok (.if_icmp .gt 13, 3) := by decide +kernel
theorem dL_deletes_155 : decode cL_deletes 155 = .ok (.iload_n 3, 1) := by decide +kernel
theorem dL_deletes_156 : decode cL_deletes 156 = .ok (.bipush (-17), 2) := by decide +kernel
theorem dL_deletes_158 : decode cL_deletes 158 = .ok (.if_icmp .lt 7, 3) := by decide +kernel
theorem dL_deletes_161 : decode cL_deletes 161 = .ok (.iconst 1, 1) := by decide +kernel
theorem dL_deletes_162 : decode cL_deletes 162 = .ok (.goto 4, 3) := by decide +kernel
theorem dL_deletes_165 : decode cL_deletes 165 = .ok (.iconst 0, 1) := by decide +kernel
theorem dL_deletes_166 : decode cL_deletes 166 = .ok (.istore 10, 2) := by decide +kernel
theorem dL_deletes_168 : decode cL_deletes 168 = .ok (.iload_n 3, 1) := by decide +kernel
theorem dL_deletes_169 : decode cL_deletes 169 = .ok (.ifCond .le 83, 3) := by decide +kernel
theorem dL_deletes_172 : decode cL_deletes 172 = .ok (.aload_n 0, 1) := by decide +kernel
theorem dL_deletes_173 : decode cL_deletes 173 = .ok (.invokevirtual 126, 3) := by decide +kernel
theorem dL_deletes_176 : decode cL_deletes 176 = .ok (.iload 7, 2) := by decide +kernel
theorem dL_deletes_178 : decode cL_deletes 178 = .ok (.isub, 1) := by decide +kernel
theorem dL_deletes_179 : decode cL_deletes 179 = .ok (.iload_n 3, 1) := by decide +kernel
theorem dL_deletes_180 : decode cL_deletes 180 = .ok (.isub, 1) := by decide +kernel
theorem dL_deletes_181 : decode cL_deletes 181 = .ok (.istore 11, 2) := by decide +kernel
theorem dL_deletes_183 : decode cL_deletes 183 = .ok (.iload 10, 2) := by decide +kernel
theorem dL_deletes_185 : decode cL_deletes 185 = .ok (.ifCond .eq 64, 3) := by decide +kernel
theorem dL_deletes_188 : decode cL_deletes 188 = .ok (.aload_n 0, 1) := by decide +kernel
theorem dL_deletes_189 : decode cL_deletes 189 = .ok (.iload_n 1, 1) := by decide +kernel
theorem dL_deletes_190 : decode cL_deletes 190 = .ok (.iload_n 2, 1) := by decide +kernel
theorem dL_deletes_191 : decode cL_deletes 191 = .ok (.invokevirtual 108, 3) := by decide +kernel
theorem dL_deletes_194 : decode cL_deletes 194 = .ok (.ifCond .ne 55, 3) := by decide +kernel
theorem dL_deletes_197 : decode cL_deletes 197 = .ok (.aload_n 0, 1) := by decide +kernel
theorem dL_deletes_198 : decode cL_deletes 198 = .ok (.iconst 0, 1) := by decide +kernel
theorem dL_deletes_199 : decode cL_deletes 199 = .ok (.invokestatic 116, 3) := by decide +kernel
theorem dL_deletes_202 : decode cL_deletes 202 = .ok (.aload_n 0, 1) := by decide +kernel
theorem dL_deletes_203 : decode cL_deletes 203 = .ok (.iconst 1, 1) := by decide +kernel
theorem dL_deletes_204 : decode cL_deletes 204 = .ok (.invokestatic 116, 3) := by decide +kernel
theorem dL_deletes_207 : decode cL_deletes 207 = .ok (.iadd, 1) := by decide +kernel
theorem dL_deletes_208 : decode cL_deletes 208 = .ok (.aload_n 0, 1) := by decide +kernel
theorem dL_deletes_209 : decode cL_deletes 209 = .ok (.iconst 2, 1) := by decide +kernel
theorem dL_deletes_210 : decode cL_deletes 210 = .ok (.invokestatic 116, 3) := by decide +kernel
theorem dL_deletes_213 : decode cL_deletes 213 = .ok (.iadd, 1) := by decide +kernel
theorem dL_deletes_214 : decode cL_deletes 214 = .ok (.aload_n 0, 1) := by decide +kernel
theorem dL_deletes_215 : decode cL_deletes 215 = .ok (.iconst 3, 1) := by decide +kernel
theorem dL_deletes_216 : decode cL_deletes 216 = .ok (.invokestatic 116, 3) := by decide +kernel
theorem dL_deletes_219 : decode cL_deletes 219 = .ok (.iadd, 1) := by decide +kernel
theorem dL_deletes_220 : decode cL_deletes 220 = .ok (.iload 6, 2) := by decide +kernel
theorem dL_deletes_222 : decode cL_deletes 222 = .ok (.iload_n 3, 1) := by decide +kernel
theorem dL_deletes_223 : decode cL_deletes 223 = .ok (.isub, 1) := by decide +kernel
theorem dL_deletes_224 : decode cL_deletes 224 = .ok (.if_icmp .ne 25, 3) := by decide +kernel
theorem dL_deletes_227 : decode cL_deletes 227 = .ok (.iload 11, 2) := by decide +kernel
theorem dL_deletes_229 : decode cL_deletes 229 = .ok (.ifCond .lt 20, 3) := by decide +kernel
theorem dL_deletes_232 : decode cL_deletes 232 = .ok (.aload_n 0, 1) := by decide +kernel
theorem dL_deletes_233 : decode cL_deletes 233 = .ok (.iload 8, 2) := by decide +kernel
theorem dL_deletes_235 : decode cL_deletes 235 = .ok (.invokestatic 90, 3) := by decide +kernel
theorem dL_deletes_238 : decode cL_deletes 238 = .ok (.iload 11, 2) := by decide +kernel
theorem dL_deletes_240 : decode cL_deletes 240 = .ok (.iload_n 3, 1) := by decide +kernel
theorem dL_deletes_241 : decode cL_deletes 241 = .ok (.iadd, 1) := by decide +kernel
theorem dL_deletes_242 : decode cL_deletes 242 = .ok (.if_icmp .ne 7, 3) := by decide +kernel
theorem dL_deletes_245 : decode cL_deletes 245 = .ok (.iconst 1, 1) := by decide +kernel
theorem dL_deletes_246 : decode cL_deletes 246 = .ok (.goto 4, 3) := by decide +kernel
theorem dL_deletes_249 : decode cL_deletes 249 = .ok (.iconst 0, 1) := by decide +kernel
theorem dL_deletes_250 : decode cL_deletes 250 = .ok (.istore 10, 2) := by decide +kernel
theorem dL_deletes_252 : decode cL_deletes 252 = .ok (.iload 10, 2) := by decide +kernel
theorem dL_deletes_254 : decode cL_deletes 254 = .ok (.ifCond .eq 26, 3) := by decide +kernel
theorem dL_deletes_257 : decode cL_deletes 257 = .ok (.aload_n 0, 1) := by decide +kernel
theorem dL_deletes_258 : decode cL_deletes 258 = .ok (.iload 8, 2) := by decide +kernel
theorem dL_deletes_260 : decode cL_deletes 260 = .ok (.invokestatic 90, 3) := by decide +kernel
theorem dL_deletes_263 : decode cL_deletes 263 = .ok (.ifCond .ne 17, 3) := by decide +kernel
theorem dL_deletes_266 : decode cL_deletes 266 = .ok (.aload_n 0, 1) := by decide +kernel
theorem dL_deletes_267 : decode cL_deletes 267 = .ok (.invokestatic 131, 3) := by decide +kernel
theorem dL_deletes_270 : decode cL_deletes 270 = .ok (.lload 4, 2) := by decide +kernel
theorem dL_deletes_272 : decode cL_deletes 272 = .ok (.lcmp, 1) := by decide +kernel
theorem dL_deletes_273 : decode cL_deletes 273 = .ok (.ifCond .ne 7, 3) := by decide +kernel
theorem dL_deletes_276 : decode cL_deletes 276 = .ok (.iconst 1, 1) := by decide +kernel
theorem dL_deletes_277 : decode cL_deletes 277 = .ok (.goto 4, 3) := by decide +kernel
theorem dL_deletes_280 : decode cL_deletes 280 = .ok (.iconst 0, 1) := by decide +kernel
theorem dL_deletes_281 : decode cL_deletes 281 = .ok (.ireturn, 1) := by decide +kernel
set_option maxRecDepth 20000 in
theorem ggL_statements_L_constraint : GoodIn wsL_statements wsL_constraint := goodIn_ca (goodIn_ca (goodIn_r _ [5, 6, 7, 8, 9, 10, 11, 12, 13, 14, 15, 16, 17, 18, 19, 20, 21, 22, 23, 24, 25, 26, 27, 28, 29, 30, 31, 32, 33, 34, 35, 36, 37, 38, 39, 40, 41, 42, 43, 44, 45, 46, 47, 48, 49, 50, 51, 52, 53, 54, 55, 56, 57, 58, 59, 60, 61, 62, 63, 64, 65, 66, 67, 68, 69, 70, 71, 72, 73, 74, 278, 279, 280, 281, 282, 283, 284, 285, 286, 287, 288, 289, 290] (by decide +kernel) (by decide +kernel)) (goodIn_sub (fun _ h => List.mem_cons_of_mem _ (List.mem_append_left _ (List.mem_append_left _ (List.mem_append_right _ h)))) (by decide +kernel))) (goodIn_sub (fun _ h => List.mem_cons_of_mem _ (List.mem_append_left _ (List.mem_append_right _ h))) (by decide +kernel))
set_option maxRecDepth 20000 in
theorem gL_statements_L_constraint : GoodIn wsL_statements (va_wsS RL 103 yL_constraint wsL_constraint) := goodIn_app (goodIn_of _ (by decide +kernel)) ggL_statements_L_constraint
set_option maxRecDepth 20000 in
theorem ggL_statements_L_update : GoodIn wsL_statements wsL_update := goodIn_ca (goodIn_ca (goodIn_ca (goodIn_r _ [77, 6, 7, 78, 8, 9, 1, 79, 80, 81, 13, 82, 15, 16, 17, 18, 83, 84, 20, 21, 22, 85, 86, 87, 23, 24, 25, 88, 89, 90, 91, 61, 62, 92, 93, 94, 95, 96, 97, 72, 73, 68, 74, 70, 98, 99, 100, 101, 102, 103, 104, 105, 106, 107, 108, 109, 110, 111, 112, 113, 114, 115, 116, 117, 118, 119, 120, 121, 122, 123, 124, 125, 126, 127, 128, 66, 67, 69, 129, 130, 131, 132, 133, 134, 135, 136, 19, 137, 138, 139, 32, 140, 141, 50, 51, 52, 53, 34, 35, 36, 37, 38, 142, 55, 56, 57, 58, 59, 60, 63, 64, 65, 71, 143, 144, 145, 146, 147, 148, 149, 150, 151, 152, 278, 279, 280, 281, 282, 283, 288, 289, 290, 284, 285, 286, 287] (by decide +kernel) (by decide +kernel)) (goodIn_sub (fun _ h => List.mem_cons_of_mem _ (List.mem_append_left _ (List.mem_append_left _ (List.mem_append_right _ h)))) (by decide +kernel))) (goodIn_sub (fun _ h => List.mem_cons_of_mem _ (List.mem_append_left _ (List.mem_append_right _ h))) (by decide +kernel))) (goodIn_sub (fun _ h => List.mem_cons_of_mem _ (List.mem_append_right _ h)) (by decide +kernel))
set_option maxRecDepth 20000 in
theorem gL_statements_L_update : GoodIn wsL_statements (va_wsS RL 98 yL_update wsL_update) := goodIn_app (goodIn_of _ (by decide +kernel)) ggL_statements_L_update
set_option maxRecDepth 20000 in
theorem ggL_statements_X7_exists : GoodIn wsL_statements wsX7_exists := goodIn_ca (goodIn_r _ [156, 15, 16, 96, 20, 21, 13, 22, 85, 86, 87, 91, 61, 62, 97, 72, 73, 68, 74, 70, 278, 279, 280, 281, 282, 283, 288, 289, 290] (by decide +kernel) (by decide +kernel)) (goodIn_sub (fun _ h => List.mem_cons_of_mem _ (List.mem_append_left _ (List.mem_append_left _ (List.mem_append_right _ h)))) (by decide +kernel))
set_option maxRecDepth 20000 in
theorem gL_statements_X7_exists : GoodIn wsL_statements (wsV RL 108 RX7 yX7_exists wsX7_exists) := goodIn_app (goodIn_of _ (by decide +kernel)) ggL_statements_X7_exists
set_option maxRecDepth 20000 in
theorem ggL_statements_L_references : GoodIn wsL_statements wsL_references := goodIn_ca (goodIn_r _ [159, 6, 8, 160, 161, 162, 13, 163, 15, 16, 164, 20, 21, 22, 85, 86, 87, 91, 61, 62, 165, 166, 167, 168, 169, 170, 59, 60, 171, 172, 173, 32, 174, 58, 34, 35, 36, 37, 38, 63, 64, 65, 66, 67, 68, 69, 70, 278, 279, 280, 281, 282, 283, 291, 292, 293, 284, 285, 286, 287, 288, 289, 290] (by decide +kernel) (by decide +kernel)) (goodIn_sub (fun _ h => List.mem_cons_of_mem _ (List.mem_append_left _ (List.mem_append_left _ (List.mem_append_right _ h)))) (by decide +kernel))
set_option maxRecDepth 20000 in
theorem gL_statements_L_references : GoodIn wsL_statements (va_wsS RL 114 yL_references wsL_references) := goodIn_app (goodIn_of _ (by decide +kernel)) ggL_statements_L_references
set_option maxRecDepth 20000 in
theorem ggL_statements_X7_changes : GoodIn wsL_statements wsX7_changes := goodIn_r _ [178, 96, 179, 180, 181, 68, 182, 103, 278, 279, 280, 281, 282, 283, 288, 289, 290] (by decide +kernel) (by decide +kernel)
set_option maxRecDepth 20000 in
theorem gL_statements_X7_changes : GoodIn wsL_statements (wsV RL 126 RX7 yX7_changes wsX7_changes) := goodIn_app (goodIn_of _ (by decide +kernel)) ggL_statements_X7_changes
set_option maxRecDepth 20000 in
theorem ggL_statements_L_insert : GoodIn wsL_statements wsL_insert := goodIn_ca (goodIn_ca (goodIn_ca (goodIn_r _ [185, 6, 7, 78, 8, 9, 1, 186, 187, 188, 13, 189, 15, 16, 17, 18, 83, 84, 20, 21, 22, 85, 86, 87, 88, 89, 90, 91, 61, 62, 190, 191, 192, 193, 96, 97, 72, 73, 68, 74, 70, 98, 99, 100, 101, 102, 103, 104, 105, 106, 107, 108, 109, 110, 111, 112, 113, 114, 115, 116, 117, 118, 119, 120, 121, 122, 123, 194, 130, 131, 132, 133, 134, 135, 136, 19, 137, 138, 139, 32, 140, 141, 50, 51, 52, 53, 34, 35, 36, 37, 38, 142, 55, 56, 57, 58, 59, 60, 63, 64, 65, 66, 67, 69, 71, 143, 144, 145, 146, 147, 148, 149, 150, 151, 152, 278, 279, 280, 281, 282, 283, 288, 289, 290, 284, 285, 286, 287] (by decide +kernel) (by decide +kernel)) (goodIn_sub (fun _ h => List.mem_cons_of_mem _ (List.mem_append_left _ (List.mem_append_left _ (List.mem_append_right _ h)))) (by decide +kernel))) (goodIn_sub (fun _ h => List.mem_cons_of_mem _ (List.mem_append_left _ (List.mem_append_right _ h))) (by decide +kernel))) (goodIn_sub (fun _ h => List.mem_cons_of_mem _ (List.mem_append_right _ h)) (by decide +kernel))
set_option maxRecDepth 20000 in
theorem gL_statements_L_insert : GoodIn wsL_statements (va_wsS RL 101 yL_insert wsL_insert) := goodIn_app (goodIn_of _ (by decide +kernel)) ggL_statements_L_insert
set_option maxRecDepth 20000 in
theorem ggL_statements_L_ancestors : GoodIn wsL_statements wsL_ancestors := goodIn_ca (goodIn_r _ [197, 6, 8, 198, 199, 200, 13, 201, 15, 16, 96, 164, 20, 21, 22, 85, 86, 87, 91, 61, 62, 97, 72, 73, 68, 74, 70, 202, 203, 204, 168, 205, 206, 207, 208, 209, 210, 211, 212, 213, 214, 215, 216, 217, 170, 218, 219, 220, 27, 28, 171, 172, 173, 32, 174, 58, 34, 35, 36, 37, 38, 63, 64, 65, 66, 67, 69, 221, 222, 223, 224, 225, 226, 227, 228, 229, 230, 231, 232, 233, 234, 278, 279, 280, 281, 282, 283, 288, 289, 290, 291, 292, 293, 294, 295, 296, 284, 285, 286, 287] (by decide +kernel) (by decide +kernel)) (goodIn_sub (fun _ h => List.mem_cons_of_mem _ (List.mem_append_left _ (List.mem_append_left _ (List.mem_append_right _ h)))) (by decide +kernel))
set_option maxRecDepth 20000 in
theorem gL_statements_L_ancestors : GoodIn wsL_statements (va_wsS RL 112 yL_ancestors wsL_ancestors) := goodIn_app (goodIn_of _ (by decide +kernel)) ggL_statements_L_ancestors
set_option maxRecDepth 20000 in
theorem ggL_statements_L_delete : GoodIn wsL_statements wsL_delete := goodIn_ca (goodIn_ca (goodIn_r _ [237, 6, 78, 8, 9, 238, 239, 240, 13, 241, 15, 16, 83, 84, 20, 21, 22, 85, 86, 87, 91, 61, 62, 242, 243, 244, 245, 96, 246, 97, 72, 73, 68, 74, 70, 98, 99, 100, 101, 102, 103, 104, 105, 106, 107, 108, 109, 110, 111, 112, 113, 114, 115, 116, 117, 118, 119, 120, 121, 122, 123, 247, 248, 249, 250, 251, 252, 253, 254, 208, 209, 210, 211, 212, 213, 255, 223, 224, 225, 226, 256, 228, 229, 230, 257, 232, 233, 234, 258, 259, 260, 261, 129, 130, 131, 132, 262, 263, 264, 265, 266, 267, 45, 46, 32, 47, 48, 59, 60, 268, 172, 173, 174, 58, 34, 35, 36, 37, 38, 63, 64, 65, 66, 67, 69, 269, 125, 126, 127, 128, 143, 144, 133, 134, 135, 136, 19, 137, 138, 139, 140, 141, 50, 51, 52, 53, 142, 55, 56, 57, 71, 145, 146, 147, 148, 149, 150, 151, 152, 278, 279, 280, 281, 282, 283, 288, 289, 290, 297, 298, 299, 294, 295, 296, 284, 285, 286, 287] (by decide +kernel) (by decide +kernel)) (goodIn_sub (fun _ h => List.mem_cons_of_mem _ (List.mem_append_left _ (List.mem_append_left _ (List.mem_append_right _ h)))) (by decide +kernel))) (goodIn_sub (fun _ h => List.mem_cons_of_mem _ (List.mem_append_right _ h)) (by decide +kernel))
set_option maxRecDepth 20000 in
theorem gL_statements_L_delete : GoodIn wsL_statements (va_wsS RL 96 yL_delete wsL_delete) := goodIn_app (goodIn_of _ (by decide +kernel)) ggL_statements_L_delete
set_option maxRecDepth 20000 in
theorem ggL_statements_L_value : GoodIn wsL_statements wsL_value := goodIn_ca (goodIn_r _ [272, 6, 8, 273, 274, 275, 13, 276, 15, 16, 96, 20, 21, 22, 85, 86, 87, 23, 24, 25, 91, 61, 62, 277, 66, 67, 68, 69, 70, 278, 279, 280, 281, 282, 283, 288, 289, 290] (by decide +kernel) (by decide +kernel)) (goodIn_sub (fun _ h => List.mem_cons_of_mem _ (List.mem_append_left _ (List.mem_append_left _ (List.mem_append_right _ h)))) (by decide +kernel))
set_option maxRecDepth 20000 in
theorem gL_statements_L_value : GoodIn wsL_statements (va_wsS RL 106 yL_value wsL_value) := goodIn_app (goodIn_of _ (by decide +kernel)) ggL_statements_L_value
theorem dL_statements_0 : decode cL_statements 0 = .ok (.iconst 0, 1) := by decide +kernel
theorem dL_statements_1 : decode cL_statements 1 = .ok (.istore 4, 2) := by decide +kernel
theorem dL_statements_3 : decode cL_statements 3 = .ok (.iload 4, 2) := by decide +kernel
theorem dL_statements_5 : decode cL_statements 5 = .ok (.bipush 8, 2) := by decide +kernel
theorem dL_statements_7 : decode cL_statements 7 = .ok (.if_icmp .ge 75, 3) := by decide +kernel
theorem dL_statements_10 : decode cL_statements 10 = .ok (.aload_n 0, 1) := by decide +kernel
theorem dL_statements_11 : decode cL_statements 11 = .ok (.iload 4, 2) := by decide +kernel
theorem dL_statements_13 : decode cL_statements 13 = .ok (.iconst 2, 1) := by decide +kernel
theorem dL_statements_14 : decode cL_statements 14 = .ok (.idiv, 1) := by decide +kernel
theorem dL_statements_15 : decode cL_statements 15 = .ok (.iload 4, 2) := by decide +kernel
theorem dL_statements_17 : decode cL_statements 17 = .ok (.iconst 2, 1) := by decide +kernel
theorem dL_statements_18 : decode cL_statements 18 = .ok (.irem, 1) := by decide +kernel
theorem dL_statements_19 : decode cL_statements 19 = .ok (.iconst 2, 1) := by decide +kernel
theorem dL_statements_20 : decode cL_statements 20 = .ok (.invokestatic 103, 3) := by decide +kernel
theorem dL_statements_23 : decode cL_statements 23 = .ok (.ifCond .ne 53, 3) := by decide +kernel
theorem dL_statements_26 : decode cL_statements 26 = .ok (.aload_n 0, 1) := by decide +kernel
theorem dL_statements_27 : decode cL_statements 27 = .ok (.iload 4, 2) := by decide +kernel
theorem dL_statements_29 : decode cL_statements 29 = .ok (.iconst 2, 1) := by decide +kernel
theorem dL_statements_30 : decode cL_statements 30 = .ok (.idiv, 1) := by decide +kernel
theorem dL_statements_31 : decode cL_statements 31 = .ok (.iload 4, 2) := by decide +kernel
theorem dL_statements_33 : decode cL_statements 33 = .ok (.iconst 2, 1) := by decide +kernel
theorem dL_statements_34 : decode cL_statements 34 = .ok (.irem, 1) := by decide +kernel
theorem dL_statements_35 : decode cL_statements 35 = .ok (.iconst 3, 1) := by decide +kernel
theorem dL_statements_36 : decode cL_statements 36 = .ok (.invokestatic 103, 3) := by decide +kernel
theorem dL_statements_39 : decode cL_statements 39 = .ok (.ifCond .le 37, 3) := by decide +kernel
theorem dL_statements_42 : decode cL_statements 42 = .ok (.aload_n 0, 1) := by decide +kernel
theorem dL_statements_43 : decode cL_statements 43 = .ok (.iload_n 1, 1) := by decide +kernel
theorem dL_statements_44 : decode cL_statements 44 = .ok (.iload_n 2, 1) := by decide +kernel
theorem dL_statements_45 : decode cL_statements 45 = .ok (.iload_n 3, 1) := by decide +kernel
theorem dL_statements_46 : decode cL_statements 46 = .ok (.iconst (-1), 1) := by decide +kernel
theorem dL_statements_47 : decode cL_statements 47 = .ok (.invokestatic 98, 3) := by decide +kernel
theorem dL_statements_50 : decode cL_statements 50 = .ok (.iconst 1, 1) := by decide +kernel
theorem dL_statements_51 : decode cL_statements 51 = .ok (.if_icmp .lt 19, 3) := by decide +kernel
theorem dL_statements_54 : decode cL_statements 54 = .ok (.aload_n 0, 1) := by decide +kernel
theorem dL_statements_55 : decode cL_statements 55 = .ok (.iload 4, 2) := by decide +kernel
theorem dL_statements_57 : decode cL_statements 57 = .ok (.iconst 2, 1) := by decide +kernel
theorem dL_statements_58 : decode cL_statements 58 = .ok (.idiv, 1) := by decide +kernel
theorem dL_statements_59 : decode cL_statements 59 = .ok (.iload 4, 2) := by decide +kernel
theorem dL_statements_61 : decode cL_statements 61 = .ok (.iconst 2, 1) := by decide +kernel
theorem dL_statements_62 : decode cL_statements 62 = .ok (.irem, 1) := by decide +kernel
theorem dL_statements_63 : decode cL_statements 63 = .ok (.iconst 3, 1) := by decide +kernel
theorem dL_statements_64 : decode cL_statements 64 = .ok (.invokestatic 103, 3) := by decide +kernel
theorem dL_statements_67 : decode cL_statements 67 = .ok (.ifCond .ne 7, 3) := by decide +kernel
theorem dL_statements_70 : decode cL_statements 70 = .ok (.iconst 1, 1) := by decide +kernel
theorem dL_statements_71 : decode cL_statements 71 = .ok (.goto 4, 3) := by decide +kernel
theorem dL_statements_74 : decode cL_statements 74 = .ok (.iconst 0, 1) := by decide +kernel
theorem dL_statements_75 : decode cL_statements 75 = .ok (.ireturn, 1) := by decide +kernel
theorem dL_statements_76 : decode cL_statements 76 = .ok (.iinc 4 1, 3) := by decide +kernel
theorem dL_statements_79 : decode cL_statements 79 = .ok (.goto (-76), 3) := by decide +kernel
theorem dL_statements_82 : decode cL_statements 82 = .ok (.aload_n 0, 1) := by decide +kernel
theorem dL_statements_83 : decode cL_statements 83 = .ok (.iload_n 1, 1) := by decide +kernel
theorem dL_statements_84 : decode cL_statements 84 = .ok (.iload_n 2, 1) := by decide +kernel
theorem dL_statements_85 : decode cL_statements 85 = .ok (.invokevirtual 108, 3) := by decide +kernel
theorem dL_statements_88 : decode cL_statements 88 = .ok (.ifCond .ne 105, 3) := by decide +kernel
theorem dL_statements_91 : decode cL_statements 91 = .ok (.aload_n 0, 1) := by decide +kernel
theorem dL_statements_92 : decode cL_statements 92 = .ok (.iload_n 1, 1) := by decide +kernel
theorem dL_statements_93 : decode cL_statements 93 = .ok (.iload_n 2, 1) := by decide +kernel
theorem dL_statements_94 : decode cL_statements 94 = .ok (.invokestatic 114, 3) := by decide +kernel
theorem dL_statements_97 : decode cL_statements 97 = .ok (.istore 4, 2) := by decide +kernel
theorem dL_statements_99 : decode cL_statements 99 = .ok (.aload_n 0, 1) := by decide +kernel
theorem dL_statements_100 : decode cL_statements 100 = .ok (.invokevirtual 126, 3) := by decide +kernel
theorem dL_statements_103 : decode cL_statements 103 = .ok (.istore 5, 2) := by decide +kernel
theorem dL_statements_105 : decode cL_statements 105 = .ok (.aload_n 0, 1) := by decide +kernel
theorem dL_statements_106 : decode cL_statements 106 = .ok (.iload_n 1, 1) := by decide +kernel
theorem dL_statements_107 : decode cL_statements 107 = .ok (.iload_n 2, 1) := by decide +kernel
theorem dL_statements_108 : decode cL_statements 108 = .ok (.iconst (-1), 1) := by decide +kernel
theorem dL_statements_109 : decode cL_statements 109 = .ok (.iconst (-1), 1) := by decide +kernel
theorem dL_statements_110 : decode cL_statements 110 = .ok (.invokestatic 101, 3) := by decide +kernel
theorem dL_statements_113 : decode cL_statements 113 = .ok (.istore 6, 2) := by decide +kernel
theorem dL_statements_115 : decode cL_statements 115 = .ok (.iload 6, 2) := by decide +kernel
theorem dL_statements_117 : decode cL_statements 117 = .ok (.iconst 1, 1) := by decide +kernel
theorem dL_statements_118 : decode cL_statements 118 = .ok (.if_icmp .ne 73, 3) := by decide +kernel
theorem dL_statements_121 : decode cL_statements 121 = .ok (.aload_n 0, 1) := by decide +kernel
theorem dL_statements_122 : decode cL_statements 122 = .ok (.invokevirtual 126, 3) := by decide +kernel
theorem dL_statements_125 : decode cL_statements 125 = .ok (.iload 5, 2) := by decide +kernel
theorem dL_statements_127 : decode cL_statements 127 = .ok (.iconst 1, 1) := by decide +kernel
theorem dL_statements_128 : decode cL_statements 128 = .ok (.iadd, 1) := by decide +kernel
theorem dL_statements_129 : decode cL_statements 129 = .ok (.if_icmp .ne 62, 3) := by decide +kernel
theorem dL_statements_132 : decode cL_statements 132 = .ok (.aload_n 0, 1) := by decide +kernel
theorem dL_statements_133 : decode cL_statements 133 = .ok (.iload_n 1, 1) := by decide +kernel
theorem dL_statements_134 : decode cL_statements 134 = .ok (.iload_n 2, 1) := by decide +kernel
theorem dL_statements_135 : decode cL_statements 135 = .ok (.invokestatic 114, 3) := by decide +kernel
theorem dL_statements_138 : decode cL_statements 138 = .ok (.iload 4, 2) := by decide +kernel
theorem dL_statements_140 : decode cL_statements 140 = .ok (.if_icmp .ne 51, 3) := by decide +kernel
theorem dL_statements_143 : decode cL_statements 143 = .ok (.aload_n 0, 1) := by decide +kernel
theorem dL_statements_144 : decode cL_statements 144 = .ok (.iload_n 1, 1) := by decide +kernel
theorem dL_statements_145 : decode cL_statements 145 = .ok (.iload_n 2, 1) := by decide +kernel
theorem dL_statements_146 : decode cL_statements 146 = .ok (.invokestatic 112, 3) := by decide +kernel
theorem dL_statements_149 : decode cL_statements 149 = .ok (.ifCond .ne 42, 3) := by decide +kernel
theorem dL_statements_152 : decode cL_statements 152 = .ok (.iload 4, 2) := by decide +kernel
theorem dL_statements_154 : decode cL_statements 154 = .ok (.ifCond .gt 33, 3) := by decide +kernel
theorem dL_statements_157 : decode cL_statements 157 = .ok (.aload_n 0, 1) := by decide +kernel
theorem dL_statements_158 : decode cL_statements 158 = .ok (.iload_n 1, 1) := by decide +kernel
theorem dL_statements_159 : decode cL_statements 159 = .ok (.iload_n 2, 1) := by decide +kernel
theorem dL_statements_160 : decode cL_statements 160 = .ok (.invokestatic 96, 3) := by decide +kernel
theorem dL_statements_163 : decode cL_statements 163 = .ok (.iconst 1, 1) := by decide +kernel
theorem dL_statements_164 : decode cL_statements 164 = .ok (.if_icmp .ne 27, 3) := by decide +kernel
theorem dL_statements_167 : decode cL_statements 167 = .ok (.aload_n 0, 1) := by decide +kernel
theorem dL_statements_168 : decode cL_statements 168 = .ok (.invokevirtual 126, 3) := by decide +kernel
theorem dL_statements_171 : decode cL_statements 171 = .ok (.iload 5, 2) := by decide +kernel
theorem dL_statements_173 : decode cL_statements 173 = .ok (.iconst 2, 1) := by decide +kernel
theorem dL_statements_174 : decode cL_statements 174 = .ok (.iadd, 1) := by decide +kernel
theorem dL_statements_175 : decode cL_statements 175 = .ok (.if_icmp .ne 16, 3) := by decide +kernel
theorem dL_statements_178 : decode cL_statements 178 = .ok (.aload_n 0, 1) := by decide +kernel
theorem dL_statements_179 : decode cL_statements 179 = .ok (.iload_n 1, 1) := by decide +kernel
theorem dL_statements_180 : decode cL_statements 180 = .ok (.iload_n 2, 1) := by decide +kernel
theorem dL_statements_181 : decode cL_statements 181 = .ok (.invokevirtual 108, 3) := by decide +kernel
theorem dL_statements_184 : decode cL_statements 184 = .ok (.ifCond .ne 7, 3) := by decide +kernel
theorem dL_statements_187 : decode cL_statements 187 = .ok (.iconst 1, 1) := by decide +kernel
theorem dL_statements_188 : decode cL_statements 188 = .ok (.goto 4, 3) := by decide +kernel
theorem dL_statements_191 : decode cL_statements 191 = .ok (.iconst 0, 1) := by decide +kernel
theorem dL_statements_192 : decode cL_statements 192 = .ok (.ireturn, 1) := by decide +kernel
theorem dL_statements_193 : decode cL_statements 193 = .ok (.aload_n 0, 1) := by decide +kernel
theorem dL_statements_194 : decode cL_statements 194 = .ok (.iload_n 1, 1) := by decide +kernel
theorem dL_statements_195 : decode cL_statements 195 = .ok (.iload_n 2, 1) := by decide +kernel
theorem dL_statements_196 : decode cL_statements 196 = .ok (.iload_n 3, 1) := by decide +kernel
theorem dL_statements_197 : decode cL_statements 197 = .ok (.invokestatic 106, 3) := by decide +kernel
theorem dL_statements_200 : decode cL_statements 200 = .ok (.istore 4, 2) := by decide +kernel
theorem dL_statements_202 : decode cL_statements 202 = .ok (.aload_n 0, 1) := by decide +kernel
theorem dL_statements_203 : decode cL_statements 203 = .ok (.iload_n 1, 1) := by decide +kernel
theorem dL_statements_204 : decode cL_statements 204 = .ok (.iload_n 2, 1) := by decide +kernel
theorem dL_statements_205 : decode cL_statements 205 = .ok (.iconst 1, 1) := by decide +kernel
theorem dL_statements_206 : decode cL_statements 206 = .ok (.iload_n 3, 1) := by decide +kernel
theorem dL_statements_207 : decode cL_statements 207 = .ok (.isub, 1) := by decide +kernel
theorem dL_statements_208 : decode cL_statements 208 = .ok (.invokestatic 106, 3) := by decide +kernel
theorem dL_statements_211 : decode cL_statements 211 = .ok (.istore 5, 2) := by decide +kernel
theorem dL_statements_213 : decode cL_statements 213 = .ok (.aload_n 0, 1) := by decide +kernel
theorem dL_statements_214 : decode cL_statements 214 = .ok (.invokevirtual 126, 3) := by decide +kernel
theorem dL_statements_217 : decode cL_statements 217 = .ok (.istore 6, 2) := by decide +kernel
theorem dL_statements_219 : decode cL_statements 219 = .ok (.aload_n 0, 1) := by decide +kernel
theorem dL_statements_220 : decode cL_statements 220 = .ok (.iload_n 1, 1) := by decide +kernel
theorem dL_statements_221 : decode cL_statements 221 = .ok (.iload_n 2, 1) := by decide +kernel
theorem dL_statements_222 : decode cL_statements 222 = .ok (.iload_n 3, 1) := by decide +kernel
theorem dL_statements_223 : decode cL_statements 223 = .ok (.iload 4, 2) := by decide +kernel
theorem dL_statements_225 : decode cL_statements 225 = .ok (.invokestatic 98, 3) := by decide +kernel
theorem dL_statements_228 : decode cL_statements 228 = .ok (.iconst 1, 1) := by decide +kernel
theorem dL_statements_229 : decode cL_statements 229 = .ok (.if_icmp .ne 68, 3) := by decide +kernel
theorem dL_statements_232 : decode cL_statements 232 = .ok (.aload_n 0, 1) := by decide +kernel
theorem dL_statements_233 : decode cL_statements 233 = .ok (.invokevirtual 126, 3) := by decide +kernel
theorem dL_statements_236 : decode cL_statements 236 = .ok (.iload 6, 2) := by decide +kernel
theorem dL_statements_238 : decode cL_statements 238 = .ok (.iconst 1, 1) := by decide +kernel
theorem dL_statements_239 : decode cL_statements 239 = .ok (.iadd, 1) := by decide +kernel
theorem dL_statements_240 : decode cL_statements 240 = .ok (.if_icmp .ne 57, 3) := by decide +kernel
theorem dL_statements_243 : decode cL_statements 243 = .ok (.aload_n 0, 1) := by decide +kernel
theorem dL_statements_244 : decode cL_statements 244 = .ok (.iload_n 1, 1) := by decide +kernel
theorem dL_statements_245 : decode cL_statements 245 = .ok (.iload_n 2, 1) := by decide +kernel
theorem dL_statements_246 : decode cL_statements 246 = .ok (.iload_n 3, 1) := by decide +kernel
theorem dL_statements_247 : decode cL_statements 247 = .ok (.iconst (-1), 1) := by decide +kernel
theorem dL_statements_248 : decode cL_statements 248 = .ok (.invokestatic 98, 3) := by decide +kernel
theorem dL_statements_251 : decode cL_statements 251 = .ok (.iconst 1, 1) := by decide +kernel
theorem dL_statements_252 : decode cL_statements 252 = .ok (.if_icmp .ne 45, 3) := by decide +kernel
theorem dL_statements_255 : decode cL_statements 255 = .ok (.aload_n 0, 1) := by decide +kernel
theorem dL_statements_256 : decode cL_statements 256 = .ok (.iload_n 1, 1) := by decide +kernel
theorem dL_statements_257 : decode cL_statements 257 = .ok (.iload_n 2, 1) := by decide +kernel
theorem dL_statements_258 : decode cL_statements 258 = .ok (.iload_n 3, 1) := by decide +kernel
theorem dL_statements_259 : decode cL_statements 259 = .ok (.invokestatic 106, 3) := by decide +kernel
theorem dL_statements_262 : decode cL_statements 262 = .ok (.iconst (-1), 1) := by decide +kernel
theorem dL_statements_263 : decode cL_statements 263 = .ok (.if_icmp .ne 34, 3) := by decide +kernel
theorem dL_statements_266 : decode cL_statements 266 = .ok (.aload_n 0, 1) := by decide +kernel
theorem dL_statements_267 : decode cL_statements 267 = .ok (.iload_n 1, 1) := by decide +kernel
theorem dL_statements_268 : decode cL_statements 268 = .ok (.iload_n 2, 1) := by decide +kernel
theorem dL_statements_269 : decode cL_statements 269 = .ok (.iconst 1, 1) := by decide +kernel
theorem dL_statements_270 : decode cL_statements 270 = .ok (.iload_n 3, 1) := by decide +kernel
theorem dL_statements_271 : decode cL_statements 271 = .ok (.isub, 1) := by decide +kernel
theorem dL_statements_272 : decode cL_statements 272 = .ok (.invokestatic 106, 3) := by decide +kernel
theorem dL_statements_275 : decode cL_statements 275 = .ok (.iload 5, 2) := by decide +kernel
theorem dL_statements_277 : decode cL_statements 277 = .ok (.if_icmp .ne 20, 3) := by decide +kernel
theorem dL_statements_280 : decode cL_statements 280 = .ok (.aload_n 0, 1) := by decide +kernel
theorem dL_statements_281 : decode cL_statements 281 = .ok (.iload_n 1, 1) := by decide +kernel
theorem dL_statements_282 : decode cL_statements 282 = .ok (.iload_n 2, 1) := by decide +kernel
theorem dL_statements_283 : decode cL_statements 283 = .ok (.iconst (-1), 1) := by decide +kernel
theorem dL_statements_284 : decode cL_statements 284 = .ok (.iconst (-1), 1) := by decide +kernel
theorem dL_statements_285 : decode cL_statements 285 = .ok (.invokestatic 101, 3) := by decide +kernel
theorem dL_statements_288 : decode cL_statements 288 = .ok (.ldc 24, 2) := by decide +kernel
theorem dL_statements_290 : decode cL_statements 290 = .ok (.if_icmp .ne 7, 3) := by decide +kernel
theorem dL_statements_293 : decode cL_statements 293 = .ok (.iconst 1, 1) := by decide +kernel
theorem dL_statements_294 : decode cL_statements 294 = .ok (.goto 4, 3) := by decide +kernel
theorem dL_statements_297 : decode cL_statements 297 = .ok (.iconst 0, 1) := by decide +kernel
theorem dL_statements_298 : decode cL_statements 298 = .ok (.ireturn, 1) := by decide +kernel
set_option maxRecDepth 20000 in
theorem ggL_ends_X7_firstViolation : GoodIn wsL_ends wsX7_firstViolation := goodIn_r _ [5, 6, 7, 8, 9, 10, 11, 12, 13, 14, 15, 16, 17, 18, 19, 20, 21, 22, 23, 24, 25, 26, 27, 4, 28, 29, 30, 31, 32, 33, 34, 35, 36, 37, 38, 39, 40, 41, 42, 43, 44, 211, 212, 213, 214, 215, 216, 217, 218, 219, 220, 221, 222, 223] (by decide +kernel) (by decide +kernel)
set_option maxRecDepth 20000 in
theorem gL_ends_X7_firstViolation : GoodIn wsL_ends (wsV RL 123 RX7 yX7_firstViolation wsX7_firstViolation) := goodIn_app (goodIn_of _ (by decide +kernel)) ggL_ends_X7_firstViolation
set_option maxRecDepth 20000 in
theorem ggL_ends_X7_changes : GoodIn wsL_ends wsX7_changes := goodIn_r _ [48, 49, 50, 51, 52, 36, 53, 54, 211, 212, 213, 214, 215, 216, 221, 222, 223] (by decide +kernel) (by decide +kernel)
set_option maxRecDepth 20000 in
theorem gL_ends_X7_changes : GoodIn wsL_ends (wsV RL 126 RX7 yX7_changes wsX7_changes) := goodIn_app (goodIn_of _ (by decide +kernel)) ggL_ends_X7_changes
set_option maxRecDepth 20000 in
theorem ggL_ends_X7_savePoints : GoodIn wsL_ends wsX7_savePoints := goodIn_r _ [58, 59, 60, 61, 62, 63, 64, 65, 211, 212, 213, 214, 215, 216, 224, 225] (by decide +kernel) (by decide +kernel)
set_option maxRecDepth 20000 in
theorem gL_ends_X7_savePoints : GoodIn wsL_ends (wsV RL 135 RX7 yX7_savePoints wsX7_savePoints) := goodIn_app (goodIn_of _ (by decide +kernel)) ggL_ends_X7_savePoints
set_option maxRecDepth 20000 in
theorem ggL_ends_L_print : GoodIn wsL_ends wsL_print := goodIn_ca (goodIn_ca (goodIn_r _ [69, 70, 45, 46, 47, 4, 48, 49, 50, 51, 52, 36, 53, 54, 71, 72, 68, 73, 74, 75, 76, 77, 78, 79, 80, 81, 82, 83, 84, 85, 86, 87, 88, 89, 90, 91, 29, 30, 92, 34, 35, 37, 38, 93, 94, 95, 96, 97, 98, 99, 100, 101, 102, 103, 6, 104, 105, 106, 107, 108, 109, 10, 110, 17, 18, 19, 20, 21, 111, 112, 113, 114, 115, 116, 117, 118, 119, 120, 121, 13, 14, 15, 16, 122, 23, 24, 25, 26, 27, 28, 31, 32, 33, 39, 40, 41, 42, 211, 212, 213, 214, 215, 216, 221, 222, 223, 217, 218, 219, 220] (by decide +kernel) (by decide +kernel)) (goodIn_sub (fun _ h => List.mem_cons_of_mem _ (List.mem_append_left _ (List.mem_append_left _ (List.mem_append_right _ h)))) (by decide +kernel))) (goodIn_sub (fun _ h => List.mem_cons_of_mem _ (List.mem_append_left _ (List.mem_append_right _ h))) (by decide +kernel))
set_option maxRecDepth 20000 in
theorem gL_ends_L_print : GoodIn wsL_ends (va_wsS RL 131 yL_print wsL_print) := goodIn_app (goodIn_of _ (by decide +kernel)) ggL_ends_L_print
set_option maxRecDepth 20000 in
theorem ggL_ends_X7_commit : GoodIn wsL_ends wsX7_commit := goodIn_r _ [126, 127, 128, 129, 4, 130, 6, 49, 59, 7, 8, 9, 10, 11, 12, 13, 14, 15, 16, 17, 18, 19, 20, 21, 22, 23, 24, 25, 26, 27, 28, 29, 30, 31, 32, 33, 34, 35, 36, 37, 38, 39, 40, 41, 42, 43, 44, 50, 51, 52, 53, 54, 131, 132, 133, 134, 135, 136, 137, 63, 138, 65, 211, 212, 213, 214, 215, 216, 217, 218, 219, 220, 221, 222, 223, 224, 225] (by decide +kernel) (by decide +kernel)
set_option maxRecDepth 20000 in
theorem gL_ends_X7_commit : GoodIn wsL_ends (wsV RL 84 RX7 yX7_commit wsX7_commit) := goodIn_app (goodIn_of _ (by decide +kernel)) ggL_ends_X7_commit
set_option maxRecDepth 20000 in
theorem ggL_ends_X7_exists : GoodIn wsL_ends wsX7_exists := goodIn_ca (goodIn_r _ [142, 80, 81, 49, 82, 83, 4, 84, 85, 86, 87, 91, 29, 30, 143, 40, 41, 36, 42, 38, 211, 212, 213, 214, 215, 216, 221, 222, 223] (by decide +kernel) (by decide +kernel)) (goodIn_sub (fun _ h => List.mem_cons_of_mem _ (List.mem_append_left _ (List.mem_append_left _ (List.mem_append_right _ h)))) (by decide +kernel))
set_option maxRecDepth 20000 in
theorem gL_ends_X7_exists : GoodIn wsL_ends (wsV RL 108 RX7 yX7_exists wsX7_exists) := goodIn_app (goodIn_of _ (by decide +kernel)) ggL_ends_X7_exists
set_option maxRecDepth 20000 in
theorem ggL_ends_L_insert : GoodIn wsL_ends wsL_insert := goodIn_ca (goodIn_ca (goodIn_ca (goodIn_r _ [146, 74, 96, 147, 75, 97, 148, 149, 150, 151, 4, 152, 80, 81, 102, 103, 153, 154, 82, 83, 84, 85, 86, 87, 155, 156, 157, 91, 29, 30, 158, 159, 160, 161, 49, 143, 40, 41, 36, 42, 38, 162, 163, 164, 165, 166, 54, 167, 168, 169, 170, 171, 172, 173, 174, 175, 176, 177, 178, 179, 180, 181, 182, 183, 184, 185, 186, 187, 188, 189, 190, 191, 192, 193, 194, 6, 7, 8, 9, 10, 11, 12, 13, 14, 15, 16, 17, 18, 19, 20, 21, 22, 23, 24, 25, 26, 27, 28, 31, 32, 33, 34, 35, 37, 39, 43, 44, 195, 196, 197, 198, 199, 200, 201, 202, 211, 212, 213, 214, 215, 216, 221, 222, 223, 217, 218, 219, 220] (by decide +kernel) (by decide +kernel)) (goodIn_sub (fun _ h => List.mem_cons_of_mem _ (List.mem_append_left _ (List.mem_append_left _ (List.mem_append_right _ h)))) (by decide +kernel))) (goodIn_sub (fun _ h => List.mem_cons_of_mem _ (List.mem_append_left _ (List.mem_append_right _ h))) (by decide +kernel))) (goodIn_sub (fun _ h => List.mem_cons_of_mem _ (List.mem_append_right _ h)) (by decide +kernel))
set_option maxRecDepth 20000 in
theorem gL_ends_L_insert : GoodIn wsL_ends (va_wsS RL 101 yL_insert wsL_insert) := goodIn_app (goodIn_of _ (by decide +kernel)) ggL_ends_L_insert
set_option maxRecDepth 20000 in
theorem ggL_ends_X7_rollBack : GoodIn wsL_ends wsX7_rollBack := goodIn_r _ [206, 207, 208, 209, 4, 210, 59, 49, 135, 136, 137, 63, 138, 65, 195, 196, 197, 36, 198, 54, 166, 199, 200, 201, 202, 38, 211, 212, 213, 214, 215, 216, 224, 225, 221, 222, 223] (by decide +kernel) (by decide +kernel)
set_option maxRecDepth 20000 in
theorem gL_ends_X7_rollBack : GoodIn wsL_ends (wsV RL 87 RX7 yX7_rollBack wsX7_rollBack) := goodIn_app (goodIn_of _ (by decide +kernel)) ggL_ends_X7_rollBack
theorem dL_ends_0 : decode cL_ends 0 = .ok (.aload_n 0, 1) := by decide +kernel
theorem dL_ends_1 : decode cL_ends 1 = .ok (.invokevirtual 123, 3) := by decide +kernel
theorem dL_ends_4 : decode cL_ends 4 = .ok (.istore_n 1, 1) := by decide +kernel
theorem dL_ends_5 : decode cL_ends 5 = .ok (.aload_n 0, 1) := by decide +kernel
theorem dL_ends_6 : decode cL_ends 6 = .ok (.invokevirtual 126, 3) := by decide +kernel
theorem dL_ends_9 : decode cL_ends 9 = .ok (.istore_n 2, 1) := by decide +kernel
theorem dL_ends_10 : decode cL_ends 10 = .ok (.aload_n 0, 1) := by decide +kernel
theorem dL_ends_11 : decode cL_ends 11 = .ok (.invokevirtual 135, 3) := by decide +kernel
theorem dL_ends_14 : decode cL_ends 14 = .ok (.istore_n 3, 1) := by decide +kernel
theorem dL_ends_15 : decode cL_ends 15 = .ok (.aload_n 0, 1) := by decide +kernel
theorem dL_ends_16 : decode cL_ends 16 = .ok (.invokestatic 131, 3) := by decide +kernel
theorem dL_ends_19 : decode cL_ends 19 = .ok (.lstore 4, 2) := by decide +kernel
theorem dL_ends_21 : decode cL_ends 21 = .ok (.aload_n 0, 1) := by decide +kernel
theorem dL_ends_22 : decode cL_ends 22 = .ok (.invokevirtual 84, 3) := by decide +kernel
theorem dL_ends_25 : decode cL_ends 25 = .ok (.istore 6, 2) := by decide +kernel
theorem dL_ends_27 : decode cL_ends 27 = .ok (.iload_n 1, 1) := by decide +kernel
theorem dL_ends_28 : decode cL_ends 28 = .ok (.ifCond .eq 41, 3) := by decide +kernel
theorem dL_ends_31 : decode cL_ends 31 = .ok (.iload 6, 2) := by decide +kernel
theorem dL_ends_33 : decode cL_ends 33 = .ok (.iload_n 1, 1) := by decide +kernel
theorem dL_ends_34 : decode cL_ends 34 = .ok (.if_icmp .ne 33, 3) := by decide +kernel
theorem dL_ends_37 : decode cL_ends 37 = .ok (.aload_n 0, 1) := by decide +kernel
theorem dL_ends_38 : decode cL_ends 38 = .ok (.invokevirtual 126, 3) := by decide +kernel
theorem dL_ends_41 : decode cL_ends 41 = .ok (.iload_n 2, 1) := by decide +kernel
theorem dL_ends_42 : decode cL_ends 42 = .ok (.if_icmp .ne 25, 3) := by decide +kernel
theorem dL_ends_45 : decode cL_ends 45 = .ok (.aload_n 0, 1) := by decide +kernel
theorem dL_ends_46 : decode cL_ends 46 = .ok (.invokevirtual 135, 3) := by decide +kernel
theorem dL_ends_49 : decode cL_ends 49 = .ok (.iload_n 3, 1) := by decide +kernel
theorem dL_ends_50 : decode cL_ends 50 = .ok (.if_icmp .ne 17, 3) := by decide +kernel
theorem dL_ends_53 : decode cL_ends 53 = .ok (.aload_n 0, 1) := by decide +kernel
theorem dL_ends_54 : decode cL_ends 54 = .ok (.invokestatic 131, 3) := by decide +kernel
theorem dL_ends_57 : decode cL_ends 57 = .ok (.lload 4, 2) := by decide +kernel
theorem dL_ends_59 : decode cL_ends 59 = .ok (.lcmp, 1) := by decide +kernel
theorem dL_ends_60 : decode cL_ends 60 = .ok (.ifCond .ne 7, 3) := by decide +kernel
theorem dL_ends_63 : decode cL_ends 63 = .ok (.iconst 1, 1) := by decide +kernel
theorem dL_ends_64 : decode cL_ends 64 = .ok (.goto 4, 3) := by decide +kernel
theorem dL_ends_67 : decode cL_ends 67 = .ok (.iconst 0, 1) := by decide +kernel
theorem dL_ends_68 : decode cL_ends 68 = .ok (.ireturn, 1) := by decide +kernel
theorem dL_ends_69 : decode cL_ends 69 = .ok (.aload_n 0, 1) := by decide +kernel
theorem dL_ends_70 : decode cL_ends 70 = .ok (.invokestatic 131, 3) := by decide +kernel
theorem dL_ends_73 : decode cL_ends 73 = .ok (.lstore 7, 2) := by decide +kernel
theorem dL_ends_75 : decode cL_ends 75 = .ok (.iload 6, 2) := by decide +kernel
theorem dL_ends_77 : decode cL_ends 77 = .ok (.iload_n 2, 1) := by decide +kernel
theorem dL_ends_78 : decode cL_ends 78 = .ok (.if_icmp .ne 21, 3) := by decide +kernel
theorem dL_ends_81 : decode cL_ends 81 = .ok (.aload_n 0, 1) := by decide +kernel
theorem dL_ends_82 : decode cL_ends 82 = .ok (.invokevirtual 126, 3) := by decide +kernel
theorem dL_ends_85 : decode cL_ends 85 = .ok (.ifCond .ne 14, 3) := by decide +kernel
theorem dL_ends_88 : decode cL_ends 88 = .ok (.aload_n 0, 1) := by decide +kernel
theorem dL_ends_89 : decode cL_ends 89 = .ok (.invokevirtual 135, 3) := by decide +kernel
theorem dL_ends_92 : decode cL_ends 92 = .ok (.ifCond .ne 7, 3) := by decide +kernel
theorem dL_ends_95 : decode cL_ends 95 = .ok (.iconst 1, 1) := by decide +kernel
theorem dL_ends_96 : decode cL_ends 96 = .ok (.goto 4, 3) := by decide +kernel
theorem dL_ends_99 : decode cL_ends 99 = .ok (.iconst 0, 1) := by decide +kernel
theorem dL_ends_100 : decode cL_ends 100 = .ok (.istore 9, 2) := by decide +kernel
theorem dL_ends_102 : decode cL_ends 102 = .ok (.iconst 0, 1) := by decide +kernel
theorem dL_ends_103 : decode cL_ends 103 = .ok (.istore 10, 2) := by decide +kernel
theorem dL_ends_105 : decode cL_ends 105 = .ok (.iload 10, 2) := by decide +kernel
theorem dL_ends_107 : decode cL_ends 107 = .ok (.iconst 3, 1) := by decide +kernel
theorem dL_ends_108 : decode cL_ends 108 = .ok (.if_icmp .ge 46, 3) := by decide +kernel
theorem dL_ends_111 : decode cL_ends 111 = .ok (.iload 9, 2) := by decide +kernel
theorem dL_ends_113 : decode cL_ends 113 = .ok (.ifCond .eq 32, 3) := by decide +kernel
theorem dL_ends_116 : decode cL_ends 116 = .ok (.aload_n 0, 1) := by decide +kernel
theorem dL_ends_117 : decode cL_ends 117 = .ok (.iload 10, 2) := by decide +kernel
theorem dL_ends_119 : decode cL_ends 119 = .ok (.iload 10, 2) := by decide +kernel
theorem dL_ends_121 : decode cL_ends 121 = .ok (.invokevirtual 108, 3) := by decide +kernel
theorem dL_ends_124 : decode cL_ends 124 = .ok (.ifCond .ne 17, 3) := by decide +kernel
theorem dL_ends_127 : decode cL_ends 127 = .ok (.aload_n 0, 1) := by decide +kernel
theorem dL_ends_128 : decode cL_ends 128 = .ok (.iload 10, 2) := by decide +kernel
theorem dL_ends_130 : decode cL_ends 130 = .ok (.iload 10, 2) := by decide +kernel
theorem dL_ends_132 : decode cL_ends 132 = .ok (.iconst (-1), 1) := by decide +kernel
theorem dL_ends_133 : decode cL_ends 133 = .ok (.iconst (-1), 1) := by decide +kernel
theorem dL_ends_134 : decode cL_ends 134 = .ok (.invokestatic 101, 3) := by decide +kernel
theorem dL_ends_137 : decode cL_ends 137 = .ok (.iconst 1, 1) := by decide +kernel
theorem dL_ends_138 : decode cL_ends 138 = .ok (.if_icmp .ne 7, 3) := by decide +kernel
theorem dL_ends_141 : decode cL_ends 141 = .ok (.iconst 1, 1) := by decide +kernel
theorem dL_ends_142 : decode cL_ends 142 = .ok (.goto 4, 3) := by decide +kernel
theorem dL_ends_145 : decode cL_ends 145 = .ok (.iconst 0, 1) := by decide +kernel
theorem dL_ends_146 : decode cL_ends 146 = .ok (.istore 9, 2) := by decide +kernel
theorem dL_ends_148 : decode cL_ends 148 = .ok (.iinc 10 1, 3) := by decide +kernel
theorem dL_ends_151 : decode cL_ends 151 = .ok (.goto (-46), 3) := by decide +kernel
theorem dL_ends_154 : decode cL_ends 154 = .ok (.iload 9, 2) := by decide +kernel
theorem dL_ends_156 : decode cL_ends 156 = .ok (.ifCond .eq 31, 3) := by decide +kernel
theorem dL_ends_159 : decode cL_ends 159 = .ok (.aload_n 0, 1) := by decide +kernel
theorem dL_ends_160 : decode cL_ends 160 = .ok (.invokevirtual 87, 3) := by decide +kernel
theorem dL_ends_163 : decode cL_ends 163 = .ok (.ifCond .lt 24, 3) := by decide +kernel
theorem dL_ends_166 : decode cL_ends 166 = .ok (.aload_n 0, 1) := by decide +kernel
theorem dL_ends_167 : decode cL_ends 167 = .ok (.invokevirtual 126, 3) := by decide +kernel
theorem dL_ends_170 : decode cL_ends 170 = .ok (.ifCond .ne 17, 3) := by decide +kernel
theorem dL_ends_173 : decode cL_ends 173 = .ok (.aload_n 0, 1) := by decide +kernel
theorem dL_ends_174 : decode cL_ends 174 = .ok (.invokestatic 131, 3) := by decide +kernel
theorem dL_ends_177 : decode cL_ends 177 = .ok (.lload 7, 2) := by decide +kernel
theorem dL_ends_179 : decode cL_ends 179 = .ok (.lcmp, 1) := by decide +kernel
theorem dL_ends_180 : decode cL_ends 180 = .ok (.ifCond .ne 7, 3) := by decide +kernel
theorem dL_ends_183 : decode cL_ends 183 = .ok (.iconst 1, 1) := by decide +kernel
theorem dL_ends_184 : decode cL_ends 184 = .ok (.goto 4, 3) := by decide +kernel
theorem dL_ends_187 : decode cL_ends 187 = .ok (.iconst 0, 1) := by decide +kernel
theorem dL_ends_188 : decode cL_ends 188 = .ok (.ireturn, 1) := by decide +kernel
