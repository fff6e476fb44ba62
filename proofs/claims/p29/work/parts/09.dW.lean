theorem dL_at_0 : decode cL_at 0 = .ok (.iload_n 1, 1) := by decide +kernel
theorem dL_at_1 : decode cL_at 1 = .ok (.aload_n 0, 1) := by decide +kernel
theorem dL_at_2 : decode cL_at 2 = .ok (.arraylength, 1) := by decide +kernel
theorem dL_at_3 : decode cL_at 3 = .ok (.if_icmp .ge 9, 3) := by decide +kernel
theorem dL_at_6 : decode cL_at 6 = .ok (.aload_n 0, 1) := by decide +kernel
theorem dL_at_7 : decode cL_at 7 = .ok (.iload_n 1, 1) := by decide +kernel
theorem dL_at_8 : decode cL_at 8 = .ok (.iaload, 1) := by decide +kernel
theorem dL_at_9 : decode cL_at 9 = .ok (.goto 12, 3) := by decide +kernel
theorem dL_at_12 : decode cL_at 12 = .ok (.ldc 7, 2) := by decide +kernel
theorem dL_at_14 : decode cL_at 14 = .ok (.iload_n 1, 1) := by decide +kernel
theorem dL_at_15 : decode cL_at 15 = .ok (.iconst 1, 1) := by decide +kernel
theorem dL_at_16 : decode cL_at 16 = .ok (.iadd, 1) := by decide +kernel
theorem dL_at_17 : decode cL_at 17 = .ok (.imul, 1) := by decide +kernel
theorem dL_at_18 : decode cL_at 18 = .ok (.ldc 8, 2) := by decide +kernel
theorem dL_at_20 : decode cL_at 20 = .ok (.iadd, 1) := by decide +kernel
theorem dL_at_21 : decode cL_at 21 = .ok (.ireturn, 1) := by decide +kernel
theorem dL_low_0 : decode cL_low 0 = .ok (.iload_n 0, 1) := by decide +kernel
theorem dL_low_1 : decode cL_low 1 = .ok (.ldc 9, 2) := by decide +kernel
theorem dL_low_3 : decode cL_low 3 = .ok (.iand, 1) := by decide +kernel
theorem dL_low_4 : decode cL_low 4 = .ok (.iload_n 1, 1) := by decide +kernel
theorem dL_low_5 : decode cL_low 5 = .ok (.irem, 1) := by decide +kernel
theorem dL_low_6 : decode cL_low 6 = .ok (.ireturn, 1) := by decide +kernel
set_option maxRecDepth 20000 in
theorem ggL_define_X7_define : GoodIn wsL_define wsX7_define := goodIn_ca (goodIn_ca (goodIn_ca (goodIn_r _ [11, 12, 13, 14, 15, 16, 17, 18, 19, 20, 21, 10, 22, 23, 24, 25, 26, 27, 28, 29, 30, 31, 32, 33, 34, 35, 36, 37, 38, 39, 40, 41, 42, 43, 44, 45, 46, 47, 48, 49, 50, 51, 52, 53, 54, 55, 56, 57, 58, 59, 60, 61, 62, 63, 64, 65, 66, 67, 68, 69, 70, 71, 72, 73, 74, 75, 76, 77, 78, 79, 80, 81, 82, 83, 84, 85, 86, 87, 88] (by decide +kernel) (by decide +kernel)) (goodIn_sub (fun _ h => List.mem_cons_of_mem _ (List.mem_append_left _ (List.mem_append_left _ (List.mem_append_right _ h)))) (by decide +kernel))) (goodIn_sub (fun _ h => List.mem_cons_of_mem _ (List.mem_append_left _ (List.mem_append_right _ h))) (by decide +kernel))) (goodIn_sub (fun _ h => List.mem_cons_of_mem _ (List.mem_append_right _ h)) (by decide +kernel))
set_option maxRecDepth 20000 in
theorem gL_define_X7_define : GoodIn wsL_define (wsV RL 10 RX7 yX7_define wsX7_define) := goodIn_app (goodIn_of _ (by decide +kernel)) ggL_define_X7_define
theorem dL_define_0 : decode cL_define 0 = .ok (.aload_n 0, 1) := by decide +kernel
theorem dL_define_1 : decode cL_define 1 = .ok (.iload_n 1, 1) := by decide +kernel
theorem dL_define_2 : decode cL_define 2 = .ok (.iload_n 2, 1) := by decide +kernel
theorem dL_define_3 : decode cL_define 3 = .ok (.iload_n 3, 1) := by decide +kernel
theorem dL_define_4 : decode cL_define 4 = .ok (.iload 4, 2) := by decide +kernel
theorem dL_define_6 : decode cL_define 6 = .ok (.iload 5, 2) := by decide +kernel
theorem dL_define_8 : decode cL_define 8 = .ok (.invokevirtual 10, 3) := by decide +kernel
theorem dL_define_11 : decode cL_define 11 = .ok (.ireturn, 1) := by decide +kernel
theorem dL_define_12 : decode cL_define 12 = .ok (.astore 6, 2) := by decide +kernel
theorem dL_define_14 : decode cL_define 14 = .ok (.ldc 18, 2) := by decide +kernel
theorem dL_define_16 : decode cL_define 16 = .ok (.ireturn, 1) := by decide +kernel
theorem dL_define_17 : decode cL_define 17 = .ok (.astore 6, 2) := by decide +kernel
theorem dL_define_19 : decode cL_define 19 = .ok (.ldc 21, 2) := by decide +kernel
theorem dL_define_21 : decode cL_define 21 = .ok (.ireturn, 1) := by decide +kernel
theorem dL_define_22 : decode cL_define 22 = .ok (.astore 6, 2) := by decide +kernel
theorem dL_define_24 : decode cL_define 24 = .ok (.ldc 24, 2) := by decide +kernel
theorem dL_define_26 : decode cL_define 26 = .ok (.ireturn, 1) := by decide +kernel
set_option maxRecDepth 20000 in
theorem ggL_drop_X7_drop : GoodIn wsL_drop wsX7_drop := goodIn_ca (goodIn_ca (goodIn_r _ [9, 10, 11, 12, 13, 14, 15, 16, 17, 8, 18, 19, 20, 21, 22, 23, 24, 25, 26, 27, 28, 29, 30, 31, 32, 33, 34, 35, 36, 37, 38, 39, 40, 41, 42, 43, 44, 45, 46, 47, 48, 49, 50, 51, 52, 53, 54, 55, 56, 57, 58, 59, 60, 61, 62, 63, 64, 65, 66, 67, 68] (by decide +kernel) (by decide +kernel)) (goodIn_sub (fun _ h => List.mem_cons_of_mem _ (List.mem_append_left _ (List.mem_append_right _ h))) (by decide +kernel))) (goodIn_sub (fun _ h => List.mem_cons_of_mem _ (List.mem_append_right _ h)) (by decide +kernel))
set_option maxRecDepth 20000 in
theorem gL_drop_X7_drop : GoodIn wsL_drop (wsV RL 25 RX7 yX7_drop wsX7_drop) := goodIn_app (goodIn_of _ (by decide +kernel)) ggL_drop_X7_drop
theorem dL_drop_0 : decode cL_drop 0 = .ok (.aload_n 0, 1) := by decide +kernel
theorem dL_drop_1 : decode cL_drop 1 = .ok (.iload_n 1, 1) := by decide +kernel
theorem dL_drop_2 : decode cL_drop 2 = .ok (.iload_n 2, 1) := by decide +kernel
theorem dL_drop_3 : decode cL_drop 3 = .ok (.invokevirtual 25, 3) := by decide +kernel
theorem dL_drop_6 : decode cL_drop 6 = .ok (.ireturn, 1) := by decide +kernel
theorem dL_drop_7 : decode cL_drop 7 = .ok (.astore_n 3, 1) := by decide +kernel
theorem dL_drop_8 : decode cL_drop 8 = .ok (.ldc 18, 2) := by decide +kernel
theorem dL_drop_10 : decode cL_drop 10 = .ok (.ireturn, 1) := by decide +kernel
theorem dL_drop_11 : decode cL_drop 11 = .ok (.astore_n 3, 1) := by decide +kernel
theorem dL_drop_12 : decode cL_drop 12 = .ok (.ldc 21, 2) := by decide +kernel
theorem dL_drop_14 : decode cL_drop 14 = .ok (.ireturn, 1) := by decide +kernel
set_option maxRecDepth 20000 in
theorem ggL_setMode_X7_setMode : GoodIn wsL_setMode wsX7_setMode := goodIn_ca (goodIn_ca (goodIn_r _ [9, 10, 11, 12, 13, 14, 15, 16, 8, 17, 18, 19, 20, 21, 22, 23, 24, 25, 26, 27, 28, 29, 30, 31, 32, 33, 34, 35, 36, 37, 38, 39, 40, 41, 42, 43, 44, 45, 46, 47, 48, 49, 50, 51, 52, 53, 54, 55, 56, 57, 58, 59, 60, 61, 62, 63, 64, 65, 66, 67, 68, 69, 70, 71, 72, 73, 74, 75, 76, 77, 78, 79, 80] (by decide +kernel) (by decide +kernel)) (goodIn_sub (fun _ h => List.mem_cons_of_mem _ (List.mem_append_left _ (List.mem_append_right _ h))) (by decide +kernel))) (goodIn_sub (fun _ h => List.mem_cons_of_mem _ (List.mem_append_right _ h)) (by decide +kernel))
set_option maxRecDepth 20000 in
theorem gL_setMode_X7_setMode : GoodIn wsL_setMode (wsV RL 29 RX7 yX7_setMode wsX7_setMode) := goodIn_app (goodIn_of _ (by decide +kernel)) ggL_setMode_X7_setMode
theorem dL_setMode_0 : decode cL_setMode 0 = .ok (.aload_n 0, 1) := by decide +kernel
theorem dL_setMode_1 : decode cL_setMode 1 = .ok (.iload_n 1, 1) := by decide +kernel
theorem dL_setMode_2 : decode cL_setMode 2 = .ok (.iload_n 2, 1) := by decide +kernel
theorem dL_setMode_3 : decode cL_setMode 3 = .ok (.iload_n 3, 1) := by decide +kernel
theorem dL_setMode_4 : decode cL_setMode 4 = .ok (.invokevirtual 29, 3) := by decide +kernel
theorem dL_setMode_7 : decode cL_setMode 7 = .ok (.ireturn, 1) := by decide +kernel
theorem dL_setMode_8 : decode cL_setMode 8 = .ok (.astore 4, 2) := by decide +kernel
theorem dL_setMode_10 : decode cL_setMode 10 = .ok (.ldc 18, 2) := by decide +kernel
theorem dL_setMode_12 : decode cL_setMode 12 = .ok (.ireturn, 1) := by decide +kernel
theorem dL_setMode_13 : decode cL_setMode 13 = .ok (.astore 4, 2) := by decide +kernel
theorem dL_setMode_15 : decode cL_setMode 15 = .ok (.ldc 21, 2) := by decide +kernel
theorem dL_setMode_17 : decode cL_setMode 17 = .ok (.ireturn, 1) := by decide +kernel
set_option maxRecDepth 20000 in
theorem ggL_insert_X7_insert : GoodIn wsL_insert wsX7_insert := goodIn_ca (goodIn_ca (goodIn_ca (goodIn_r _ [11, 12, 13, 14, 15, 16, 17, 18, 19, 10, 20, 21, 22, 23, 24, 25, 26, 27, 28, 29, 30, 31, 32, 33, 34, 35, 36, 37, 38, 39, 40, 41, 42, 43, 44, 45, 46, 47, 48, 49, 50, 51, 52, 53, 54, 55, 56, 57, 58, 59, 60, 61, 62, 63, 64, 65, 66, 67, 68, 69, 70, 71, 72, 73, 74, 75, 76, 77, 78, 79, 80, 81, 82, 83, 84, 85, 86, 87, 88, 89, 90, 91, 92, 93, 94, 95, 96, 97, 98, 99, 100, 101, 102, 103, 104, 105, 106, 107, 108, 109, 110, 111, 112, 113, 114, 115, 116, 117, 118, 119, 120, 121, 122, 123, 124, 125, 126, 127] (by decide +kernel) (by decide +kernel)) (goodIn_sub (fun _ h => List.mem_cons_of_mem _ (List.mem_append_left _ (List.mem_append_left _ (List.mem_append_right _ h)))) (by decide +kernel))) (goodIn_sub (fun _ h => List.mem_cons_of_mem _ (List.mem_append_left _ (List.mem_append_right _ h))) (by decide +kernel))) (goodIn_sub (fun _ h => List.mem_cons_of_mem _ (List.mem_append_right _ h)) (by decide +kernel))
set_option maxRecDepth 20000 in
theorem gL_insert_X7_insert : GoodIn wsL_insert (wsV RL 33 RX7 yX7_insert wsX7_insert) := goodIn_app (goodIn_of _ (by decide +kernel)) ggL_insert_X7_insert
theorem dL_insert_0 : decode cL_insert 0 = .ok (.aload_n 0, 1) := by decide +kernel
theorem dL_insert_1 : decode cL_insert 1 = .ok (.iload_n 1, 1) := by decide +kernel
theorem dL_insert_2 : decode cL_insert 2 = .ok (.iload_n 2, 1) := by decide +kernel
theorem dL_insert_3 : decode cL_insert 3 = .ok (.iload_n 3, 1) := by decide +kernel
theorem dL_insert_4 : decode cL_insert 4 = .ok (.iload 4, 2) := by decide +kernel
theorem dL_insert_6 : decode cL_insert 6 = .ok (.invokevirtual 33, 3) := by decide +kernel
theorem dL_insert_9 : decode cL_insert 9 = .ok (.ireturn, 1) := by decide +kernel
theorem dL_insert_10 : decode cL_insert 10 = .ok (.astore 5, 2) := by decide +kernel
theorem dL_insert_12 : decode cL_insert 12 = .ok (.ldc 18, 2) := by decide +kernel
theorem dL_insert_14 : decode cL_insert 14 = .ok (.ireturn, 1) := by decide +kernel
theorem dL_insert_15 : decode cL_insert 15 = .ok (.astore 5, 2) := by decide +kernel
theorem dL_insert_17 : decode cL_insert 17 = .ok (.ldc 21, 2) := by decide +kernel
theorem dL_insert_19 : decode cL_insert 19 = .ok (.ireturn, 1) := by decide +kernel
theorem dL_insert_20 : decode cL_insert 20 = .ok (.astore 5, 2) := by decide +kernel
theorem dL_insert_22 : decode cL_insert 22 = .ok (.ldc 24, 2) := by decide +kernel
theorem dL_insert_24 : decode cL_insert 24 = .ok (.ireturn, 1) := by decide +kernel
set_option maxRecDepth 20000 in
theorem ggL_update_X7_update : GoodIn wsL_update wsX7_update := goodIn_ca (goodIn_ca (goodIn_ca (goodIn_r _ [11, 12, 13, 14, 15, 16, 17, 18, 19, 10, 20, 21, 22, 23, 24, 25, 26, 27, 28, 29, 30, 31, 32, 33, 34, 35, 36, 37, 38, 39, 40, 41, 42, 43, 44, 45, 46, 47, 48, 49, 50, 51, 52, 53, 54, 55, 56, 57, 58, 59, 60, 61, 62, 63, 64, 65, 66, 67, 68, 69, 70, 71, 72, 73, 74, 75, 76, 77, 78, 79, 80, 81, 82, 83, 84, 85, 86, 87, 88, 89, 90, 91, 92, 93, 94, 95, 96, 97, 98, 99, 100, 101, 102, 103, 104, 105, 106, 107, 108, 109, 110, 111, 112, 113, 114, 115, 116, 117, 118, 119, 120, 121, 122, 123, 124, 125, 126, 127, 128, 129, 130, 131, 132, 133, 134, 135] (by decide +kernel) (by decide +kernel)) (goodIn_sub (fun _ h => List.mem_cons_of_mem _ (List.mem_append_left _ (List.mem_append_left _ (List.mem_append_right _ h)))) (by decide +kernel))) (goodIn_sub (fun _ h => List.mem_cons_of_mem _ (List.mem_append_left _ (List.mem_append_right _ h))) (by decide +kernel))) (goodIn_sub (fun _ h => List.mem_cons_of_mem _ (List.mem_append_right _ h)) (by decide +kernel))
set_option maxRecDepth 20000 in
theorem gL_update_X7_update : GoodIn wsL_update (wsV RL 37 RX7 yX7_update wsX7_update) := goodIn_app (goodIn_of _ (by decide +kernel)) ggL_update_X7_update
theorem dL_update_0 : decode cL_update 0 = .ok (.aload_n 0, 1) := by decide +kernel
theorem dL_update_1 : decode cL_update 1 = .ok (.iload_n 1, 1) := by decide +kernel
theorem dL_update_2 : decode cL_update 2 = .ok (.iload_n 2, 1) := by decide +kernel
theorem dL_update_3 : decode cL_update 3 = .ok (.iload_n 3, 1) := by decide +kernel
theorem dL_update_4 : decode cL_update 4 = .ok (.iload 4, 2) := by decide +kernel
theorem dL_update_6 : decode cL_update 6 = .ok (.invokevirtual 37, 3) := by decide +kernel
theorem dL_update_9 : decode cL_update 9 = .ok (.ireturn, 1) := by decide +kernel
theorem dL_update_10 : decode cL_update 10 = .ok (.astore 5, 2) := by decide +kernel
theorem dL_update_12 : decode cL_update 12 = .ok (.ldc 18, 2) := by decide +kernel
theorem dL_update_14 : decode cL_update 14 = .ok (.ireturn, 1) := by decide +kernel
theorem dL_update_15 : decode cL_update 15 = .ok (.astore 5, 2) := by decide +kernel
theorem dL_update_17 : decode cL_update 17 = .ok (.ldc 21, 2) := by decide +kernel
theorem dL_update_19 : decode cL_update 19 = .ok (.ireturn, 1) := by decide +kernel
theorem dL_update_20 : decode cL_update 20 = .ok (.astore 5, 2) := by decide +kernel
theorem dL_update_22 : decode cL_update 22 = .ok (.ldc 24, 2) := by decide +kernel
theorem dL_update_24 : decode cL_update 24 = .ok (.ireturn, 1) := by decide +kernel
set_option maxRecDepth 20000 in
theorem ggL_delete_X7_delete : GoodIn wsL_delete wsX7_delete := goodIn_ca (goodIn_ca (goodIn_r _ [9, 10, 11, 12, 13, 14, 15, 8, 16, 17, 18, 19, 20, 21, 22, 23, 24, 25, 26, 27, 28, 29, 30, 31, 32, 33, 34, 35, 36, 37, 38, 39, 40, 41, 42, 43, 44, 45, 46, 47, 48, 49, 50, 51, 52, 53, 54, 55, 56, 57, 58, 59, 60, 61, 62, 63, 64, 65, 66, 67, 68, 69, 70, 71, 72, 73, 74, 75, 76, 77, 78, 79, 80, 81, 82, 83, 84, 85, 86, 87, 88, 89, 90, 91, 92, 93, 94, 95, 96, 97, 98, 99, 100, 101, 102, 103, 104, 105, 106, 107, 108, 109, 110, 111, 112, 113, 114, 115, 116, 117, 118, 119, 120, 121, 122, 123, 124, 125, 126, 127, 128, 129, 130, 131, 132, 133, 134, 135, 136, 137, 138, 139, 140, 141, 142, 143, 144, 145, 146, 147, 148, 149, 150, 151, 152, 153, 154, 155, 156, 157, 158, 159, 160, 161, 162, 163, 164, 165, 166, 167, 168, 169, 170, 171, 172, 173, 174, 175, 176, 177] (by decide +kernel) (by decide +kernel)) (goodIn_sub (fun _ h => List.mem_cons_of_mem _ (List.mem_append_left _ (List.mem_append_right _ h))) (by decide +kernel))) (goodIn_sub (fun _ h => List.mem_cons_of_mem _ (List.mem_append_right _ h)) (by decide +kernel))
set_option maxRecDepth 20000 in
theorem gL_delete_X7_delete : GoodIn wsL_delete (wsV RL 40 RX7 yX7_delete wsX7_delete) := goodIn_app (goodIn_of _ (by decide +kernel)) ggL_delete_X7_delete
theorem dL_delete_0 : decode cL_delete 0 = .ok (.aload_n 0, 1) := by decide +kernel
theorem dL_delete_1 : decode cL_delete 1 = .ok (.iload_n 1, 1) := by decide +kernel
theorem dL_delete_2 : decode cL_delete 2 = .ok (.iload_n 2, 1) := by decide +kernel
theorem dL_delete_3 : decode cL_delete 3 = .ok (.invokevirtual 40, 3) := by decide +kernel
theorem dL_delete_6 : decode cL_delete 6 = .ok (.ireturn, 1) := by decide +kernel
theorem dL_delete_7 : decode cL_delete 7 = .ok (.astore_n 3, 1) := by decide +kernel
theorem dL_delete_8 : decode cL_delete 8 = .ok (.ldc 18, 2) := by decide +kernel
theorem dL_delete_10 : decode cL_delete 10 = .ok (.ireturn, 1) := by decide +kernel
theorem dL_delete_11 : decode cL_delete 11 = .ok (.astore_n 3, 1) := by decide +kernel
theorem dL_delete_12 : decode cL_delete 12 = .ok (.ldc 21, 2) := by decide +kernel
theorem dL_delete_14 : decode cL_delete 14 = .ok (.ireturn, 1) := by decide +kernel
set_option maxRecDepth 20000 in
theorem ggL_savePoint_X7_savePoint : GoodIn wsL_savePoint wsX7_savePoint := goodIn_ca (goodIn_r _ [7, 8, 9, 10, 11, 12, 6, 13, 14, 15, 16, 17, 18, 19, 20, 21, 22, 23, 24, 25, 26, 27, 28, 29, 30, 31, 32, 33, 34, 35, 36, 37, 38, 39, 40, 41, 42, 43] (by decide +kernel) (by decide +kernel)) (goodIn_sub (fun _ h => List.mem_cons_of_mem _ (List.mem_append_right _ h)) (by decide +kernel))
set_option maxRecDepth 20000 in
theorem gL_savePoint_X7_savePoint : GoodIn wsL_savePoint (wsV RL 43 RX7 yX7_savePoint wsX7_savePoint) := goodIn_app (goodIn_of _ (by decide +kernel)) ggL_savePoint_X7_savePoint
theorem dL_savePoint_0 : decode cL_savePoint 0 = .ok (.aload_n 0, 1) := by decide +kernel
theorem dL_savePoint_1 : decode cL_savePoint 1 = .ok (.invokevirtual 43, 3) := by decide +kernel
theorem dL_savePoint_4 : decode cL_savePoint 4 = .ok (.ireturn, 1) := by decide +kernel
theorem dL_savePoint_5 : decode cL_savePoint 5 = .ok (.astore_n 1, 1) := by decide +kernel
theorem dL_savePoint_6 : decode cL_savePoint 6 = .ok (.ldc 18, 2) := by decide +kernel
theorem dL_savePoint_8 : decode cL_savePoint 8 = .ok (.ireturn, 1) := by decide +kernel
set_option maxRecDepth 20000 in
theorem ggL_rollBackTo_X7_rollBackTo : GoodIn wsL_rollBackTo wsX7_rollBackTo := goodIn_ca (goodIn_r _ [7, 8, 9, 10, 11, 12, 6, 13, 14, 15, 16, 17, 18, 19, 20, 21, 22, 23, 24, 25, 26, 27, 28, 29, 30, 31, 32, 33, 34, 35, 36, 37, 38, 39, 40, 41, 42, 43, 44, 45, 46, 47, 48, 49, 50, 51, 52, 53] (by decide +kernel) (by decide +kernel)) (goodIn_sub (fun _ h => List.mem_cons_of_mem _ (List.mem_append_right _ h)) (by decide +kernel))
set_option maxRecDepth 20000 in
theorem gL_rollBackTo_X7_rollBackTo : GoodIn wsL_rollBackTo (wsV RL 47 RX7 yX7_rollBackTo wsX7_rollBackTo) := goodIn_app (goodIn_of _ (by decide +kernel)) ggL_rollBackTo_X7_rollBackTo
theorem dL_rollBackTo_0 : decode cL_rollBackTo 0 = .ok (.aload_n 0, 1) := by decide +kernel
theorem dL_rollBackTo_1 : decode cL_rollBackTo 1 = .ok (.iload_n 1, 1) := by decide +kernel
theorem dL_rollBackTo_2 : decode cL_rollBackTo 2 = .ok (.invokevirtual 47, 3) := by decide +kernel
theorem dL_rollBackTo_5 : decode cL_rollBackTo 5 = .ok (.ireturn, 1) := by decide +kernel
theorem dL_rollBackTo_6 : decode cL_rollBackTo 6 = .ok (.astore_n 2, 1) := by decide +kernel
theorem dL_rollBackTo_7 : decode cL_rollBackTo 7 = .ok (.ldc 18, 2) := by decide +kernel
theorem dL_rollBackTo_9 : decode cL_rollBackTo 9 = .ok (.ireturn, 1) := by decide +kernel
set_option maxRecDepth 20000 in
theorem ggL_value_X7_value : GoodIn wsL_value wsX7_value := goodIn_ca (goodIn_r _ [7, 8, 9, 10, 11, 12, 6, 13, 14, 15, 16, 17, 18, 19, 20, 21, 22, 23, 24, 25, 26, 27, 28, 29, 30, 31, 32, 33, 34, 35, 36, 37] (by decide +kernel) (by decide +kernel)) (goodIn_sub (fun _ h => List.mem_cons_of_mem _ (List.mem_append_right _ h)) (by decide +kernel))
set_option maxRecDepth 20000 in
theorem gL_value_X7_value : GoodIn wsL_value (wsV RL 51 RX7 yX7_value wsX7_value) := goodIn_app (goodIn_of _ (by decide +kernel)) ggL_value_X7_value
theorem dL_value_0 : decode cL_value 0 = .ok (.aload_n 0, 1) := by decide +kernel
theorem dL_value_1 : decode cL_value 1 = .ok (.iload_n 1, 1) := by decide +kernel
theorem dL_value_2 : decode cL_value 2 = .ok (.iload_n 2, 1) := by decide +kernel
theorem dL_value_3 : decode cL_value 3 = .ok (.iload_n 3, 1) := by decide +kernel
theorem dL_value_4 : decode cL_value 4 = .ok (.invokevirtual 51, 3) := by decide +kernel
theorem dL_value_7 : decode cL_value 7 = .ok (.ireturn, 1) := by decide +kernel
theorem dL_value_8 : decode cL_value 8 = .ok (.astore 4, 2) := by decide +kernel
theorem dL_value_10 : decode cL_value 10 = .ok (.ldc 18, 2) := by decide +kernel
theorem dL_value_12 : decode cL_value 12 = .ok (.ireturn, 1) := by decide +kernel
set_option maxRecDepth 20000 in
theorem ggL_rows_X7_rows : GoodIn wsL_rows wsX7_rows := goodIn_ca (goodIn_r _ [7, 8, 9, 10, 11, 12, 6, 13, 14, 15, 16, 17, 18, 19, 20, 21, 22, 23, 24, 25, 26, 27, 28, 29, 30, 31, 32, 33, 34] (by decide +kernel) (by decide +kernel)) (goodIn_sub (fun _ h => List.mem_cons_of_mem _ (List.mem_append_right _ h)) (by decide +kernel))
set_option maxRecDepth 20000 in
theorem gL_rows_X7_rows : GoodIn wsL_rows (wsV RL 55 RX7 yX7_rows wsX7_rows) := goodIn_app (goodIn_of _ (by decide +kernel)) ggL_rows_X7_rows
theorem dL_rows_0 : decode cL_rows 0 = .ok (.aload_n 0, 1) := by decide +kernel
theorem dL_rows_1 : decode cL_rows 1 = .ok (.iload_n 1, 1) := by decide +kernel
theorem dL_rows_2 : decode cL_rows 2 = .ok (.invokevirtual 55, 3) := by decide +kernel
theorem dL_rows_5 : decode cL_rows 5 = .ok (.ireturn, 1) := by decide +kernel
theorem dL_rows_6 : decode cL_rows 6 = .ok (.astore_n 2, 1) := by decide +kernel
theorem dL_rows_7 : decode cL_rows 7 = .ok (.ldc 18, 2) := by decide +kernel
theorem dL_rows_9 : decode cL_rows 9 = .ok (.ireturn, 1) := by decide +kernel
set_option maxRecDepth 20000 in
theorem ggL_references_X7_references : GoodIn wsL_references wsX7_references := goodIn_ca (goodIn_r _ [7, 8, 9, 10, 11, 12, 6, 13, 14, 15, 16, 17, 18, 19, 20, 21, 22, 23, 24, 25, 26, 27, 28, 29, 30, 31, 32, 33, 34, 35, 36, 37, 38, 39, 40, 41, 42, 43, 44, 45, 46, 47, 48, 49, 50, 51, 52, 53, 54, 55, 56, 57, 58, 59, 60, 61, 62] (by decide +kernel) (by decide +kernel)) (goodIn_sub (fun _ h => List.mem_cons_of_mem _ (List.mem_append_right _ h)) (by decide +kernel))
set_option maxRecDepth 20000 in
theorem gL_references_X7_references : GoodIn wsL_references (wsV RL 58 RX7 yX7_references wsX7_references) := goodIn_app (goodIn_of _ (by decide +kernel)) ggL_references_X7_references
theorem dL_references_0 : decode cL_references 0 = .ok (.aload_n 0, 1) := by decide +kernel
theorem dL_references_1 : decode cL_references 1 = .ok (.iload_n 1, 1) := by decide +kernel
theorem dL_references_2 : decode cL_references 2 = .ok (.iload_n 2, 1) := by decide +kernel
theorem dL_references_3 : decode cL_references 3 = .ok (.invokevirtual 58, 3) := by decide +kernel
theorem dL_references_6 : decode cL_references 6 = .ok (.ireturn, 1) := by decide +kernel
theorem dL_references_7 : decode cL_references 7 = .ok (.astore_n 3, 1) := by decide +kernel
theorem dL_references_8 : decode cL_references 8 = .ok (.ldc 18, 2) := by decide +kernel
theorem dL_references_10 : decode cL_references 10 = .ok (.ireturn, 1) := by decide +kernel
set_option maxRecDepth 20000 in
theorem ggL_ancestors_X7_ancestors : GoodIn wsL_ancestors wsX7_ancestors := goodIn_ca (goodIn_r _ [7, 8, 9, 10, 11, 12, 13, 6, 14, 15, 16, 17, 18, 19, 20, 21, 22, 23, 24, 25, 26, 27, 28, 29, 30, 31, 32, 33, 34, 35, 36, 37, 38, 39, 40, 41, 42, 43, 44, 45, 46, 47, 48, 49, 50, 51, 52, 53, 54, 55, 56, 57, 58, 59, 60, 61, 62, 63, 64, 65, 66, 67, 68, 69, 70, 71, 72, 73, 74, 75, 76, 77, 78, 79, 80, 81, 82, 83, 84, 85, 86, 87, 88, 89, 90, 91, 92, 93, 94, 95, 96, 97, 98, 99] (by decide +kernel) (by decide +kernel)) (goodIn_sub (fun _ h => List.mem_cons_of_mem _ (List.mem_append_right _ h)) (by decide +kernel))
set_option maxRecDepth 20000 in
theorem gL_ancestors_X7_ancestors : GoodIn wsL_ancestors (wsV RL 61 RX7 yX7_ancestors wsX7_ancestors) := goodIn_app (goodIn_of _ (by decide +kernel)) ggL_ancestors_X7_ancestors
theorem dL_ancestors_0 : decode cL_ancestors 0 = .ok (.aload_n 0, 1) := by decide +kernel
theorem dL_ancestors_1 : decode cL_ancestors 1 = .ok (.iload_n 1, 1) := by decide +kernel
theorem dL_ancestors_2 : decode cL_ancestors 2 = .ok (.iload_n 2, 1) := by decide +kernel
theorem dL_ancestors_3 : decode cL_ancestors 3 = .ok (.invokevirtual 61, 3) := by decide +kernel
theorem dL_ancestors_6 : decode cL_ancestors 6 = .ok (.ireturn, 1) := by decide +kernel
theorem dL_ancestors_7 : decode cL_ancestors 7 = .ok (.astore_n 3, 1) := by decide +kernel
theorem dL_ancestors_8 : decode cL_ancestors 8 = .ok (.ldc 18, 2) := by decide +kernel
theorem dL_ancestors_10 : decode cL_ancestors 10 = .ok (.ireturn, 1) := by decide +kernel
set_option maxRecDepth 20000 in
theorem ggL_constraint_X7_constraint : GoodIn wsL_constraint wsX7_constraint := goodIn_ca (goodIn_ca (goodIn_r _ [9, 10, 11, 12, 13, 14, 15, 16, 8, 17, 18, 19, 20, 21, 22, 23, 24, 25, 26, 27, 28, 29, 30, 31, 32, 33, 34, 35, 36, 37, 38, 39, 40, 41, 42, 43, 44, 45, 46, 47, 48, 49, 50, 51, 52, 53, 54, 55, 56, 57, 58, 59, 60, 61, 62, 63, 64, 65, 66, 67, 68, 69, 70, 71, 72, 73, 74, 75, 76, 77, 78, 79, 80, 81, 82] (by decide +kernel) (by decide +kernel)) (goodIn_sub (fun _ h => List.mem_cons_of_mem _ (List.mem_append_left _ (List.mem_append_right _ h))) (by decide +kernel))) (goodIn_sub (fun _ h => List.mem_cons_of_mem _ (List.mem_append_right _ h)) (by decide +kernel))
set_option maxRecDepth 20000 in
theorem gL_constraint_X7_constraint : GoodIn wsL_constraint (wsV RL 64 RX7 yX7_constraint wsX7_constraint) := goodIn_app (goodIn_of _ (by decide +kernel)) ggL_constraint_X7_constraint
theorem dL_constraint_0 : decode cL_constraint 0 = .ok (.aload_n 0, 1) := by decide +kernel
theorem dL_constraint_1 : decode cL_constraint 1 = .ok (.iload_n 1, 1) := by decide +kernel
theorem dL_constraint_2 : decode cL_constraint 2 = .ok (.iload_n 2, 1) := by decide +kernel
theorem dL_constraint_3 : decode cL_constraint 3 = .ok (.iload_n 3, 1) := by decide +kernel
theorem dL_constraint_4 : decode cL_constraint 4 = .ok (.invokevirtual 64, 3) := by decide +kernel
theorem dL_constraint_7 : decode cL_constraint 7 = .ok (.ireturn, 1) := by decide +kernel
theorem dL_constraint_8 : decode cL_constraint 8 = .ok (.astore 4, 2) := by decide +kernel
theorem dL_constraint_10 : decode cL_constraint 10 = .ok (.ldc 18, 2) := by decide +kernel
theorem dL_constraint_12 : decode cL_constraint 12 = .ok (.ireturn, 1) := by decide +kernel
theorem dL_constraint_13 : decode cL_constraint 13 = .ok (.astore 4, 2) := by decide +kernel
theorem dL_constraint_15 : decode cL_constraint 15 = .ok (.ldc 21, 2) := by decide +kernel
theorem dL_constraint_17 : decode cL_constraint 17 = .ok (.ireturn, 1) := by decide +kernel
set_option maxRecDepth 20000 in
theorem ggL_ifDeleted_X7_ifDeleted : GoodIn wsL_ifDeleted wsX7_ifDeleted := goodIn_ca (goodIn_r _ [7, 8, 9, 10, 11, 12, 6, 13, 14, 15, 16, 17, 18, 19, 20, 21, 22, 23, 24, 25, 26, 27, 28, 29, 30, 31, 32, 33, 34, 35, 36, 37, 38, 39, 40, 41, 42, 43, 44, 45, 46, 47, 48, 49, 50, 51, 52, 53, 54, 55, 56, 57, 58, 59, 60, 61, 62, 63, 64, 65, 66, 67, 68, 69, 70, 71, 72, 73, 74, 75, 76, 77, 78, 79, 80, 81, 82, 83, 84, 85, 86, 87, 88, 89, 90, 91, 92, 93, 94, 95, 96, 97, 98, 99, 100, 101, 102, 103, 104, 105, 106, 107, 108, 109, 110, 111, 112, 113, 114, 115, 116, 117, 118, 119, 120, 121, 122, 123, 124, 125, 126, 127, 128, 129, 130, 131, 132, 133, 134, 135, 136, 137, 138, 139, 140, 141, 142, 143, 144, 145, 146, 147, 148, 149, 150, 151, 152, 153, 154, 155, 156, 157, 158, 159, 160, 161, 162, 163, 164, 165, 166, 167, 168, 169, 170, 171, 172, 173, 174, 175, 176, 177] (by decide +kernel) (by decide +kernel)) (goodIn_sub (fun _ h => List.mem_cons_of_mem _ (List.mem_append_right _ h)) (by decide +kernel))
set_option maxRecDepth 20000 in
theorem gL_ifDeleted_X7_ifDeleted : GoodIn wsL_ifDeleted (wsV RL 67 RX7 yX7_ifDeleted wsX7_ifDeleted) := goodIn_app (goodIn_of _ (by decide +kernel)) ggL_ifDeleted_X7_ifDeleted
theorem dL_ifDeleted_0 : decode cL_ifDeleted 0 = .ok (.aload_n 0, 1) := by decide +kernel
theorem dL_ifDeleted_1 : decode cL_ifDeleted 1 = .ok (.iload_n 1, 1) := by decide +kernel
theorem dL_ifDeleted_2 : decode cL_ifDeleted 2 = .ok (.iload_n 2, 1) := by decide +kernel
theorem dL_ifDeleted_3 : decode cL_ifDeleted 3 = .ok (.invokevirtual 67, 3) := by decide +kernel
theorem dL_ifDeleted_6 : decode cL_ifDeleted 6 = .ok (.ireturn, 1) := by decide +kernel
theorem dL_ifDeleted_7 : decode cL_ifDeleted 7 = .ok (.astore_n 3, 1) := by decide +kernel
theorem dL_ifDeleted_8 : decode cL_ifDeleted 8 = .ok (.ldc 18, 2) := by decide +kernel
theorem dL_ifDeleted_10 : decode cL_ifDeleted 10 = .ok (.ireturn, 1) := by decide +kernel
