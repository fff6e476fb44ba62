set_option maxRecDepth 20000 in
theorem ggL_define_X7_define : GoodIn wsL_define wsX7_define := goodIn_ca (goodIn_ca (goodIn_ca (goodIn_r _ [8, 9, 10, 11, 12, 13, 14, 15, 16, 17, 18, 7, 19, 20, 21, 22, 23, 24, 25, 26, 27, 28, 29, 30, 31, 32, 33, 34, 35, 36, 37, 38, 39, 40, 41, 42, 43, 44, 45, 46, 47, 48, 49, 50, 51, 52, 53, 54, 55, 56, 57, 58, 59, 60, 61, 62, 63, 64, 65, 66, 67, 68, 69, 70, 71, 72, 73, 74, 75, 76, 77, 78, 79, 80, 81, 82, 83, 84, 85] (by decide +kernel) (by decide +kernel)) (goodIn_sub (fun _ h => List.mem_cons_of_mem _ (List.mem_append_left _ (List.mem_append_left _ (List.mem_append_right _ h)))) (by decide +kernel))) (goodIn_sub (fun _ h => List.mem_cons_of_mem _ (List.mem_append_left _ (List.mem_append_right _ h))) (by decide +kernel))) (goodIn_sub (fun _ h => List.mem_cons_of_mem _ (List.mem_append_right _ h)) (by decide +kernel))
set_option maxRecDepth 20000 in
theorem gL_define_X7_define : GoodIn wsL_define (wsV RL 7 RX7 yX7_define wsX7_define) := goodIn_app (goodIn_of _ (by decide +kernel)) ggL_define_X7_define
theorem dL_define_0 : decode cL_define 0 = .ok (.aload 6, 2) := by decide +kernel
theorem dL_define_2 : decode cL_define 2 = .ok (.iconst 0, 1) := by decide +kernel
theorem dL_define_3 : decode cL_define 3 = .ok (.aload_n 0, 1) := by decide +kernel
theorem dL_define_4 : decode cL_define 4 = .ok (.iload_n 1, 1) := by decide +kernel
theorem dL_define_5 : decode cL_define 5 = .ok (.iload_n 2, 1) := by decide +kernel
theorem dL_define_6 : decode cL_define 6 = .ok (.iload_n 3, 1) := by decide +kernel
theorem dL_define_7 : decode cL_define 7 = .ok (.iload 4, 2) := by decide +kernel
theorem dL_define_9 : decode cL_define 9 = .ok (.iload 5, 2) := by decide +kernel
theorem dL_define_11 : decode cL_define 11 = .ok (.invokevirtual 7, 3) := by decide +kernel
theorem dL_define_14 : decode cL_define 14 = .ok (.i2l, 1) := by decide +kernel
theorem dL_define_15 : decode cL_define 15 = .ok (.lastore, 1) := by decide +kernel
theorem dL_define_16 : decode cL_define 16 = .ok (.goto 15, 3) := by decide +kernel
theorem dL_define_19 : decode cL_define 19 = .ok (.astore 7, 2) := by decide +kernel
theorem dL_define_21 : decode cL_define 21 = .ok (.iconst 1, 1) := by decide +kernel
theorem dL_define_22 : decode cL_define 22 = .ok (.ireturn, 1) := by decide +kernel
theorem dL_define_23 : decode cL_define 23 = .ok (.astore 7, 2) := by decide +kernel
theorem dL_define_25 : decode cL_define 25 = .ok (.iconst 2, 1) := by decide +kernel
theorem dL_define_26 : decode cL_define 26 = .ok (.ireturn, 1) := by decide +kernel
theorem dL_define_27 : decode cL_define 27 = .ok (.astore 7, 2) := by decide +kernel
theorem dL_define_29 : decode cL_define 29 = .ok (.iconst 3, 1) := by decide +kernel
theorem dL_define_30 : decode cL_define 30 = .ok (.ireturn, 1) := by decide +kernel
theorem dL_define_31 : decode cL_define 31 = .ok (.iconst 0, 1) := by decide +kernel
theorem dL_define_32 : decode cL_define 32 = .ok (.ireturn, 1) := by decide +kernel
set_option maxRecDepth 20000 in
theorem ggL_drop_X7_drop : GoodIn wsL_drop wsX7_drop := goodIn_ca (goodIn_ca (goodIn_r _ [7, 8, 9, 10, 11, 12, 13, 14, 15, 6, 16, 17, 18, 19, 20, 21, 22, 23, 24, 25, 26, 27, 28, 29, 30, 31, 32, 33, 34, 35, 36, 37, 38, 39, 40, 41, 42, 43, 44, 45, 46, 47, 48, 49, 50, 51, 52, 53, 54, 55, 56, 57, 58, 59, 60, 61, 62, 63, 64, 65, 66] (by decide +kernel) (by decide +kernel)) (goodIn_sub (fun _ h => List.mem_cons_of_mem _ (List.mem_append_left _ (List.mem_append_right _ h))) (by decide +kernel))) (goodIn_sub (fun _ h => List.mem_cons_of_mem _ (List.mem_append_right _ h)) (by decide +kernel))
set_option maxRecDepth 20000 in
theorem gL_drop_X7_drop : GoodIn wsL_drop (wsV RL 19 RX7 yX7_drop wsX7_drop) := goodIn_app (goodIn_of _ (by decide +kernel)) ggL_drop_X7_drop
theorem dL_drop_0 : decode cL_drop 0 = .ok (.aload_n 3, 1) := by decide +kernel
theorem dL_drop_1 : decode cL_drop 1 = .ok (.iconst 0, 1) := by decide +kernel
theorem dL_drop_2 : decode cL_drop 2 = .ok (.aload_n 0, 1) := by decide +kernel
theorem dL_drop_3 : decode cL_drop 3 = .ok (.iload_n 1, 1) := by decide +kernel
theorem dL_drop_4 : decode cL_drop 4 = .ok (.iload_n 2, 1) := by decide +kernel
theorem dL_drop_5 : decode cL_drop 5 = .ok (.invokevirtual 19, 3) := by decide +kernel
theorem dL_drop_8 : decode cL_drop 8 = .ok (.i2l, 1) := by decide +kernel
theorem dL_drop_9 : decode cL_drop 9 = .ok (.lastore, 1) := by decide +kernel
theorem dL_drop_10 : decode cL_drop 10 = .ok (.goto 11, 3) := by decide +kernel
theorem dL_drop_13 : decode cL_drop 13 = .ok (.astore 4, 2) := by decide +kernel
theorem dL_drop_15 : decode cL_drop 15 = .ok (.iconst 1, 1) := by decide +kernel
theorem dL_drop_16 : decode cL_drop 16 = .ok (.ireturn, 1) := by decide +kernel
theorem dL_drop_17 : decode cL_drop 17 = .ok (.astore 4, 2) := by decide +kernel
theorem dL_drop_19 : decode cL_drop 19 = .ok (.iconst 2, 1) := by decide +kernel
theorem dL_drop_20 : decode cL_drop 20 = .ok (.ireturn, 1) := by decide +kernel
theorem dL_drop_21 : decode cL_drop 21 = .ok (.iconst 0, 1) := by decide +kernel
theorem dL_drop_22 : decode cL_drop 22 = .ok (.ireturn, 1) := by decide +kernel
set_option maxRecDepth 20000 in
theorem ggL_setMode_X7_setMode : GoodIn wsL_setMode wsX7_setMode := goodIn_ca (goodIn_ca (goodIn_r _ [7, 8, 9, 10, 11, 12, 13, 14, 6, 15, 16, 17, 18, 19, 20, 21, 22, 23, 24, 25, 26, 27, 28, 29, 30, 31, 32, 33, 34, 35, 36, 37, 38, 39, 40, 41, 42, 43, 44, 45, 46, 47, 48, 49, 50, 51, 52, 53, 54, 55, 56, 57, 58, 59, 60, 61, 62, 63, 64, 65, 66, 67, 68, 69, 70, 71, 72, 73, 74, 75, 76, 77, 78] (by decide +kernel) (by decide +kernel)) (goodIn_sub (fun _ h => List.mem_cons_of_mem _ (List.mem_append_left _ (List.mem_append_right _ h))) (by decide +kernel))) (goodIn_sub (fun _ h => List.mem_cons_of_mem _ (List.mem_append_right _ h)) (by decide +kernel))
set_option maxRecDepth 20000 in
theorem gL_setMode_X7_setMode : GoodIn wsL_setMode (wsV RL 23 RX7 yX7_setMode wsX7_setMode) := goodIn_app (goodIn_of _ (by decide +kernel)) ggL_setMode_X7_setMode
theorem dL_setMode_0 : decode cL_setMode 0 = .ok (.aload 4, 2) := by decide +kernel
theorem dL_setMode_2 : decode cL_setMode 2 = .ok (.iconst 0, 1) := by decide +kernel
theorem dL_setMode_3 : decode cL_setMode 3 = .ok (.aload_n 0, 1) := by decide +kernel
theorem dL_setMode_4 : decode cL_setMode 4 = .ok (.iload_n 1, 1) := by decide +kernel
theorem dL_setMode_5 : decode cL_setMode 5 = .ok (.iload_n 2, 1) := by decide +kernel
theorem dL_setMode_6 : decode cL_setMode 6 = .ok (.iload_n 3, 1) := by decide +kernel
theorem dL_setMode_7 : decode cL_setMode 7 = .ok (.invokevirtual 23, 3) := by decide +kernel
theorem dL_setMode_10 : decode cL_setMode 10 = .ok (.i2l, 1) := by decide +kernel
theorem dL_setMode_11 : decode cL_setMode 11 = .ok (.lastore, 1) := by decide +kernel
theorem dL_setMode_12 : decode cL_setMode 12 = .ok (.goto 11, 3) := by decide +kernel
theorem dL_setMode_15 : decode cL_setMode 15 = .ok (.astore 5, 2) := by decide +kernel
theorem dL_setMode_17 : decode cL_setMode 17 = .ok (.iconst 1, 1) := by decide +kernel
theorem dL_setMode_18 : decode cL_setMode 18 = .ok (.ireturn, 1) := by decide +kernel
theorem dL_setMode_19 : decode cL_setMode 19 = .ok (.astore 5, 2) := by decide +kernel
theorem dL_setMode_21 : decode cL_setMode 21 = .ok (.iconst 2, 1) := by decide +kernel
theorem dL_setMode_22 : decode cL_setMode 22 = .ok (.ireturn, 1) := by decide +kernel
theorem dL_setMode_23 : decode cL_setMode 23 = .ok (.iconst 0, 1) := by decide +kernel
theorem dL_setMode_24 : decode cL_setMode 24 = .ok (.ireturn, 1) := by decide +kernel
set_option maxRecDepth 20000 in
theorem ggL_insert_X7_insert : GoodIn wsL_insert wsX7_insert := goodIn_ca (goodIn_ca (goodIn_ca (goodIn_r _ [8, 9, 10, 11, 12, 13, 14, 15, 16, 7, 17, 18, 19, 20, 21, 22, 23, 24, 25, 26, 27, 28, 29, 30, 31, 32, 33, 34, 35, 36, 37, 38, 39, 40, 41, 42, 43, 44, 45, 46, 47, 48, 49, 50, 51, 52, 53, 54, 55, 56, 57, 58, 59, 60, 61, 62, 63, 64, 65, 66, 67, 68, 69, 70, 71, 72, 73, 74, 75, 76, 77, 78, 79, 80, 81, 82, 83, 84, 85, 86, 87, 88, 89, 90, 91, 92, 93, 94, 95, 96, 97, 98, 99, 100, 101, 102, 103, 104, 105, 106, 107, 108, 109, 110, 111, 112, 113, 114, 115, 116, 117, 118, 119, 120, 121, 122, 123, 124] (by decide +kernel) (by decide +kernel)) (goodIn_sub (fun _ h => List.mem_cons_of_mem _ (List.mem_append_left _ (List.mem_append_left _ (List.mem_append_right _ h)))) (by decide +kernel))) (goodIn_sub (fun _ h => List.mem_cons_of_mem _ (List.mem_append_left _ (List.mem_append_right _ h))) (by decide +kernel))) (goodIn_sub (fun _ h => List.mem_cons_of_mem _ (List.mem_append_right _ h)) (by decide +kernel))
set_option maxRecDepth 20000 in
theorem gL_insert_X7_insert : GoodIn wsL_insert (wsV RL 27 RX7 yX7_insert wsX7_insert) := goodIn_app (goodIn_of _ (by decide +kernel)) ggL_insert_X7_insert
theorem dL_insert_0 : decode cL_insert 0 = .ok (.aload 5, 2) := by decide +kernel
theorem dL_insert_2 : decode cL_insert 2 = .ok (.iconst 0, 1) := by decide +kernel
theorem dL_insert_3 : decode cL_insert 3 = .ok (.aload_n 0, 1) := by decide +kernel
theorem dL_insert_4 : decode cL_insert 4 = .ok (.iload_n 1, 1) := by decide +kernel
theorem dL_insert_5 : decode cL_insert 5 = .ok (.iload_n 2, 1) := by decide +kernel
theorem dL_insert_6 : decode cL_insert 6 = .ok (.iload_n 3, 1) := by decide +kernel
theorem dL_insert_7 : decode cL_insert 7 = .ok (.iload 4, 2) := by decide +kernel
theorem dL_insert_9 : decode cL_insert 9 = .ok (.invokevirtual 27, 3) := by decide +kernel
theorem dL_insert_12 : decode cL_insert 12 = .ok (.i2l, 1) := by decide +kernel
theorem dL_insert_13 : decode cL_insert 13 = .ok (.lastore, 1) := by decide +kernel
theorem dL_insert_14 : decode cL_insert 14 = .ok (.goto 15, 3) := by decide +kernel
theorem dL_insert_17 : decode cL_insert 17 = .ok (.astore 6, 2) := by decide +kernel
theorem dL_insert_19 : decode cL_insert 19 = .ok (.iconst 1, 1) := by decide +kernel
theorem dL_insert_20 : decode cL_insert 20 = .ok (.ireturn, 1) := by decide +kernel
theorem dL_insert_21 : decode cL_insert 21 = .ok (.astore 6, 2) := by decide +kernel
theorem dL_insert_23 : decode cL_insert 23 = .ok (.iconst 2, 1) := by decide +kernel
theorem dL_insert_24 : decode cL_insert 24 = .ok (.ireturn, 1) := by decide +kernel
theorem dL_insert_25 : decode cL_insert 25 = .ok (.astore 6, 2) := by decide +kernel
theorem dL_insert_27 : decode cL_insert 27 = .ok (.iconst 3, 1) := by decide +kernel
theorem dL_insert_28 : decode cL_insert 28 = .ok (.ireturn, 1) := by decide +kernel
theorem dL_insert_29 : decode cL_insert 29 = .ok (.iconst 0, 1) := by decide +kernel
theorem dL_insert_30 : decode cL_insert 30 = .ok (.ireturn, 1) := by decide +kernel
set_option maxRecDepth 20000 in
theorem ggL_update_X7_update : GoodIn wsL_update wsX7_update := goodIn_ca (goodIn_ca (goodIn_ca (goodIn_r _ [8, 9, 10, 11, 12, 13, 14, 15, 16, 7, 17, 18, 19, 20, 21, 22, 23, 24, 25, 26, 27, 28, 29, 30, 31, 32, 33, 34, 35, 36, 37, 38, 39, 40, 41, 42, 43, 44, 45, 46, 47, 48, 49, 50, 51, 52, 53, 54, 55, 56, 57, 58, 59, 60, 61, 62, 63, 64, 65, 66, 67, 68, 69, 70, 71, 72, 73, 74, 75, 76, 77, 78, 79, 80, 81, 82, 83, 84, 85, 86, 87, 88, 89, 90, 91, 92, 93, 94, 95, 96, 97, 98, 99, 100, 101, 102, 103, 104, 105, 106, 107, 108, 109, 110, 111, 112, 113, 114, 115, 116, 117, 118, 119, 120, 121, 122, 123, 124, 125, 126, 127, 128, 129, 130, 131, 132] (by decide +kernel) (by decide +kernel)) (goodIn_sub (fun _ h => List.mem_cons_of_mem _ (List.mem_append_left _ (List.mem_append_left _ (List.mem_append_right _ h)))) (by decide +kernel))) (goodIn_sub (fun _ h => List.mem_cons_of_mem _ (List.mem_append_left _ (List.mem_append_right _ h))) (by decide +kernel))) (goodIn_sub (fun _ h => List.mem_cons_of_mem _ (List.mem_append_right _ h)) (by decide +kernel))
set_option maxRecDepth 20000 in
theorem gL_update_X7_update : GoodIn wsL_update (wsV RL 31 RX7 yX7_update wsX7_update) := goodIn_app (goodIn_of _ (by decide +kernel)) ggL_update_X7_update
theorem dL_update_0 : decode cL_update 0 = .ok (.aload 5, 2) := by decide +kernel
theorem dL_update_2 : decode cL_update 2 = .ok (.iconst 0, 1) := by decide +kernel
theorem dL_update_3 : decode cL_update 3 = .ok (.aload_n 0, 1) := by decide +kernel
theorem dL_update_4 : decode cL_update 4 = .ok (.iload_n 1, 1) := by decide +kernel
theorem dL_update_5 : decode cL_update 5 = .ok (.iload_n 2, 1) := by decide +kernel
theorem dL_update_6 : decode cL_update 6 = .ok (.iload_n 3, 1) := by decide +kernel
theorem dL_update_7 : decode cL_update 7 = .ok (.iload 4, 2) := by decide +kernel
theorem dL_update_9 : decode cL_update 9 = .ok (.invokevirtual 31, 3) := by decide +kernel
theorem dL_update_12 : decode cL_update 12 = .ok (.i2l, 1) := by decide +kernel
theorem dL_update_13 : decode cL_update 13 = .ok (.lastore, 1) := by decide +kernel
theorem dL_update_14 : decode cL_update 14 = .ok (.goto 15, 3) := by decide +kernel
theorem dL_update_17 : decode cL_update 17 = .ok (.astore 6, 2) := by decide +kernel
theorem dL_update_19 : decode cL_update 19 = .ok (.iconst 1, 1) := by decide +kernel
theorem dL_update_20 : decode cL_update 20 = .ok (.ireturn, 1) := by decide +kernel
theorem dL_update_21 : decode cL_update 21 = .ok (.astore 6, 2) := by decide +kernel
theorem dL_update_23 : decode cL_update 23 = .ok (.iconst 2, 1) := by decide +kernel
theorem dL_update_24 : decode cL_update 24 = .ok (.ireturn, 1) := by decide +kernel
theorem dL_update_25 : decode cL_update 25 = .ok (.astore 6, 2) := by decide +kernel
theorem dL_update_27 : decode cL_update 27 = .ok (.iconst 3, 1) := by decide +kernel
theorem dL_update_28 : decode cL_update 28 = .ok (.ireturn, 1) := by decide +kernel
theorem dL_update_29 : decode cL_update 29 = .ok (.iconst 0, 1) := by decide +kernel
theorem dL_update_30 : decode cL_update 30 = .ok (.ireturn, 1) := by decide +kernel
set_option maxRecDepth 20000 in
theorem ggL_delete_X7_delete : GoodIn wsL_delete wsX7_delete := goodIn_ca (goodIn_ca (goodIn_r _ [7, 8, 9, 10, 11, 12, 13, 6, 14, 15, 16, 17, 18, 19, 20, 21, 22, 23, 24, 25, 26, 27, 28, 29, 30, 31, 32, 33, 34, 35, 36, 37, 38, 39, 40, 41, 42, 43, 44, 45, 46, 47, 48, 49, 50, 51, 52, 53, 54, 55, 56, 57, 58, 59, 60, 61, 62, 63, 64, 65, 66, 67, 68, 69, 70, 71, 72, 73, 74, 75, 76, 77, 78, 79, 80, 81, 82, 83, 84, 85, 86, 87, 88, 89, 90, 91, 92, 93, 94, 95, 96, 97, 98, 99, 100, 101, 102, 103, 104, 105, 106, 107, 108, 109, 110, 111, 112, 113, 114, 115, 116, 117, 118, 119, 120, 121, 122, 123, 124, 125, 126, 127, 128, 129, 130, 131, 132, 133, 134, 135, 136, 137, 138, 139, 140, 141, 142, 143, 144, 145, 146, 147, 148, 149, 150, 151, 152, 153, 154, 155, 156, 157, 158, 159, 160, 161, 162, 163, 164, 165, 166, 167, 168, 169, 170, 171, 172, 173, 174, 175] (by decide +kernel) (by decide +kernel)) (goodIn_sub (fun _ h => List.mem_cons_of_mem _ (List.mem_append_left _ (List.mem_append_right _ h))) (by decide +kernel))) (goodIn_sub (fun _ h => List.mem_cons_of_mem _ (List.mem_append_right _ h)) (by decide +kernel))
set_option maxRecDepth 20000 in
theorem gL_delete_X7_delete : GoodIn wsL_delete (wsV RL 34 RX7 yX7_delete wsX7_delete) := goodIn_app (goodIn_of _ (by decide +kernel)) ggL_delete_X7_delete
theorem dL_delete_0 : decode cL_delete 0 = .ok (.aload_n 3, 1) := by decide +kernel
theorem dL_delete_1 : decode cL_delete 1 = .ok (.iconst 0, 1) := by decide +kernel
theorem dL_delete_2 : decode cL_delete 2 = .ok (.aload_n 0, 1) := by decide +kernel
theorem dL_delete_3 : decode cL_delete 3 = .ok (.iload_n 1, 1) := by decide +kernel
theorem dL_delete_4 : decode cL_delete 4 = .ok (.iload_n 2, 1) := by decide +kernel
theorem dL_delete_5 : decode cL_delete 5 = .ok (.invokevirtual 34, 3) := by decide +kernel
theorem dL_delete_8 : decode cL_delete 8 = .ok (.i2l, 1) := by decide +kernel
theorem dL_delete_9 : decode cL_delete 9 = .ok (.lastore, 1) := by decide +kernel
theorem dL_delete_10 : decode cL_delete 10 = .ok (.goto 11, 3) := by decide +kernel
theorem dL_delete_13 : decode cL_delete 13 = .ok (.astore 4, 2) := by decide +kernel
theorem dL_delete_15 : decode cL_delete 15 = .ok (.iconst 1, 1) := by decide +kernel
theorem dL_delete_16 : decode cL_delete 16 = .ok (.ireturn, 1) := by decide +kernel
theorem dL_delete_17 : decode cL_delete 17 = .ok (.astore 4, 2) := by decide +kernel
theorem dL_delete_19 : decode cL_delete 19 = .ok (.iconst 2, 1) := by decide +kernel
theorem dL_delete_20 : decode cL_delete 20 = .ok (.ireturn, 1) := by decide +kernel
theorem dL_delete_21 : decode cL_delete 21 = .ok (.iconst 0, 1) := by decide +kernel
theorem dL_delete_22 : decode cL_delete 22 = .ok (.ireturn, 1) := by decide +kernel
set_option maxRecDepth 20000 in
theorem ggL_savePoint_X7_savePoint : GoodIn wsL_savePoint wsX7_savePoint := goodIn_ca (goodIn_r _ [6, 7, 8, 9, 10, 11, 5, 12, 13, 14, 15, 16, 17, 18, 19, 20, 21, 22, 23, 24, 25, 26, 27, 28, 29, 30, 31, 32, 33, 34, 35, 36, 37, 38, 39, 40, 41, 42] (by decide +kernel) (by decide +kernel)) (goodIn_sub (fun _ h => List.mem_cons_of_mem _ (List.mem_append_right _ h)) (by decide +kernel))
set_option maxRecDepth 20000 in
theorem gL_savePoint_X7_savePoint : GoodIn wsL_savePoint (wsV RL 37 RX7 yX7_savePoint wsX7_savePoint) := goodIn_app (goodIn_of _ (by decide +kernel)) ggL_savePoint_X7_savePoint
theorem dL_savePoint_0 : decode cL_savePoint 0 = .ok (.aload_n 1, 1) := by decide +kernel
theorem dL_savePoint_1 : decode cL_savePoint 1 = .ok (.iconst 0, 1) := by decide +kernel
theorem dL_savePoint_2 : decode cL_savePoint 2 = .ok (.aload_n 0, 1) := by decide +kernel
theorem dL_savePoint_3 : decode cL_savePoint 3 = .ok (.invokevirtual 37, 3) := by decide +kernel
theorem dL_savePoint_6 : decode cL_savePoint 6 = .ok (.i2l, 1) := by decide +kernel
theorem dL_savePoint_7 : decode cL_savePoint 7 = .ok (.lastore, 1) := by decide +kernel
theorem dL_savePoint_8 : decode cL_savePoint 8 = .ok (.goto 6, 3) := by decide +kernel
theorem dL_savePoint_11 : decode cL_savePoint 11 = .ok (.astore_n 2, 1) := by decide +kernel
theorem dL_savePoint_12 : decode cL_savePoint 12 = .ok (.iconst 1, 1) := by decide +kernel
theorem dL_savePoint_13 : decode cL_savePoint 13 = .ok (.ireturn, 1) := by decide +kernel
theorem dL_savePoint_14 : decode cL_savePoint 14 = .ok (.iconst 0, 1) := by decide +kernel
theorem dL_savePoint_15 : decode cL_savePoint 15 = .ok (.ireturn, 1) := by decide +kernel
set_option maxRecDepth 20000 in
theorem ggL_rollBackTo_X7_rollBackTo : GoodIn wsL_rollBackTo wsX7_rollBackTo := goodIn_ca (goodIn_r _ [6, 7, 8, 9, 10, 11, 5, 12, 13, 14, 15, 16, 17, 18, 19, 20, 21, 22, 23, 24, 25, 26, 27, 28, 29, 30, 31, 32, 33, 34, 35, 36, 37, 38, 39, 40, 41, 42, 43, 44, 45, 46, 47, 48, 49, 50, 51, 52] (by decide +kernel) (by decide +kernel)) (goodIn_sub (fun _ h => List.mem_cons_of_mem _ (List.mem_append_right _ h)) (by decide +kernel))
set_option maxRecDepth 20000 in
theorem gL_rollBackTo_X7_rollBackTo : GoodIn wsL_rollBackTo (wsV RL 41 RX7 yX7_rollBackTo wsX7_rollBackTo) := goodIn_app (goodIn_of _ (by decide +kernel)) ggL_rollBackTo_X7_rollBackTo
theorem dL_rollBackTo_0 : decode cL_rollBackTo 0 = .ok (.aload_n 2, 1) := by decide +kernel
theorem dL_rollBackTo_1 : decode cL_rollBackTo 1 = .ok (.iconst 0, 1) := by decide +kernel
theorem dL_rollBackTo_2 : decode cL_rollBackTo 2 = .ok (.aload_n 0, 1) := by decide +kernel
theorem dL_rollBackTo_3 : decode cL_rollBackTo 3 = .ok (.iload_n 1, 1) := by decide +kernel
theorem dL_rollBackTo_4 : decode cL_rollBackTo 4 = .ok (.invokevirtual 41, 3) := by decide +kernel
theorem dL_rollBackTo_7 : decode cL_rollBackTo 7 = .ok (.i2l, 1) := by decide +kernel
theorem dL_rollBackTo_8 : decode cL_rollBackTo 8 = .ok (.lastore, 1) := by decide +kernel
theorem dL_rollBackTo_9 : decode cL_rollBackTo 9 = .ok (.goto 6, 3) := by decide +kernel
theorem dL_rollBackTo_12 : decode cL_rollBackTo 12 = .ok (.astore_n 3, 1) := by decide +kernel
theorem dL_rollBackTo_13 : decode cL_rollBackTo 13 = .ok (.iconst 1, 1) := by decide +kernel
theorem dL_rollBackTo_14 : decode cL_rollBackTo 14 = .ok (.ireturn, 1) := by decide +kernel
theorem dL_rollBackTo_15 : decode cL_rollBackTo 15 = .ok (.iconst 0, 1) := by decide +kernel
theorem dL_rollBackTo_16 : decode cL_rollBackTo 16 = .ok (.ireturn, 1) := by decide +kernel
set_option maxRecDepth 20000 in
theorem ggL_appendText_X7_appendText : GoodIn wsL_appendText wsX7_appendText := goodIn_ca (goodIn_ca (goodIn_r _ [7, 8, 9, 10, 11, 12, 13, 14, 15, 16, 17, 18, 19, 20, 21, 22, 23, 24, 25, 26, 27, 28, 29, 30, 31, 32, 33, 34, 35] (by decide +kernel) (by decide +kernel)) (goodIn_sub (fun _ h => List.mem_cons_of_mem _ (List.mem_append_left _ (List.mem_append_right _ h))) (by decide +kernel))) (goodIn_sub (fun _ h => List.mem_cons_of_mem _ (List.mem_append_right _ h)) (by decide +kernel))
set_option maxRecDepth 20000 in
theorem gL_appendText_X7_appendText : GoodIn wsL_appendText (wsV RL 45 RX7 yX7_appendText wsX7_appendText) := goodIn_app (goodIn_of _ (by decide +kernel)) ggL_appendText_X7_appendText
theorem dL_appendText_0 : decode cL_appendText 0 = .ok (.aload_n 2, 1) := by decide +kernel
theorem dL_appendText_1 : decode cL_appendText 1 = .ok (.iconst 0, 1) := by decide +kernel
theorem dL_appendText_2 : decode cL_appendText 2 = .ok (.aload_n 0, 1) := by decide +kernel
theorem dL_appendText_3 : decode cL_appendText 3 = .ok (.iload_n 1, 1) := by decide +kernel
theorem dL_appendText_4 : decode cL_appendText 4 = .ok (.invokevirtual 45, 3) := by decide +kernel
theorem dL_appendText_7 : decode cL_appendText 7 = .ok (.i2l, 1) := by decide +kernel
theorem dL_appendText_8 : decode cL_appendText 8 = .ok (.lastore, 1) := by decide +kernel
theorem dL_appendText_9 : decode cL_appendText 9 = .ok (.goto 9, 3) := by decide +kernel
theorem dL_appendText_12 : decode cL_appendText 12 = .ok (.astore_n 3, 1) := by decide +kernel
theorem dL_appendText_13 : decode cL_appendText 13 = .ok (.iconst 1, 1) := by decide +kernel
theorem dL_appendText_14 : decode cL_appendText 14 = .ok (.ireturn, 1) := by decide +kernel
theorem dL_appendText_15 : decode cL_appendText 15 = .ok (.astore_n 3, 1) := by decide +kernel
theorem dL_appendText_16 : decode cL_appendText 16 = .ok (.iconst 2, 1) := by decide +kernel
theorem dL_appendText_17 : decode cL_appendText 17 = .ok (.ireturn, 1) := by decide +kernel
theorem dL_appendText_18 : decode cL_appendText 18 = .ok (.iconst 0, 1) := by decide +kernel
theorem dL_appendText_19 : decode cL_appendText 19 = .ok (.ireturn, 1) := by decide +kernel
set_option maxRecDepth 20000 in
theorem ggL_runText_X7_runText : GoodIn wsL_runText wsX7_runText := goodIn_ca (goodIn_r _ [6, 7, 8, 9, 10, 11, 12, 13, 14, 15, 16, 17, 18, 19, 20, 21, 22, 23, 24, 25, 26, 27, 28, 29, 30, 31, 32, 33, 34, 35, 36, 37, 38, 39, 40, 41, 42, 43, 44, 45, 46, 47, 48, 49, 50, 51, 52, 53, 54, 55, 56, 57, 58, 59, 60, 61, 62, 63, 64, 65, 66, 67, 68, 69, 70, 71, 72, 73, 74, 75, 76, 77, 78, 79, 80, 81, 82, 83, 84, 85, 86, 87, 88, 89, 90, 91, 92, 93, 94, 95, 96, 97, 98, 99, 100, 101, 102, 103, 104, 105, 106, 107, 108, 109, 110, 111, 112, 113, 114, 115, 116, 117, 118, 119, 120, 121, 122, 123, 124, 125, 126, 127, 128, 129, 130, 131, 132, 133, 134, 135, 136, 137, 138, 139, 140, 141, 142, 143, 144, 145, 146, 147, 148, 149, 150, 151, 152, 153, 154, 155, 156, 157, 158, 159, 160, 161, 162, 163, 164, 165, 166, 167, 168, 169, 170, 5, 171, 172, 173, 174, 175, 176, 177, 178, 179, 180, 181, 182, 183, 184, 185, 186, 187, 188, 189, 190, 191, 192, 193, 194, 195, 196, 197, 198, 199, 200, 201, 202, 203, 204, 205, 206, 207, 208, 209, 210, 211, 212, 213, 214, 215, 216, 217, 218, 219, 220, 221, 222, 223, 224, 225, 226, 227, 228, 229, 230, 231, 232, 233, 234, 235, 236, 237, 238, 239, 240, 241, 242, 243, 244, 245, 246, 247, 248, 249, 250, 251, 252, 253, 254, 255, 256, 257, 258, 259, 260, 261, 262, 263, 264, 265, 266, 267, 268, 269, 270, 271, 272, 273, 274, 275, 276, 277, 278, 279, 280, 281, 282, 283, 284, 285, 286, 287, 288, 289, 290, 291, 292, 293, 294, 295, 296, 297, 298, 299, 300, 301, 302, 303, 304, 305, 306, 307, 308, 309, 310, 311, 312, 313, 314, 315, 316, 317, 318, 319, 320, 321, 322, 323, 324, 325, 326, 327, 328, 329, 330, 331, 332, 333, 334, 335, 336, 337, 338, 339, 340, 341, 342, 343, 344, 345, 346, 347, 348, 349, 350, 351, 352, 353, 354, 355, 356, 357, 358, 359, 360, 361, 362, 363, 364, 365, 366, 367, 368, 369, 370, 371, 372, 373, 374, 375, 376, 377, 378, 379, 380, 381, 382, 383, 384, 385, 386, 387, 388, 389, 390, 391, 392, 393, 394, 395, 396, 397] (by decide +kernel) (by decide +kernel)) (goodIn_sub (fun _ h => List.mem_cons_of_mem _ (List.mem_append_right _ h)) (by decide +kernel))
set_option maxRecDepth 20000 in
theorem gL_runText_X7_runText : GoodIn wsL_runText (wsV RL 48 RX7 yX7_runText wsX7_runText) := goodIn_app (goodIn_of _ (by decide +kernel)) ggL_runText_X7_runText
theorem dL_runText_0 : decode cL_runText 0 = .ok (.aload_n 1, 1) := by decide +kernel
theorem dL_runText_1 : decode cL_runText 1 = .ok (.iconst 0, 1) := by decide +kernel
theorem dL_runText_2 : decode cL_runText 2 = .ok (.aload_n 0, 1) := by decide +kernel
theorem dL_runText_3 : decode cL_runText 3 = .ok (.invokevirtual 48, 3) := by decide +kernel
theorem dL_runText_6 : decode cL_runText 6 = .ok (.i2l, 1) := by decide +kernel
theorem dL_runText_7 : decode cL_runText 7 = .ok (.lastore, 1) := by decide +kernel
theorem dL_runText_8 : decode cL_runText 8 = .ok (.goto 6, 3) := by decide +kernel
theorem dL_runText_11 : decode cL_runText 11 = .ok (.astore_n 2, 1) := by decide +kernel
theorem dL_runText_12 : decode cL_runText 12 = .ok (.iconst 1, 1) := by decide +kernel
theorem dL_runText_13 : decode cL_runText 13 = .ok (.ireturn, 1) := by decide +kernel
theorem dL_runText_14 : decode cL_runText 14 = .ok (.iconst 0, 1) := by decide +kernel
theorem dL_runText_15 : decode cL_runText 15 = .ok (.ireturn, 1) := by decide +kernel
set_option maxRecDepth 20000 in
theorem ggL_exists_X7_exists : GoodIn wsL_exists wsX7_exists := goodIn_ca (goodIn_r _ [6, 7, 8, 9, 10, 11, 5, 12, 13, 14, 15, 16, 17, 18, 19, 20, 21, 22, 23, 24, 25, 26, 27, 28, 29, 30, 31, 32, 33] (by decide +kernel) (by decide +kernel)) (goodIn_sub (fun _ h => List.mem_cons_of_mem _ (List.mem_append_right _ h)) (by decide +kernel))
set_option maxRecDepth 20000 in
theorem gL_exists_X7_exists : GoodIn wsL_exists (wsV RL 51 RX7 yX7_exists wsX7_exists) := goodIn_app (goodIn_of _ (by decide +kernel)) ggL_exists_X7_exists
theorem dL_exists_0 : decode cL_exists 0 = .ok (.aload_n 3, 1) := by decide +kernel
theorem dL_exists_1 : decode cL_exists 1 = .ok (.iconst 0, 1) := by decide +kernel
theorem dL_exists_2 : decode cL_exists 2 = .ok (.aload_n 0, 1) := by decide +kernel
theorem dL_exists_3 : decode cL_exists 3 = .ok (.iload_n 1, 1) := by decide +kernel
theorem dL_exists_4 : decode cL_exists 4 = .ok (.iload_n 2, 1) := by decide +kernel
theorem dL_exists_5 : decode cL_exists 5 = .ok (.invokevirtual 51, 3) := by decide +kernel
theorem dL_exists_8 : decode cL_exists 8 = .ok (.ifCond .eq 7, 3) := by decide +kernel
theorem dL_exists_11 : decode cL_exists 11 = .ok (.lconst 1, 1) := by decide +kernel
theorem dL_exists_12 : decode cL_exists 12 = .ok (.goto 4, 3) := by decide +kernel
theorem dL_exists_15 : decode cL_exists 15 = .ok (.lconst 0, 1) := by decide +kernel
theorem dL_exists_16 : decode cL_exists 16 = .ok (.lastore, 1) := by decide +kernel
theorem dL_exists_17 : decode cL_exists 17 = .ok (.goto 7, 3) := by decide +kernel
theorem dL_exists_20 : decode cL_exists 20 = .ok (.astore 4, 2) := by decide +kernel
theorem dL_exists_22 : decode cL_exists 22 = .ok (.iconst 1, 1) := by decide +kernel
theorem dL_exists_23 : decode cL_exists 23 = .ok (.ireturn, 1) := by decide +kernel
theorem dL_exists_24 : decode cL_exists 24 = .ok (.iconst 0, 1) := by decide +kernel
theorem dL_exists_25 : decode cL_exists 25 = .ok (.ireturn, 1) := by decide +kernel
set_option maxRecDepth 20000 in
theorem ggL_value_X7_value : GoodIn wsL_value wsX7_value := goodIn_ca (goodIn_r _ [6, 7, 8, 9, 10, 11, 5, 12, 13, 14, 15, 16, 17, 18, 19, 20, 21, 22, 23, 24, 25, 26, 27, 28, 29, 30, 31, 32, 33, 34, 35, 36] (by decide +kernel) (by decide +kernel)) (goodIn_sub (fun _ h => List.mem_cons_of_mem _ (List.mem_append_right _ h)) (by decide +kernel))
set_option maxRecDepth 20000 in
theorem gL_value_X7_value : GoodIn wsL_value (wsV RL 55 RX7 yX7_value wsX7_value) := goodIn_app (goodIn_of _ (by decide +kernel)) ggL_value_X7_value
theorem dL_value_0 : decode cL_value 0 = .ok (.aload 4, 2) := by decide +kernel
theorem dL_value_2 : decode cL_value 2 = .ok (.iconst 0, 1) := by decide +kernel
theorem dL_value_3 : decode cL_value 3 = .ok (.aload_n 0, 1) := by decide +kernel
theorem dL_value_4 : decode cL_value 4 = .ok (.iload_n 1, 1) := by decide +kernel
theorem dL_value_5 : decode cL_value 5 = .ok (.iload_n 2, 1) := by decide +kernel
theorem dL_value_6 : decode cL_value 6 = .ok (.iload_n 3, 1) := by decide +kernel
theorem dL_value_7 : decode cL_value 7 = .ok (.invokevirtual 55, 3) := by decide +kernel
theorem dL_value_10 : decode cL_value 10 = .ok (.i2l, 1) := by decide +kernel
theorem dL_value_11 : decode cL_value 11 = .ok (.lastore, 1) := by decide +kernel
theorem dL_value_12 : decode cL_value 12 = .ok (.goto 7, 3) := by decide +kernel
theorem dL_value_15 : decode cL_value 15 = .ok (.astore 5, 2) := by decide +kernel
theorem dL_value_17 : decode cL_value 17 = .ok (.iconst 1, 1) := by decide +kernel
theorem dL_value_18 : decode cL_value 18 = .ok (.ireturn, 1) := by decide +kernel
theorem dL_value_19 : decode cL_value 19 = .ok (.iconst 0, 1) := by decide +kernel
theorem dL_value_20 : decode cL_value 20 = .ok (.ireturn, 1) := by decide +kernel
set_option maxRecDepth 20000 in
theorem ggL_rows_X7_rows : GoodIn wsL_rows wsX7_rows := goodIn_ca (goodIn_r _ [6, 7, 8, 9, 10, 11, 5, 12, 13, 14, 15, 16, 17, 18, 19, 20, 21, 22, 23, 24, 25, 26, 27, 28, 29, 30, 31, 32, 33] (by decide +kernel) (by decide +kernel)) (goodIn_sub (fun _ h => List.mem_cons_of_mem _ (List.mem_append_right _ h)) (by decide +kernel))
set_option maxRecDepth 20000 in
theorem gL_rows_X7_rows : GoodIn wsL_rows (wsV RL 59 RX7 yX7_rows wsX7_rows) := goodIn_app (goodIn_of _ (by decide +kernel)) ggL_rows_X7_rows
theorem dL_rows_0 : decode cL_rows 0 = .ok (.aload_n 2, 1) := by decide +kernel
theorem dL_rows_1 : decode cL_rows 1 = .ok (.iconst 0, 1) := by decide +kernel
theorem dL_rows_2 : decode cL_rows 2 = .ok (.aload_n 0, 1) := by decide +kernel
theorem dL_rows_3 : decode cL_rows 3 = .ok (.iload_n 1, 1) := by decide +kernel
theorem dL_rows_4 : decode cL_rows 4 = .ok (.invokevirtual 59, 3) := by decide +kernel
theorem dL_rows_7 : decode cL_rows 7 = .ok (.i2l, 1) := by decide +kernel
theorem dL_rows_8 : decode cL_rows 8 = .ok (.lastore, 1) := by decide +kernel
theorem dL_rows_9 : decode cL_rows 9 = .ok (.goto 6, 3) := by decide +kernel
theorem dL_rows_12 : decode cL_rows 12 = .ok (.astore_n 3, 1) := by decide +kernel
theorem dL_rows_13 : decode cL_rows 13 = .ok (.iconst 1, 1) := by decide +kernel
theorem dL_rows_14 : decode cL_rows 14 = .ok (.ireturn, 1) := by decide +kernel
theorem dL_rows_15 : decode cL_rows 15 = .ok (.iconst 0, 1) := by decide +kernel
theorem dL_rows_16 : decode cL_rows 16 = .ok (.ireturn, 1) := by decide +kernel
set_option maxRecDepth 20000 in
theorem ggL_references_X7_references : GoodIn wsL_references wsX7_references := goodIn_ca (goodIn_r _ [6, 7, 8, 9, 10, 11, 5, 12, 13, 14, 15, 16, 17, 18, 19, 20, 21, 22, 23, 24, 25, 26, 27, 28, 29, 30, 31, 32, 33, 34, 35, 36, 37, 38, 39, 40, 41, 42, 43, 44, 45, 46, 47, 48, 49, 50, 51, 52, 53, 54, 55, 56, 57, 58, 59, 60, 61] (by decide +kernel) (by decide +kernel)) (goodIn_sub (fun _ h => List.mem_cons_of_mem _ (List.mem_append_right _ h)) (by decide +kernel))
set_option maxRecDepth 20000 in
theorem gL_references_X7_references : GoodIn wsL_references (wsV RL 62 RX7 yX7_references wsX7_references) := goodIn_app (goodIn_of _ (by decide +kernel)) ggL_references_X7_references
theorem dL_references_0 : decode cL_references 0 = .ok (.aload_n 3, 1) := by decide +kernel
theorem dL_references_1 : decode cL_references 1 = .ok (.iconst 0, 1) := by decide +kernel
theorem dL_references_2 : decode cL_references 2 = .ok (.aload_n 0, 1) := by decide +kernel
theorem dL_references_3 : decode cL_references 3 = .ok (.iload_n 1, 1) := by decide +kernel
theorem dL_references_4 : decode cL_references 4 = .ok (.iload_n 2, 1) := by decide +kernel
theorem dL_references_5 : decode cL_references 5 = .ok (.invokevirtual 62, 3) := by decide +kernel
theorem dL_references_8 : decode cL_references 8 = .ok (.i2l, 1) := by decide +kernel
theorem dL_references_9 : decode cL_references 9 = .ok (.lastore, 1) := by decide +kernel
theorem dL_references_10 : decode cL_references 10 = .ok (.goto 7, 3) := by decide +kernel
theorem dL_references_13 : decode cL_references 13 = .ok (.astore 4, 2) := by decide +kernel
theorem dL_references_15 : decode cL_references 15 = .ok (.iconst 1, 1) := by decide +kernel
theorem dL_references_16 : decode cL_references 16 = .ok (.ireturn, 1) := by decide +kernel
theorem dL_references_17 : decode cL_references 17 = .ok (.iconst 0, 1) := by decide +kernel
theorem dL_references_18 : decode cL_references 18 = .ok (.ireturn, 1) := by decide +kernel
set_option maxRecDepth 20000 in
theorem ggL_ancestors_X7_ancestors : GoodIn wsL_ancestors wsX7_ancestors := goodIn_ca (goodIn_r _ [6, 7, 8, 9, 10, 11, 12, 5, 13, 14, 15, 16, 17, 18, 19, 20, 21, 22, 23, 24, 25, 26, 27, 28, 29, 30, 31, 32, 33, 34, 35, 36, 37, 38, 39, 40, 41, 42, 43, 44, 45, 46, 47, 48, 49, 50, 51, 52, 53, 54, 55, 56, 57, 58, 59, 60, 61, 62, 63, 64, 65, 66, 67, 68, 69, 70, 71, 72, 73, 74, 75, 76, 77, 78, 79, 80, 81, 82, 83, 84, 85, 86, 87, 88, 89, 90, 91, 92, 93, 94, 95, 96, 97, 98] (by decide +kernel) (by decide +kernel)) (goodIn_sub (fun _ h => List.mem_cons_of_mem _ (List.mem_append_right _ h)) (by decide +kernel))
set_option maxRecDepth 20000 in
theorem gL_ancestors_X7_ancestors : GoodIn wsL_ancestors (wsV RL 65 RX7 yX7_ancestors wsX7_ancestors) := goodIn_app (goodIn_of _ (by decide +kernel)) ggL_ancestors_X7_ancestors
theorem dL_ancestors_0 : decode cL_ancestors 0 = .ok (.aload_n 3, 1) := by decide +kernel
theorem dL_ancestors_1 : decode cL_ancestors 1 = .ok (.iconst 0, 1) := by decide +kernel
theorem dL_ancestors_2 : decode cL_ancestors 2 = .ok (.aload_n 0, 1) := by decide +kernel
theorem dL_ancestors_3 : decode cL_ancestors 3 = .ok (.iload_n 1, 1) := by decide +kernel
theorem dL_ancestors_4 : decode cL_ancestors 4 = .ok (.iload_n 2, 1) := by decide +kernel
theorem dL_ancestors_5 : decode cL_ancestors 5 = .ok (.invokevirtual 65, 3) := by decide +kernel
theorem dL_ancestors_8 : decode cL_ancestors 8 = .ok (.i2l, 1) := by decide +kernel
theorem dL_ancestors_9 : decode cL_ancestors 9 = .ok (.lastore, 1) := by decide +kernel
theorem dL_ancestors_10 : decode cL_ancestors 10 = .ok (.goto 7, 3) := by decide +kernel
theorem dL_ancestors_13 : decode cL_ancestors 13 = .ok (.astore 4, 2) := by decide +kernel
theorem dL_ancestors_15 : decode cL_ancestors 15 = .ok (.iconst 1, 1) := by decide +kernel
theorem dL_ancestors_16 : decode cL_ancestors 16 = .ok (.ireturn, 1) := by decide +kernel
theorem dL_ancestors_17 : decode cL_ancestors 17 = .ok (.iconst 0, 1) := by decide +kernel
theorem dL_ancestors_18 : decode cL_ancestors 18 = .ok (.ireturn, 1) := by decide +kernel
set_option maxRecDepth 20000 in
theorem ggL_constraint_X7_constraint : GoodIn wsL_constraint wsX7_constraint := goodIn_ca (goodIn_ca (goodIn_r _ [7, 8, 9, 10, 11, 12, 13, 14, 6, 15, 16, 17, 18, 19, 20, 21, 22, 23, 24, 25, 26, 27, 28, 29, 30, 31, 32, 33, 34, 35, 36, 37, 38, 39, 40, 41, 42, 43, 44, 45, 46, 47, 48, 49, 50, 51, 52, 53, 54, 55, 56, 57, 58, 59, 60, 61, 62, 63, 64, 65, 66, 67, 68, 69, 70, 71, 72, 73, 74, 75, 76, 77, 78, 79, 80] (by decide +kernel) (by decide +kernel)) (goodIn_sub (fun _ h => List.mem_cons_of_mem _ (List.mem_append_left _ (List.mem_append_right _ h))) (by decide +kernel))) (goodIn_sub (fun _ h => List.mem_cons_of_mem _ (List.mem_append_right _ h)) (by decide +kernel))
set_option maxRecDepth 20000 in
theorem gL_constraint_X7_constraint : GoodIn wsL_constraint (wsV RL 68 RX7 yX7_constraint wsX7_constraint) := goodIn_app (goodIn_of _ (by decide +kernel)) ggL_constraint_X7_constraint
theorem dL_constraint_0 : decode cL_constraint 0 = .ok (.aload 4, 2) := by decide +kernel
theorem dL_constraint_2 : decode cL_constraint 2 = .ok (.iconst 0, 1) := by decide +kernel
theorem dL_constraint_3 : decode cL_constraint 3 = .ok (.aload_n 0, 1) := by decide +kernel
theorem dL_constraint_4 : decode cL_constraint 4 = .ok (.iload_n 1, 1) := by decide +kernel
theorem dL_constraint_5 : decode cL_constraint 5 = .ok (.iload_n 2, 1) := by decide +kernel
theorem dL_constraint_6 : decode cL_constraint 6 = .ok (.iload_n 3, 1) := by decide +kernel
theorem dL_constraint_7 : decode cL_constraint 7 = .ok (.invokevirtual 68, 3) := by decide +kernel
theorem dL_constraint_10 : decode cL_constraint 10 = .ok (.i2l, 1) := by decide +kernel
theorem dL_constraint_11 : decode cL_constraint 11 = .ok (.lastore, 1) := by decide +kernel
theorem dL_constraint_12 : decode cL_constraint 12 = .ok (.goto 11, 3) := by decide +kernel
theorem dL_constraint_15 : decode cL_constraint 15 = .ok (.astore 5, 2) := by decide +kernel
theorem dL_constraint_17 : decode cL_constraint 17 = .ok (.iconst 1, 1) := by decide +kernel
theorem dL_constraint_18 : decode cL_constraint 18 = .ok (.ireturn, 1) := by decide +kernel
theorem dL_constraint_19 : decode cL_constraint 19 = .ok (.astore 5, 2) := by decide +kernel
theorem dL_constraint_21 : decode cL_constraint 21 = .ok (.iconst 2, 1) := by decide +kernel
theorem dL_constraint_22 : decode cL_constraint 22 = .ok (.ireturn, 1) := by decide +kernel
theorem dL_constraint_23 : decode cL_constraint 23 = .ok (.iconst 0, 1) := by decide +kernel
theorem dL_constraint_24 : decode cL_constraint 24 = .ok (.ireturn, 1) := by decide +kernel
set_option maxRecDepth 20000 in
theorem ggL_ifDeleted_X7_ifDeleted : GoodIn wsL_ifDeleted wsX7_ifDeleted := goodIn_ca (goodIn_r _ [6, 7, 8, 9, 10, 11, 5, 12, 13, 14, 15, 16, 17, 18, 19, 20, 21, 22, 23, 24, 25, 26, 27, 28, 29, 30, 31, 32, 33, 34, 35, 36, 37, 38, 39, 40, 41, 42, 43, 44, 45, 46, 47, 48, 49, 50, 51, 52, 53, 54, 55, 56, 57, 58, 59, 60, 61, 62, 63, 64, 65, 66, 67, 68, 69, 70, 71, 72, 73, 74, 75, 76, 77, 78, 79, 80, 81, 82, 83, 84, 85, 86, 87, 88, 89, 90, 91, 92, 93, 94, 95, 96, 97, 98, 99, 100, 101, 102, 103, 104, 105, 106, 107, 108, 109, 110, 111, 112, 113, 114, 115, 116, 117, 118, 119, 120, 121, 122, 123, 124, 125, 126, 127, 128, 129, 130, 131, 132, 133, 134, 135, 136, 137, 138, 139, 140, 141, 142, 143, 144, 145, 146, 147, 148, 149, 150, 151, 152, 153, 154, 155, 156, 157, 158, 159, 160, 161, 162, 163, 164, 165, 166, 167, 168, 169, 170, 171, 172, 173, 174, 175, 176] (by decide +kernel) (by decide +kernel)) (goodIn_sub (fun _ h => List.mem_cons_of_mem _ (List.mem_append_right _ h)) (by decide +kernel))
set_option maxRecDepth 20000 in
theorem gL_ifDeleted_X7_ifDeleted : GoodIn wsL_ifDeleted (wsV RL 71 RX7 yX7_ifDeleted wsX7_ifDeleted) := goodIn_app (goodIn_of _ (by decide +kernel)) ggL_ifDeleted_X7_ifDeleted
theorem dL_ifDeleted_0 : decode cL_ifDeleted 0 = .ok (.aload_n 3, 1) := by decide +kernel
theorem dL_ifDeleted_1 : decode cL_ifDeleted 1 = .ok (.iconst 0, 1) := by decide +kernel
theorem dL_ifDeleted_2 : decode cL_ifDeleted 2 = .ok (.aload_n 0, 1) := by decide +kernel
theorem dL_ifDeleted_3 : decode cL_ifDeleted 3 = .ok (.iload_n 1, 1) := by decide +kernel
theorem dL_ifDeleted_4 : decode cL_ifDeleted 4 = .ok (.iload_n 2, 1) := by decide +kernel
theorem dL_ifDeleted_5 : decode cL_ifDeleted 5 = .ok (.invokevirtual 71, 3) := by decide +kernel
theorem dL_ifDeleted_8 : decode cL_ifDeleted 8 = .ok (.i2l, 1) := by decide +kernel
theorem dL_ifDeleted_9 : decode cL_ifDeleted 9 = .ok (.lastore, 1) := by decide +kernel
theorem dL_ifDeleted_10 : decode cL_ifDeleted 10 = .ok (.goto 7, 3) := by decide +kernel
theorem dL_ifDeleted_13 : decode cL_ifDeleted 13 = .ok (.astore 4, 2) := by decide +kernel
theorem dL_ifDeleted_15 : decode cL_ifDeleted 15 = .ok (.iconst 1, 1) := by decide +kernel
theorem dL_ifDeleted_16 : decode cL_ifDeleted 16 = .ok (.ireturn, 1) := by decide +kernel
theorem dL_ifDeleted_17 : decode cL_ifDeleted 17 = .ok (.iconst 0, 1) := by decide +kernel
theorem dL_ifDeleted_18 : decode cL_ifDeleted 18 = .ok (.ireturn, 1) := by decide +kernel
