theorem dX8_init_0 : decode cX8_init 0 = .ok (.aload_n 0, 1) := by decide +kernel
theorem dX8_init_1 : decode cX8_init 1 = .ok (.invokespecial 1, 3) := by decide +kernel
theorem dX8_init_4 : decode cX8_init 4 = .ok (.aload_n 0, 1) := by decide +kernel
theorem dX8_init_5 : decode cX8_init 5 = .ok (.bipush 80, 2) := by decide +kernel
theorem dX8_init_7 : decode cX8_init 7 = .ok (.newarray .boolean, 2) := by decide +kernel
theorem dX8_init_9 : decode cX8_init 9 = .ok (.putfield 7, 3) := by decide +kernel
theorem dX8_init_12 : decode cX8_init 12 = .ok (.aload_n 0, 1) := by decide +kernel
theorem dX8_init_13 : decode cX8_init 13 = .ok (.sipush 160, 3) := by decide +kernel
theorem dX8_init_16 : decode cX8_init 16 = .ok (.newarray .int, 2) := by decide +kernel
theorem dX8_init_18 : decode cX8_init 18 = .ok (.putfield 13, 3) := by decide +kernel
theorem dX8_init_21 : decode cX8_init 21 = .ok (.aload_n 0, 1) := by decide +kernel
theorem dX8_init_22 : decode cX8_init 22 = .ok (.bipush 8, 2) := by decide +kernel
theorem dX8_init_24 : decode cX8_init 24 = .ok (.newarray .boolean, 2) := by decide +kernel
theorem dX8_init_26 : decode cX8_init 26 = .ok (.putfield 17, 3) := by decide +kernel
theorem dX8_init_29 : decode cX8_init 29 = .ok (.aload_n 0, 1) := by decide +kernel
theorem dX8_init_30 : decode cX8_init 30 = .ok (.bipush 8, 2) := by decide +kernel
theorem dX8_init_32 : decode cX8_init 32 = .ok (.newarray .int, 2) := by decide +kernel
theorem dX8_init_34 : decode cX8_init 34 = .ok (.putfield 20, 3) := by decide +kernel
theorem dX8_init_37 : decode cX8_init 37 = .ok (.aload_n 0, 1) := by decide +kernel
theorem dX8_init_38 : decode cX8_init 38 = .ok (.bipush 8, 2) := by decide +kernel
theorem dX8_init_40 : decode cX8_init 40 = .ok (.newarray .int, 2) := by decide +kernel
theorem dX8_init_42 : decode cX8_init 42 = .ok (.putfield 23, 3) := by decide +kernel
theorem dX8_init_45 : decode cX8_init 45 = .ok (.aload_n 0, 1) := by decide +kernel
theorem dX8_init_46 : decode cX8_init 46 = .ok (.bipush 8, 2) := by decide +kernel
theorem dX8_init_48 : decode cX8_init 48 = .ok (.newarray .boolean, 2) := by decide +kernel
theorem dX8_init_50 : decode cX8_init 50 = .ok (.putfield 26, 3) := by decide +kernel
theorem dX8_init_53 : decode cX8_init 53 = .ok (.aload_n 0, 1) := by decide +kernel
theorem dX8_init_54 : decode cX8_init 54 = .ok (.sipush 16384, 3) := by decide +kernel
theorem dX8_init_57 : decode cX8_init 57 = .ok (.newarray .int, 2) := by decide +kernel
theorem dX8_init_59 : decode cX8_init 59 = .ok (.putfield 29, 3) := by decide +kernel
theorem dX8_init_62 : decode cX8_init 62 = .ok (.aload_n 0, 1) := by decide +kernel
theorem dX8_init_63 : decode cX8_init 63 = .ok (.iconst 4, 1) := by decide +kernel
theorem dX8_init_64 : decode cX8_init 64 = .ok (.newarray .int, 2) := by decide +kernel
theorem dX8_init_66 : decode cX8_init 66 = .ok (.putfield 32, 3) := by decide +kernel
theorem dX8_init_69 : decode cX8_init 69 = .ok (.aload_n 0, 1) := by decide +kernel
theorem dX8_init_70 : decode cX8_init 70 = .ok (.bipush 80, 2) := by decide +kernel
theorem dX8_init_72 : decode cX8_init 72 = .ok (.newarray .char, 2) := by decide +kernel
theorem dX8_init_74 : decode cX8_init 74 = .ok (.putfield 35, 3) := by decide +kernel
theorem dX8_init_77 : decode cX8_init 77 = .ok (.aload_n 0, 1) := by decide +kernel
theorem dX8_init_78 : decode cX8_init 78 = .ok (.bipush 80, 2) := by decide +kernel
theorem dX8_init_80 : decode cX8_init 80 = .ok (.newarray .int, 2) := by decide +kernel
theorem dX8_init_82 : decode cX8_init 82 = .ok (.putfield 39, 3) := by decide +kernel
theorem dX8_init_85 : decode cX8_init 85 = .ok (.aload_n 0, 1) := by decide +kernel
theorem dX8_init_86 : decode cX8_init 86 = .ok (.bipush 80, 2) := by decide +kernel
theorem dX8_init_88 : decode cX8_init 88 = .ok (.newarray .boolean, 2) := by decide +kernel
theorem dX8_init_90 : decode cX8_init 90 = .ok (.putfield 42, 3) := by decide +kernel
theorem dX8_init_93 : decode cX8_init 93 = .ok (.return_, 1) := by decide +kernel
theorem dX8_thrown_0 : decode cX8_thrown 0 = .ok (.aload_n 0, 1) := by decide +kernel
theorem dX8_thrown_1 : decode cX8_thrown 1 = .ok (.getfield 45, 3) := by decide +kernel
theorem dX8_thrown_4 : decode cX8_thrown 4 = .ok (.ireturn, 1) := by decide +kernel
theorem dX8_in_0 : decode cX8_in 0 = .ok (.iload_n 0, 1) := by decide +kernel
theorem dX8_in_1 : decode cX8_in 1 = .ok (.iload_n 1, 1) := by decide +kernel
theorem dX8_in_2 : decode cX8_in 2 = .ok (.if_icmp .lt 12, 3) := by decide +kernel
theorem dX8_in_5 : decode cX8_in 5 = .ok (.iload_n 0, 1) := by decide +kernel
theorem dX8_in_6 : decode cX8_in 6 = .ok (.iload_n 2, 1) := by decide +kernel
theorem dX8_in_7 : decode cX8_in 7 = .ok (.if_icmp .gt 7, 3) := by decide +kernel
theorem dX8_in_10 : decode cX8_in 10 = .ok (.iconst 1, 1) := by decide +kernel
theorem dX8_in_11 : decode cX8_in 11 = .ok (.goto 4, 3) := by decide +kernel
theorem dX8_in_14 : decode cX8_in 14 = .ok (.iconst 0, 1) := by decide +kernel
theorem dX8_in_15 : decode cX8_in 15 = .ok (.ireturn, 1) := by decide +kernel
theorem dX8_goes_0 : decode cX8_goes 0 = .ok (.aload_n 0, 1) := by decide +kernel
theorem dX8_goes_1 : decode cX8_goes 1 = .ok (.iload_n 1, 1) := by decide +kernel
theorem dX8_goes_2 : decode cX8_goes 2 = .ok (.ifCond .ne 7, 3) := by decide +kernel
theorem dX8_goes_5 : decode cX8_goes 5 = .ok (.iconst 1, 1) := by decide +kernel
theorem dX8_goes_6 : decode cX8_goes 6 = .ok (.goto 20, 3) := by decide +kernel
theorem dX8_goes_9 : decode cX8_goes 9 = .ok (.iload_n 2, 1) := by decide +kernel
theorem dX8_goes_10 : decode cX8_goes 10 = .ok (.ifCond .ne 7, 3) := by decide +kernel
theorem dX8_goes_13 : decode cX8_goes 13 = .ok (.iconst 2, 1) := by decide +kernel
theorem dX8_goes_14 : decode cX8_goes 14 = .ok (.goto 12, 3) := by decide +kernel
theorem dX8_goes_17 : decode cX8_goes 17 = .ok (.iload_n 3, 1) := by decide +kernel
theorem dX8_goes_18 : decode cX8_goes 18 = .ok (.ifCond .ne 7, 3) := by decide +kernel
theorem dX8_goes_21 : decode cX8_goes 21 = .ok (.iconst 3, 1) := by decide +kernel
theorem dX8_goes_22 : decode cX8_goes 22 = .ok (.goto 4, 3) := by decide +kernel
theorem dX8_goes_25 : decode cX8_goes 25 = .ok (.iconst 0, 1) := by decide +kernel
theorem dX8_goes_26 : decode cX8_goes 26 = .ok (.putfield 45, 3) := by decide +kernel
theorem dX8_goes_29 : decode cX8_goes 29 = .ok (.aload_n 0, 1) := by decide +kernel
theorem dX8_goes_30 : decode cX8_goes 30 = .ok (.getfield 45, 3) := by decide +kernel
theorem dX8_goes_33 : decode cX8_goes 33 = .ok (.ifCond .ne 7, 3) := by decide +kernel
theorem dX8_goes_36 : decode cX8_goes 36 = .ok (.iconst 1, 1) := by decide +kernel
theorem dX8_goes_37 : decode cX8_goes 37 = .ok (.goto 4, 3) := by decide +kernel
theorem dX8_goes_40 : decode cX8_goes 40 = .ok (.iconst 0, 1) := by decide +kernel
theorem dX8_goes_41 : decode cX8_goes 41 = .ok (.ireturn, 1) := by decide +kernel
set_option maxRecDepth 20000 in
theorem ggX8_isTable_X8_in : GoodIn wsX8_isTable wsX8_in := goodIn_r _ [4] (by decide +kernel) (by decide +kernel)
set_option maxRecDepth 20000 in
theorem gX8_isTable_X8_in : GoodIn wsX8_isTable (va_wsS RX8 49 yX8_in wsX8_in) := goodIn_app (goodIn_of _ (by decide +kernel)) ggX8_isTable_X8_in
theorem dX8_isTable_0 : decode cX8_isTable 0 = .ok (.iload_n 0, 1) := by decide +kernel
theorem dX8_isTable_1 : decode cX8_isTable 1 = .ok (.iconst 0, 1) := by decide +kernel
theorem dX8_isTable_2 : decode cX8_isTable 2 = .ok (.iconst 3, 1) := by decide +kernel
theorem dX8_isTable_3 : decode cX8_isTable 3 = .ok (.invokestatic 49, 3) := by decide +kernel
theorem dX8_isTable_6 : decode cX8_isTable 6 = .ok (.ireturn, 1) := by decide +kernel
set_option maxRecDepth 20000 in
theorem ggX8_isKey_X8_in : GoodIn wsX8_isKey wsX8_in := goodIn_r _ [4] (by decide +kernel) (by decide +kernel)
set_option maxRecDepth 20000 in
theorem gX8_isKey_X8_in : GoodIn wsX8_isKey (va_wsS RX8 49 yX8_in wsX8_in) := goodIn_app (goodIn_of _ (by decide +kernel)) ggX8_isKey_X8_in
theorem dX8_isKey_0 : decode cX8_isKey 0 = .ok (.iload_n 0, 1) := by decide +kernel
theorem dX8_isKey_1 : decode cX8_isKey 1 = .ok (.iconst 0, 1) := by decide +kernel
theorem dX8_isKey_2 : decode cX8_isKey 2 = .ok (.bipush 19, 2) := by decide +kernel
theorem dX8_isKey_4 : decode cX8_isKey 4 = .ok (.invokestatic 49, 3) := by decide +kernel
theorem dX8_isKey_7 : decode cX8_isKey 7 = .ok (.ireturn, 1) := by decide +kernel
theorem dX8_isColumn_0 : decode cX8_isColumn 0 = .ok (.iload_n 0, 1) := by decide +kernel
theorem dX8_isColumn_1 : decode cX8_isColumn 1 = .ok (.ifCond .eq 8, 3) := by decide +kernel
theorem dX8_isColumn_4 : decode cX8_isColumn 4 = .ok (.iload_n 0, 1) := by decide +kernel
theorem dX8_isColumn_5 : decode cX8_isColumn 5 = .ok (.iconst 1, 1) := by decide +kernel
theorem dX8_isColumn_6 : decode cX8_isColumn 6 = .ok (.if_icmp .ne 7, 3) := by decide +kernel
theorem dX8_isColumn_9 : decode cX8_isColumn 9 = .ok (.iconst 1, 1) := by decide +kernel
theorem dX8_isColumn_10 : decode cX8_isColumn 10 = .ok (.goto 4, 3) := by decide +kernel
theorem dX8_isColumn_13 : decode cX8_isColumn 13 = .ok (.iconst 0, 1) := by decide +kernel
theorem dX8_isColumn_14 : decode cX8_isColumn 14 = .ok (.ireturn, 1) := by decide +kernel
set_option maxRecDepth 20000 in
theorem ggX8_isValue_X8_in : GoodIn wsX8_isValue wsX8_in := goodIn_r _ [4] (by decide +kernel) (by decide +kernel)
set_option maxRecDepth 20000 in
theorem gX8_isValue_X8_in : GoodIn wsX8_isValue (va_wsS RX8 49 yX8_in wsX8_in) := goodIn_app (goodIn_of _ (by decide +kernel)) ggX8_isValue_X8_in
theorem dX8_isValue_0 : decode cX8_isValue 0 = .ok (.iload_n 0, 1) := by decide +kernel
theorem dX8_isValue_1 : decode cX8_isValue 1 = .ok (.iconst (-1), 1) := by decide +kernel
theorem dX8_isValue_2 : decode cX8_isValue 2 = .ok (.bipush 19, 2) := by decide +kernel
theorem dX8_isValue_4 : decode cX8_isValue 4 = .ok (.invokestatic 49, 3) := by decide +kernel
theorem dX8_isValue_7 : decode cX8_isValue 7 = .ok (.ireturn, 1) := by decide +kernel
theorem dX8_row_0 : decode cX8_row 0 = .ok (.bipush 20, 2) := by decide +kernel
theorem dX8_row_2 : decode cX8_row 2 = .ok (.iload_n 0, 1) := by decide +kernel
theorem dX8_row_3 : decode cX8_row 3 = .ok (.imul, 1) := by decide +kernel
theorem dX8_row_4 : decode cX8_row 4 = .ok (.iload_n 1, 1) := by decide +kernel
theorem dX8_row_5 : decode cX8_row 5 = .ok (.iadd, 1) := by decide +kernel
theorem dX8_row_6 : decode cX8_row 6 = .ok (.ireturn, 1) := by decide +kernel
theorem dX8_code_0 : decode cX8_code 0 = .ok (.bipush (-10), 2) := by decide +kernel
theorem dX8_code_2 : decode cX8_code 2 = .ok (.iload_n 0, 1) := by decide +kernel
theorem dX8_code_3 : decode cX8_code 3 = .ok (.isub, 1) := by decide +kernel
theorem dX8_code_4 : decode cX8_code 4 = .ok (.ireturn, 1) := by decide +kernel
set_option maxRecDepth 20000 in
theorem ggX8_target_X8_row : GoodIn wsX8_target wsX8_row := goodIn_r _ [8] (by decide +kernel) (by decide +kernel)
set_option maxRecDepth 20000 in
theorem gX8_target_X8_row : GoodIn wsX8_target (va_wsS RX8 53 yX8_row wsX8_row) := goodIn_app (goodIn_of _ (by decide +kernel)) ggX8_target_X8_row
theorem dX8_target_0 : decode cX8_target 0 = .ok (.aload_n 0, 1) := by decide +kernel
theorem dX8_target_1 : decode cX8_target 1 = .ok (.getfield 7, 3) := by decide +kernel
theorem dX8_target_4 : decode cX8_target 4 = .ok (.iload_n 1, 1) := by decide +kernel
theorem dX8_target_5 : decode cX8_target 5 = .ok (.baload, 1) := by decide +kernel
theorem dX8_target_6 : decode cX8_target 6 = .ok (.ifCond .eq 26, 3) := by decide +kernel
theorem dX8_target_9 : decode cX8_target 9 = .ok (.aload_n 0, 1) := by decide +kernel
theorem dX8_target_10 : decode cX8_target 10 = .ok (.getfield 17, 3) := by decide +kernel
theorem dX8_target_13 : decode cX8_target 13 = .ok (.iload_n 2, 1) := by decide +kernel
theorem dX8_target_14 : decode cX8_target 14 = .ok (.baload, 1) := by decide +kernel
theorem dX8_target_15 : decode cX8_target 15 = .ok (.ifCond .eq 17, 3) := by decide +kernel
theorem dX8_target_18 : decode cX8_target 18 = .ok (.iload_n 1, 1) := by decide +kernel
theorem dX8_target_19 : decode cX8_target 19 = .ok (.bipush 20, 2) := by decide +kernel
theorem dX8_target_21 : decode cX8_target 21 = .ok (.idiv, 1) := by decide +kernel
theorem dX8_target_22 : decode cX8_target 22 = .ok (.iload_n 2, 1) := by decide +kernel
theorem dX8_target_23 : decode cX8_target 23 = .ok (.iconst 2, 1) := by decide +kernel
theorem dX8_target_24 : decode cX8_target 24 = .ok (.idiv, 1) := by decide +kernel
theorem dX8_target_25 : decode cX8_target 25 = .ok (.if_icmp .ne 7, 3) := by decide +kernel
theorem dX8_target_28 : decode cX8_target 28 = .ok (.iconst 1, 1) := by decide +kernel
theorem dX8_target_29 : decode cX8_target 29 = .ok (.goto 4, 3) := by decide +kernel
theorem dX8_target_32 : decode cX8_target 32 = .ok (.iconst 0, 1) := by decide +kernel
theorem dX8_target_33 : decode cX8_target 33 = .ok (.istore_n 3, 1) := by decide +kernel
theorem dX8_target_34 : decode cX8_target 34 = .ok (.iload_n 3, 1) := by decide +kernel
theorem dX8_target_35 : decode cX8_target 35 = .ok (.ifCond .eq 18, 3) := by decide +kernel
theorem dX8_target_38 : decode cX8_target 38 = .ok (.aload_n 0, 1) := by decide +kernel
theorem dX8_target_39 : decode cX8_target 39 = .ok (.getfield 13, 3) := by decide +kernel
theorem dX8_target_42 : decode cX8_target 42 = .ok (.iconst 2, 1) := by decide +kernel
theorem dX8_target_43 : decode cX8_target 43 = .ok (.iload_n 1, 1) := by decide +kernel
theorem dX8_target_44 : decode cX8_target 44 = .ok (.imul, 1) := by decide +kernel
theorem dX8_target_45 : decode cX8_target 45 = .ok (.iload_n 2, 1) := by decide +kernel
theorem dX8_target_46 : decode cX8_target 46 = .ok (.iconst 2, 1) := by decide +kernel
theorem dX8_target_47 : decode cX8_target 47 = .ok (.irem, 1) := by decide +kernel
theorem dX8_target_48 : decode cX8_target 48 = .ok (.iadd, 1) := by decide +kernel
theorem dX8_target_49 : decode cX8_target 49 = .ok (.iaload, 1) := by decide +kernel
theorem dX8_target_50 : decode cX8_target 50 = .ok (.goto 4, 3) := by decide +kernel
theorem dX8_target_53 : decode cX8_target 53 = .ok (.iconst (-1), 1) := by decide +kernel
theorem dX8_target_54 : decode cX8_target 54 = .ok (.istore 4, 2) := by decide +kernel
theorem dX8_target_56 : decode cX8_target 56 = .ok (.iload 4, 2) := by decide +kernel
theorem dX8_target_58 : decode cX8_target 58 = .ok (.iconst (-1), 1) := by decide +kernel
theorem dX8_target_59 : decode cX8_target 59 = .ok (.if_icmp .ne 8, 3) := by decide +kernel
theorem dX8_target_62 : decode cX8_target 62 = .ok (.bipush (-2), 2) := by decide +kernel
theorem dX8_target_64 : decode cX8_target 64 = .ok (.goto 14, 3) := by decide +kernel
theorem dX8_target_67 : decode cX8_target 67 = .ok (.aload_n 0, 1) := by decide +kernel
theorem dX8_target_68 : decode cX8_target 68 = .ok (.getfield 20, 3) := by decide +kernel
theorem dX8_target_71 : decode cX8_target 71 = .ok (.iload_n 2, 1) := by decide +kernel
theorem dX8_target_72 : decode cX8_target 72 = .ok (.iaload, 1) := by decide +kernel
theorem dX8_target_73 : decode cX8_target 73 = .ok (.iload 4, 2) := by decide +kernel
theorem dX8_target_75 : decode cX8_target 75 = .ok (.invokestatic 53, 3) := by decide +kernel
theorem dX8_target_78 : decode cX8_target 78 = .ok (.ireturn, 1) := by decide +kernel
set_option maxRecDepth 20000 in
theorem ggX8_violations_X8_target : GoodIn wsX8_violations wsX8_target := goodIn_r _ [6, 1, 7, 8, 9, 10, 11, 5, 12, 13, 14, 15, 16, 17, 18, 19, 20, 21, 22, 23, 24, 25, 26, 27, 28, 29, 30, 31, 32] (by decide +kernel) (by decide +kernel)
set_option maxRecDepth 20000 in
theorem gX8_violations_X8_target : GoodIn wsX8_violations (wsV RX8 57 RX8 yX8_target wsX8_target) := goodIn_app (goodIn_of _ (by decide +kernel)) ggX8_violations_X8_target
theorem dX8_violations_0 : decode cX8_violations 0 = .ok (.iconst 0, 1) := by decide +kernel
theorem dX8_violations_1 : decode cX8_violations 1 = .ok (.istore_n 2, 1) := by decide +kernel
theorem dX8_violations_2 : decode cX8_violations 2 = .ok (.iconst 0, 1) := by decide +kernel
theorem dX8_violations_3 : decode cX8_violations 3 = .ok (.istore_n 3, 1) := by decide +kernel
theorem dX8_violations_4 : decode cX8_violations 4 = .ok (.iload_n 3, 1) := by decide +kernel
theorem dX8_violations_5 : decode cX8_violations 5 = .ok (.bipush 80, 2) := by decide +kernel
theorem dX8_violations_7 : decode cX8_violations 7 = .ok (.if_icmp .ge 42, 3) := by decide +kernel
theorem dX8_violations_10 : decode cX8_violations 10 = .ok (.aload_n 0, 1) := by decide +kernel
theorem dX8_violations_11 : decode cX8_violations 11 = .ok (.iload_n 3, 1) := by decide +kernel
theorem dX8_violations_12 : decode cX8_violations 12 = .ok (.iload_n 1, 1) := by decide +kernel
theorem dX8_violations_13 : decode cX8_violations 13 = .ok (.invokevirtual 57, 3) := by decide +kernel
theorem dX8_violations_16 : decode cX8_violations 16 = .ok (.istore 4, 2) := by decide +kernel
theorem dX8_violations_18 : decode cX8_violations 18 = .ok (.iload_n 2, 1) := by decide +kernel
theorem dX8_violations_19 : decode cX8_violations 19 = .ok (.iload 4, 2) := by decide +kernel
theorem dX8_violations_21 : decode cX8_violations 21 = .ok (.bipush (-2), 2) := by decide +kernel
theorem dX8_violations_23 : decode cX8_violations 23 = .ok (.if_icmp .eq 17, 3) := by decide +kernel
theorem dX8_violations_26 : decode cX8_violations 26 = .ok (.aload_n 0, 1) := by decide +kernel
theorem dX8_violations_27 : decode cX8_violations 27 = .ok (.getfield 7, 3) := by decide +kernel
theorem dX8_violations_30 : decode cX8_violations 30 = .ok (.iload 4, 2) := by decide +kernel
theorem dX8_violations_32 : decode cX8_violations 32 = .ok (.baload, 1) := by decide +kernel
theorem dX8_violations_33 : decode cX8_violations 33 = .ok (.ifCond .ne 7, 3) := by decide +kernel
theorem dX8_violations_36 : decode cX8_violations 36 = .ok (.iconst 1, 1) := by decide +kernel
theorem dX8_violations_37 : decode cX8_violations 37 = .ok (.goto 4, 3) := by decide +kernel
theorem dX8_violations_40 : decode cX8_violations 40 = .ok (.iconst 0, 1) := by decide +kernel
theorem dX8_violations_41 : decode cX8_violations 41 = .ok (.iadd, 1) := by decide +kernel
theorem dX8_violations_42 : decode cX8_violations 42 = .ok (.istore_n 2, 1) := by decide +kernel
theorem dX8_violations_43 : decode cX8_violations 43 = .ok (.iinc 3 1, 3) := by decide +kernel
theorem dX8_violations_46 : decode cX8_violations 46 = .ok (.goto (-42), 3) := by decide +kernel
theorem dX8_violations_49 : decode cX8_violations 49 = .ok (.iload_n 2, 1) := by decide +kernel
theorem dX8_violations_50 : decode cX8_violations 50 = .ok (.ireturn, 1) := by decide +kernel
set_option maxRecDepth 20000 in
theorem ggX8_violated_X8_violations : GoodIn wsX8_violated wsX8_violations := goodIn_r _ [6, 7, 8, 9, 10, 5, 11, 12, 13, 14, 15, 16, 17, 21, 22, 23, 24, 25, 26, 27, 28, 29, 30, 31, 32, 33, 34, 35, 36, 37, 38, 39, 40] (by decide +kernel) (by decide +kernel)
set_option maxRecDepth 20000 in
theorem gX8_violated_X8_violations : GoodIn wsX8_violated (wsV RX8 60 RX8 yX8_violations wsX8_violations) := goodIn_app (goodIn_of _ (by decide +kernel)) ggX8_violated_X8_violations
set_option maxRecDepth 20000 in
theorem ggX8_violated_X8_code : GoodIn wsX8_violated wsX8_code := goodIn_r _ [20] (by decide +kernel) (by decide +kernel)
set_option maxRecDepth 20000 in
theorem gX8_violated_X8_code : GoodIn wsX8_violated (va_wsS RX8 64 yX8_code wsX8_code) := goodIn_app (goodIn_of _ (by decide +kernel)) ggX8_violated_X8_code
theorem dX8_violated_0 : decode cX8_violated 0 = .ok (.iconst 0, 1) := by decide +kernel
theorem dX8_violated_1 : decode cX8_violated 1 = .ok (.istore_n 2, 1) := by decide +kernel
theorem dX8_violated_2 : decode cX8_violated 2 = .ok (.iload_n 2, 1) := by decide +kernel
theorem dX8_violated_3 : decode cX8_violated 3 = .ok (.bipush 8, 2) := by decide +kernel
theorem dX8_violated_5 : decode cX8_violated 5 = .ok (.if_icmp .ge 35, 3) := by decide +kernel
theorem dX8_violated_8 : decode cX8_violated 8 = .ok (.iload_n 1, 1) := by decide +kernel
theorem dX8_violated_9 : decode cX8_violated 9 = .ok (.ifCond .ne 12, 3) := by decide +kernel
theorem dX8_violated_12 : decode cX8_violated 12 = .ok (.aload_n 0, 1) := by decide +kernel
theorem dX8_violated_13 : decode cX8_violated 13 = .ok (.getfield 26, 3) := by decide +kernel
theorem dX8_violated_16 : decode cX8_violated 16 = .ok (.iload_n 2, 1) := by decide +kernel
theorem dX8_violated_17 : decode cX8_violated 17 = .ok (.baload, 1) := by decide +kernel
theorem dX8_violated_18 : decode cX8_violated 18 = .ok (.ifCond .ne 16, 3) := by decide +kernel
theorem dX8_violated_21 : decode cX8_violated 21 = .ok (.aload_n 0, 1) := by decide +kernel
theorem dX8_violated_22 : decode cX8_violated 22 = .ok (.iload_n 2, 1) := by decide +kernel
theorem dX8_violated_23 : decode cX8_violated 23 = .ok (.invokevirtual 60, 3) := by decide +kernel
theorem dX8_violated_26 : decode cX8_violated 26 = .ok (.ifCond .le 8, 3) := by decide +kernel
theorem dX8_violated_29 : decode cX8_violated 29 = .ok (.iload_n 2, 1) := by decide +kernel
theorem dX8_violated_30 : decode cX8_violated 30 = .ok (.invokestatic 64, 3) := by decide +kernel
theorem dX8_violated_33 : decode cX8_violated 33 = .ok (.ireturn, 1) := by decide +kernel
theorem dX8_violated_34 : decode cX8_violated 34 = .ok (.iinc 2 1, 3) := by decide +kernel
theorem dX8_violated_37 : decode cX8_violated 37 = .ok (.goto (-35), 3) := by decide +kernel
theorem dX8_violated_40 : decode cX8_violated 40 = .ok (.iconst 0, 1) := by decide +kernel
theorem dX8_violated_41 : decode cX8_violated 41 = .ok (.ireturn, 1) := by decide +kernel
theorem dX8_notes_0 : decode cX8_notes 0 = .ok (.aload_n 0, 1) := by decide +kernel
theorem dX8_notes_1 : decode cX8_notes 1 = .ok (.getfield 29, 3) := by decide +kernel
theorem dX8_notes_4 : decode cX8_notes 4 = .ok (.aload_n 0, 1) := by decide +kernel
theorem dX8_notes_5 : decode cX8_notes 5 = .ok (.getfield 67, 3) := by decide +kernel
theorem dX8_notes_8 : decode cX8_notes 8 = .ok (.iload_n 1, 1) := by decide +kernel
theorem dX8_notes_9 : decode cX8_notes 9 = .ok (.bipush 80, 2) := by decide +kernel
theorem dX8_notes_11 : decode cX8_notes 11 = .ok (.imul, 1) := by decide +kernel
theorem dX8_notes_12 : decode cX8_notes 12 = .ok (.iload_n 2, 1) := by decide +kernel
theorem dX8_notes_13 : decode cX8_notes 13 = .ok (.iadd, 1) := by decide +kernel
theorem dX8_notes_14 : decode cX8_notes 14 = .ok (.iconst 2, 1) := by decide +kernel
theorem dX8_notes_15 : decode cX8_notes 15 = .ok (.imul, 1) := by decide +kernel
theorem dX8_notes_16 : decode cX8_notes 16 = .ok (.iload_n 3, 1) := by decide +kernel
theorem dX8_notes_17 : decode cX8_notes 17 = .ok (.iadd, 1) := by decide +kernel
theorem dX8_notes_18 : decode cX8_notes 18 = .ok (.bipush 21, 2) := by decide +kernel
theorem dX8_notes_20 : decode cX8_notes 20 = .ok (.imul, 1) := by decide +kernel
theorem dX8_notes_21 : decode cX8_notes 21 = .ok (.aload_n 0, 1) := by decide +kernel
theorem dX8_notes_22 : decode cX8_notes 22 = .ok (.getfield 13, 3) := by decide +kernel
theorem dX8_notes_25 : decode cX8_notes 25 = .ok (.iconst 2, 1) := by decide +kernel
theorem dX8_notes_26 : decode cX8_notes 26 = .ok (.iload_n 2, 1) := by decide +kernel
theorem dX8_notes_27 : decode cX8_notes 27 = .ok (.imul, 1) := by decide +kernel
theorem dX8_notes_28 : decode cX8_notes 28 = .ok (.iaload, 1) := by decide +kernel
theorem dX8_notes_29 : decode cX8_notes 29 = .ok (.iadd, 1) := by decide +kernel
theorem dX8_notes_30 : decode cX8_notes 30 = .ok (.iconst 1, 1) := by decide +kernel
theorem dX8_notes_31 : decode cX8_notes 31 = .ok (.iadd, 1) := by decide +kernel
theorem dX8_notes_32 : decode cX8_notes 32 = .ok (.bipush 21, 2) := by decide +kernel
theorem dX8_notes_34 : decode cX8_notes 34 = .ok (.imul, 1) := by decide +kernel
theorem dX8_notes_35 : decode cX8_notes 35 = .ok (.aload_n 0, 1) := by decide +kernel
theorem dX8_notes_36 : decode cX8_notes 36 = .ok (.getfield 13, 3) := by decide +kernel
theorem dX8_notes_39 : decode cX8_notes 39 = .ok (.iconst 2, 1) := by decide +kernel
theorem dX8_notes_40 : decode cX8_notes 40 = .ok (.iload_n 2, 1) := by decide +kernel
theorem dX8_notes_41 : decode cX8_notes 41 = .ok (.imul, 1) := by decide +kernel
theorem dX8_notes_42 : decode cX8_notes 42 = .ok (.iconst 1, 1) := by decide +kernel
theorem dX8_notes_43 : decode cX8_notes 43 = .ok (.iadd, 1) := by decide +kernel
theorem dX8_notes_44 : decode cX8_notes 44 = .ok (.iaload, 1) := by decide +kernel
theorem dX8_notes_45 : decode cX8_notes 45 = .ok (.iadd, 1) := by decide +kernel
theorem dX8_notes_46 : decode cX8_notes 46 = .ok (.iconst 1, 1) := by decide +kernel
theorem dX8_notes_47 : decode cX8_notes 47 = .ok (.iadd, 1) := by decide +kernel
theorem dX8_notes_48 : decode cX8_notes 48 = .ok (.iastore, 1) := by decide +kernel
theorem dX8_notes_49 : decode cX8_notes 49 = .ok (.aload_n 0, 1) := by decide +kernel
theorem dX8_notes_50 : decode cX8_notes 50 = .ok (.dup, 1) := by decide +kernel
theorem dX8_notes_51 : decode cX8_notes 51 = .ok (.getfield 67, 3) := by decide +kernel
theorem dX8_notes_54 : decode cX8_notes 54 = .ok (.iconst 1, 1) := by decide +kernel
theorem dX8_notes_55 : decode cX8_notes 55 = .ok (.iadd, 1) := by decide +kernel
theorem dX8_notes_56 : decode cX8_notes 56 = .ok (.putfield 67, 3) := by decide +kernel
theorem dX8_notes_59 : decode cX8_notes 59 = .ok (.return_, 1) := by decide +kernel
set_option maxRecDepth 20000 in
theorem ggX8_puts_X8_notes : GoodIn wsX8_puts wsX8_notes := goodIn_r _ [7, 8, 9, 2, 10, 11, 12, 13, 14, 15, 16, 17, 18, 19, 20, 21, 22, 23, 24, 25, 26, 27, 28, 29] (by decide +kernel) (by decide +kernel)
set_option maxRecDepth 20000 in
theorem gX8_puts_X8_notes : GoodIn wsX8_puts (wsV RX8 70 RX8 yX8_notes wsX8_notes) := goodIn_app (goodIn_of _ (by decide +kernel)) ggX8_puts_X8_notes
theorem dX8_puts_0 : decode cX8_puts 0 = .ok (.aload_n 0, 1) := by decide +kernel
theorem dX8_puts_1 : decode cX8_puts 1 = .ok (.iconst 0, 1) := by decide +kernel
theorem dX8_puts_2 : decode cX8_puts 2 = .ok (.iload_n 1, 1) := by decide +kernel
theorem dX8_puts_3 : decode cX8_puts 3 = .ok (.iconst 0, 1) := by decide +kernel
theorem dX8_puts_4 : decode cX8_puts 4 = .ok (.invokevirtual 70, 3) := by decide +kernel
theorem dX8_puts_7 : decode cX8_puts 7 = .ok (.aload_n 0, 1) := by decide +kernel
theorem dX8_puts_8 : decode cX8_puts 8 = .ok (.getfield 7, 3) := by decide +kernel
theorem dX8_puts_11 : decode cX8_puts 11 = .ok (.iload_n 1, 1) := by decide +kernel
theorem dX8_puts_12 : decode cX8_puts 12 = .ok (.iconst 1, 1) := by decide +kernel
theorem dX8_puts_13 : decode cX8_puts 13 = .ok (.bastore, 1) := by decide +kernel
theorem dX8_puts_14 : decode cX8_puts 14 = .ok (.aload_n 0, 1) := by decide +kernel
theorem dX8_puts_15 : decode cX8_puts 15 = .ok (.getfield 13, 3) := by decide +kernel
theorem dX8_puts_18 : decode cX8_puts 18 = .ok (.iconst 2, 1) := by decide +kernel
theorem dX8_puts_19 : decode cX8_puts 19 = .ok (.iload_n 1, 1) := by decide +kernel
theorem dX8_puts_20 : decode cX8_puts 20 = .ok (.imul, 1) := by decide +kernel
theorem dX8_puts_21 : decode cX8_puts 21 = .ok (.iload_n 2, 1) := by decide +kernel
theorem dX8_puts_22 : decode cX8_puts 22 = .ok (.iastore, 1) := by decide +kernel
theorem dX8_puts_23 : decode cX8_puts 23 = .ok (.aload_n 0, 1) := by decide +kernel
theorem dX8_puts_24 : decode cX8_puts 24 = .ok (.getfield 13, 3) := by decide +kernel
theorem dX8_puts_27 : decode cX8_puts 27 = .ok (.iconst 2, 1) := by decide +kernel
theorem dX8_puts_28 : decode cX8_puts 28 = .ok (.iload_n 1, 1) := by decide +kernel
theorem dX8_puts_29 : decode cX8_puts 29 = .ok (.imul, 1) := by decide +kernel
theorem dX8_puts_30 : decode cX8_puts 30 = .ok (.iconst 1, 1) := by decide +kernel
theorem dX8_puts_31 : decode cX8_puts 31 = .ok (.iadd, 1) := by decide +kernel
theorem dX8_puts_32 : decode cX8_puts 32 = .ok (.iload_n 3, 1) := by decide +kernel
theorem dX8_puts_33 : decode cX8_puts 33 = .ok (.iastore, 1) := by decide +kernel
theorem dX8_puts_34 : decode cX8_puts 34 = .ok (.return_, 1) := by decide +kernel
set_option maxRecDepth 20000 in
theorem ggX8_sets_X8_notes : GoodIn wsX8_sets wsX8_notes := goodIn_r _ [6, 7, 8, 1, 9, 10, 11, 12, 13, 14, 15, 16, 17, 18, 19, 20, 21, 22, 23, 24, 25, 26, 27, 28] (by decide +kernel) (by decide +kernel)
set_option maxRecDepth 20000 in
theorem gX8_sets_X8_notes : GoodIn wsX8_sets (wsV RX8 70 RX8 yX8_notes wsX8_notes) := goodIn_app (goodIn_of _ (by decide +kernel)) ggX8_sets_X8_notes
theorem dX8_sets_0 : decode cX8_sets 0 = .ok (.aload_n 0, 1) := by decide +kernel
theorem dX8_sets_1 : decode cX8_sets 1 = .ok (.iconst 2, 1) := by decide +kernel
theorem dX8_sets_2 : decode cX8_sets 2 = .ok (.iload_n 1, 1) := by decide +kernel
theorem dX8_sets_3 : decode cX8_sets 3 = .ok (.iload_n 2, 1) := by decide +kernel
theorem dX8_sets_4 : decode cX8_sets 4 = .ok (.invokevirtual 70, 3) := by decide +kernel
theorem dX8_sets_7 : decode cX8_sets 7 = .ok (.aload_n 0, 1) := by decide +kernel
theorem dX8_sets_8 : decode cX8_sets 8 = .ok (.getfield 13, 3) := by decide +kernel
theorem dX8_sets_11 : decode cX8_sets 11 = .ok (.iconst 2, 1) := by decide +kernel
theorem dX8_sets_12 : decode cX8_sets 12 = .ok (.iload_n 1, 1) := by decide +kernel
theorem dX8_sets_13 : decode cX8_sets 13 = .ok (.imul, 1) := by decide +kernel
theorem dX8_sets_14 : decode cX8_sets 14 = .ok (.iload_n 2, 1) := by decide +kernel
theorem dX8_sets_15 : decode cX8_sets 15 = .ok (.iadd, 1) := by decide +kernel
theorem dX8_sets_16 : decode cX8_sets 16 = .ok (.iload_n 3, 1) := by decide +kernel
theorem dX8_sets_17 : decode cX8_sets 17 = .ok (.iastore, 1) := by decide +kernel
theorem dX8_sets_18 : decode cX8_sets 18 = .ok (.return_, 1) := by decide +kernel
set_option maxRecDepth 20000 in
theorem ggX8_removes_X8_notes : GoodIn wsX8_removes wsX8_notes := goodIn_r _ [6, 7, 8, 9, 10, 11, 12, 13, 14, 15, 16, 17, 18, 19, 20, 21, 22, 23, 24, 25, 26, 27, 28, 29] (by decide +kernel) (by decide +kernel)
set_option maxRecDepth 20000 in
theorem gX8_removes_X8_notes : GoodIn wsX8_removes (wsV RX8 70 RX8 yX8_notes wsX8_notes) := goodIn_app (goodIn_of _ (by decide +kernel)) ggX8_removes_X8_notes
theorem dX8_removes_0 : decode cX8_removes 0 = .ok (.aload_n 0, 1) := by decide +kernel
theorem dX8_removes_1 : decode cX8_removes 1 = .ok (.iconst 1, 1) := by decide +kernel
theorem dX8_removes_2 : decode cX8_removes 2 = .ok (.iload_n 1, 1) := by decide +kernel
theorem dX8_removes_3 : decode cX8_removes 3 = .ok (.iconst 0, 1) := by decide +kernel
theorem dX8_removes_4 : decode cX8_removes 4 = .ok (.invokevirtual 70, 3) := by decide +kernel
theorem dX8_removes_7 : decode cX8_removes 7 = .ok (.aload_n 0, 1) := by decide +kernel
theorem dX8_removes_8 : decode cX8_removes 8 = .ok (.getfield 7, 3) := by decide +kernel
theorem dX8_removes_11 : decode cX8_removes 11 = .ok (.iload_n 1, 1) := by decide +kernel
theorem dX8_removes_12 : decode cX8_removes 12 = .ok (.iconst 0, 1) := by decide +kernel
theorem dX8_removes_13 : decode cX8_removes 13 = .ok (.bastore, 1) := by decide +kernel
theorem dX8_removes_14 : decode cX8_removes 14 = .ok (.return_, 1) := by decide +kernel
theorem dX8_undoes_0 : decode cX8_undoes 0 = .ok (.iconst 0, 1) := by decide +kernel
theorem dX8_undoes_1 : decode cX8_undoes 1 = .ok (.istore_n 2, 1) := by decide +kernel
theorem dX8_undoes_2 : decode cX8_undoes 2 = .ok (.aload_n 0, 1) := by decide +kernel
theorem dX8_undoes_3 : decode cX8_undoes 3 = .ok (.getfield 67, 3) := by decide +kernel
theorem dX8_undoes_6 : decode cX8_undoes 6 = .ok (.iload_n 1, 1) := by decide +kernel
theorem dX8_undoes_7 : decode cX8_undoes 7 = .ok (.if_icmp .le 101, 3) := by decide +kernel
theorem dX8_undoes_10 : decode cX8_undoes 10 = .ok (.aload_n 0, 1) := by decide +kernel
theorem dX8_undoes_11 : decode cX8_undoes 11 = .ok (.dup, 1) := by decide +kernel
theorem dX8_undoes_12 : decode cX8_undoes 12 = .ok (.getfield 67, 3) := by decide +kernel
theorem dX8_undoes_15 : decode cX8_undoes 15 = .ok (.iconst 1, 1) := by decide +kernel
theorem dX8_undoes_16 : decode cX8_undoes 16 = .ok (.isub, 1) := by decide +kernel
theorem dX8_undoes_17 : decode cX8_undoes 17 = .ok (.putfield 67, 3) := by decide +kernel
theorem dX8_undoes_20 : decode cX8_undoes 20 = .ok (.iinc 2 1, 3) := by decide +kernel
theorem dX8_undoes_23 : decode cX8_undoes 23 = .ok (.aload_n 0, 1) := by decide +kernel
theorem dX8_undoes_24 : decode cX8_undoes 24 = .ok (.getfield 29, 3) := by decide +kernel
theorem dX8_undoes_27 : decode cX8_undoes 27 = .ok (.aload_n 0, 1) := by decide +kernel
theorem dX8_undoes_28 : decode cX8_undoes 28 = .ok (.getfield 67, 3) := by decide +kernel
theorem dX8_undoes_31 : decode cX8_undoes 31 = .ok (.iaload, 1) := by decide +kernel
theorem dX8_undoes_32 : decode cX8_undoes 32 = .ok (.istore_n 3, 1) := by decide +kernel
theorem dX8_undoes_33 : decode cX8_undoes 33 = .ok (.iload_n 3, 1) := by decide +kernel
theorem dX8_undoes_34 : decode cX8_undoes 34 = .ok (.sipush 882, 3) := by decide +kernel
theorem dX8_undoes_37 : decode cX8_undoes 37 = .ok (.idiv, 1) := by decide +kernel
theorem dX8_undoes_38 : decode cX8_undoes 38 = .ok (.bipush 80, 2) := by decide +kernel
theorem dX8_undoes_40 : decode cX8_undoes 40 = .ok (.irem, 1) := by decide +kernel
theorem dX8_undoes_41 : decode cX8_undoes 41 = .ok (.istore 4, 2) := by decide +kernel
theorem dX8_undoes_43 : decode cX8_undoes 43 = .ok (.iload_n 3, 1) := by decide +kernel
theorem dX8_undoes_44 : decode cX8_undoes 44 = .ok (.sipush 882, 3) := by decide +kernel
theorem dX8_undoes_47 : decode cX8_undoes 47 = .ok (.idiv, 1) := by decide +kernel
theorem dX8_undoes_48 : decode cX8_undoes 48 = .ok (.bipush 80, 2) := by decide +kernel
theorem dX8_undoes_50 : decode cX8_undoes 50 = .ok (.idiv, 1) := by decide +kernel
theorem dX8_undoes_51 : decode cX8_undoes 51 = .ok (.istore 5, 2) := by decide +kernel
theorem dX8_undoes_53 : decode cX8_undoes 53 = .ok (.aload_n 0, 1) := by decide +kernel
theorem dX8_undoes_54 : decode cX8_undoes 54 = .ok (.getfield 7, 3) := by decide +kernel
theorem dX8_undoes_57 : decode cX8_undoes 57 = .ok (.iload 4, 2) := by decide +kernel
theorem dX8_undoes_59 : decode cX8_undoes 59 = .ok (.iload 5, 2) := by decide +kernel
theorem dX8_undoes_61 : decode cX8_undoes 61 = .ok (.ifCond .eq 7, 3) := by decide +kernel
theorem dX8_undoes_64 : decode cX8_undoes 64 = .ok (.iconst 1, 1) := by decide +kernel
theorem dX8_undoes_65 : decode cX8_undoes 65 = .ok (.goto 4, 3) := by decide +kernel
theorem dX8_undoes_68 : decode cX8_undoes 68 = .ok (.iconst 0, 1) := by decide +kernel
theorem dX8_undoes_69 : decode cX8_undoes 69 = .ok (.bastore, 1) := by decide +kernel
theorem dX8_undoes_70 : decode cX8_undoes 70 = .ok (.aload_n 0, 1) := by decide +kernel
theorem dX8_undoes_71 : decode cX8_undoes 71 = .ok (.getfield 13, 3) := by decide +kernel
theorem dX8_undoes_74 : decode cX8_undoes 74 = .ok (.iconst 2, 1) := by decide +kernel
theorem dX8_undoes_75 : decode cX8_undoes 75 = .ok (.iload 4, 2) := by decide +kernel
theorem dX8_undoes_77 : decode cX8_undoes 77 = .ok (.imul, 1) := by decide +kernel
theorem dX8_undoes_78 : decode cX8_undoes 78 = .ok (.iload_n 3, 1) := by decide +kernel
theorem dX8_undoes_79 : decode cX8_undoes 79 = .ok (.bipush 21, 2) := by decide +kernel
theorem dX8_undoes_81 : decode cX8_undoes 81 = .ok (.idiv, 1) := by decide +kernel
theorem dX8_undoes_82 : decode cX8_undoes 82 = .ok (.bipush 21, 2) := by decide +kernel
theorem dX8_undoes_84 : decode cX8_undoes 84 = .ok (.irem, 1) := by decide +kernel
theorem dX8_undoes_85 : decode cX8_undoes 85 = .ok (.iconst 1, 1) := by decide +kernel
theorem dX8_undoes_86 : decode cX8_undoes 86 = .ok (.isub, 1) := by decide +kernel
theorem dX8_undoes_87 : decode cX8_undoes 87 = .ok (.iastore, 1) := by decide +kernel
theorem dX8_undoes_88 : decode cX8_undoes 88 = .ok (.aload_n 0, 1) := by decide +kernel
theorem dX8_undoes_89 : decode cX8_undoes 89 = .ok (.getfield 13, 3) := by decide +kernel
theorem dX8_undoes_92 : decode cX8_undoes 92 = .ok (.iconst 2, 1) := by decide +kernel
theorem dX8_undoes_93 : decode cX8_undoes 93 = .ok (.iload 4, 2) := by decide +kernel
theorem dX8_undoes_95 : decode cX8_undoes 95 = .ok (.imul, 1) := by decide +kernel
theorem dX8_undoes_96 : decode cX8_undoes 96 = .ok (.iconst 1, 1) := by decide +kernel
theorem dX8_undoes_97 : decode cX8_undoes 97 = .ok (.iadd, 1) := by decide +kernel
theorem dX8_undoes_98 : decode cX8_undoes 98 = .ok (.iload_n 3, 1) := by decide +kernel
theorem dX8_undoes_99 : decode cX8_undoes 99 = .ok (.bipush 21, 2) := by decide +kernel
theorem dX8_undoes_101 : decode cX8_undoes 101 = .ok (.irem, 1) := by decide +kernel
theorem dX8_undoes_102 : decode cX8_undoes 102 = .ok (.iconst 1, 1) := by decide +kernel
theorem dX8_undoes_103 : decode cX8_undoes 103 = .ok (.isub, 1) := by decide +kernel
theorem dX8_undoes_104 : decode cX8_undoes 104 = .ok (.iastore, 1) := by decide +kernel
theorem dX8_undoes_105 : decode cX8_undoes 105 = .ok (.goto (-103), 3) := by decide +kernel
theorem dX8_undoes_108 : decode cX8_undoes 108 = .ok (.iload_n 2, 1) := by decide +kernel
theorem dX8_undoes_109 : decode cX8_undoes 109 = .ok (.ireturn, 1) := by decide +kernel
set_option maxRecDepth 20000 in
theorem ggX8_ends_X8_violated : GoodIn wsX8_ends wsX8_violated := goodIn_r _ [5, 6, 7, 8, 9, 4, 10, 11, 12, 13, 14, 15, 16, 17, 18, 19, 20, 21, 22, 23, 24, 31, 32, 33, 34, 35, 36, 37, 38, 39, 40, 41, 42, 43, 44, 45, 46, 47, 48, 49, 50] (by decide +kernel) (by decide +kernel)
set_option maxRecDepth 20000 in
theorem gX8_ends_X8_violated : GoodIn wsX8_ends (wsV RX8 74 RX8 yX8_violated wsX8_violated) := goodIn_app (goodIn_of _ (by decide +kernel)) ggX8_ends_X8_violated
set_option maxRecDepth 20000 in
theorem ggX8_ends_X8_undoes : GoodIn wsX8_ends wsX8_undoes := goodIn_r _ [28, 29, 30, 11, 17, 31, 32, 33, 34, 35, 36, 37, 38, 39, 40, 41, 42, 43, 44, 45, 46, 47, 48, 49, 50] (by decide +kernel) (by decide +kernel)
set_option maxRecDepth 20000 in
theorem gX8_ends_X8_undoes : GoodIn wsX8_ends (wsV RX8 78 RX8 yX8_undoes wsX8_undoes) := goodIn_app (goodIn_of _ (by decide +kernel)) ggX8_ends_X8_undoes
theorem dX8_ends_0 : decode cX8_ends 0 = .ok (.iload_n 2, 1) := by decide +kernel
theorem dX8_ends_1 : decode cX8_ends 1 = .ok (.ifCond .ge 7, 3) := by decide +kernel
theorem dX8_ends_4 : decode cX8_ends 4 = .ok (.iload_n 2, 1) := by decide +kernel
theorem dX8_ends_5 : decode cX8_ends 5 = .ok (.goto 8, 3) := by decide +kernel
theorem dX8_ends_8 : decode cX8_ends 8 = .ok (.aload_n 0, 1) := by decide +kernel
theorem dX8_ends_9 : decode cX8_ends 9 = .ok (.iconst 0, 1) := by decide +kernel
theorem dX8_ends_10 : decode cX8_ends 10 = .ok (.invokevirtual 74, 3) := by decide +kernel
theorem dX8_ends_13 : decode cX8_ends 13 = .ok (.istore_n 3, 1) := by decide +kernel
theorem dX8_ends_14 : decode cX8_ends 14 = .ok (.iload_n 3, 1) := by decide +kernel
theorem dX8_ends_15 : decode cX8_ends 15 = .ok (.ifCond .ge 12, 3) := by decide +kernel
theorem dX8_ends_18 : decode cX8_ends 18 = .ok (.aload_n 0, 1) := by decide +kernel
theorem dX8_ends_19 : decode cX8_ends 19 = .ok (.iload_n 1, 1) := by decide +kernel
theorem dX8_ends_20 : decode cX8_ends 20 = .ok (.invokevirtual 78, 3) := by decide +kernel
theorem dX8_ends_23 : decode cX8_ends 23 = .ok (.istore 4, 2) := by decide +kernel
theorem dX8_ends_25 : decode cX8_ends 25 = .ok (.iload_n 3, 1) := by decide +kernel
theorem dX8_ends_26 : decode cX8_ends 26 = .ok (.ireturn, 1) := by decide +kernel
theorem dX8_ends_27 : decode cX8_ends 27 = .ok (.iload_n 2, 1) := by decide +kernel
theorem dX8_ends_28 : decode cX8_ends 28 = .ok (.ireturn, 1) := by decide +kernel
theorem dX8_manyConstraints_0 : decode cX8_manyConstraints 0 = .ok (.iconst 0, 1) := by decide +kernel
theorem dX8_manyConstraints_1 : decode cX8_manyConstraints 1 = .ok (.istore_n 1, 1) := by decide +kernel
theorem dX8_manyConstraints_2 : decode cX8_manyConstraints 2 = .ok (.iconst 0, 1) := by decide +kernel
theorem dX8_manyConstraints_3 : decode cX8_manyConstraints 3 = .ok (.istore_n 2, 1) := by decide +kernel
theorem dX8_manyConstraints_4 : decode cX8_manyConstraints 4 = .ok (.iload_n 2, 1) := by decide +kernel
theorem dX8_manyConstraints_5 : decode cX8_manyConstraints 5 = .ok (.bipush 8, 2) := by decide +kernel
theorem dX8_manyConstraints_7 : decode cX8_manyConstraints 7 = .ok (.if_icmp .ge 26, 3) := by decide +kernel
theorem dX8_manyConstraints_10 : decode cX8_manyConstraints 10 = .ok (.iload_n 1, 1) := by decide +kernel
theorem dX8_manyConstraints_11 : decode cX8_manyConstraints 11 = .ok (.aload_n 0, 1) := by decide +kernel
theorem dX8_manyConstraints_12 : decode cX8_manyConstraints 12 = .ok (.getfield 17, 3) := by decide +kernel
theorem dX8_manyConstraints_15 : decode cX8_manyConstraints 15 = .ok (.iload_n 2, 1) := by decide +kernel
theorem dX8_manyConstraints_16 : decode cX8_manyConstraints 16 = .ok (.baload, 1) := by decide +kernel
theorem dX8_manyConstraints_17 : decode cX8_manyConstraints 17 = .ok (.ifCond .eq 7, 3) := by decide +kernel
theorem dX8_manyConstraints_20 : decode cX8_manyConstraints 20 = .ok (.iconst 1, 1) := by decide +kernel
theorem dX8_manyConstraints_21 : decode cX8_manyConstraints 21 = .ok (.goto 4, 3) := by decide +kernel
theorem dX8_manyConstraints_24 : decode cX8_manyConstraints 24 = .ok (.iconst 0, 1) := by decide +kernel
theorem dX8_manyConstraints_25 : decode cX8_manyConstraints 25 = .ok (.iadd, 1) := by decide +kernel
theorem dX8_manyConstraints_26 : decode cX8_manyConstraints 26 = .ok (.istore_n 1, 1) := by decide +kernel
theorem dX8_manyConstraints_27 : decode cX8_manyConstraints 27 = .ok (.iinc 2 1, 3) := by decide +kernel
theorem dX8_manyConstraints_30 : decode cX8_manyConstraints 30 = .ok (.goto (-26), 3) := by decide +kernel
theorem dX8_manyConstraints_33 : decode cX8_manyConstraints 33 = .ok (.iload_n 1, 1) := by decide +kernel
theorem dX8_manyConstraints_34 : decode cX8_manyConstraints 34 = .ok (.ireturn, 1) := by decide +kernel
set_option maxRecDepth 20000 in
theorem ggX8_define_X8_isTable : GoodIn wsX8_define wsX8_isTable := goodIn_r _ [9, 10, 11, 8, 12] (by decide +kernel) (by decide +kernel)
set_option maxRecDepth 20000 in
theorem gX8_define_X8_isTable : GoodIn wsX8_define (va_wsS RX8 81 yX8_isTable wsX8_isTable) := goodIn_app (goodIn_of _ (by decide +kernel)) ggX8_define_X8_isTable
set_option maxRecDepth 20000 in
theorem ggX8_define_X8_isColumn : GoodIn wsX8_define wsX8_isColumn := goodIn_r _ [15] (by decide +kernel) (by decide +kernel)
set_option maxRecDepth 20000 in
theorem gX8_define_X8_isColumn : GoodIn wsX8_define (va_wsS RX8 85 yX8_isColumn wsX8_isColumn) := goodIn_app (goodIn_of _ (by decide +kernel)) ggX8_define_X8_isColumn
set_option maxRecDepth 20000 in
theorem ggX8_define_X8_violations : GoodIn wsX8_define wsX8_violations := goodIn_r _ [19, 20, 21, 22, 23, 8, 24, 2, 25, 3, 26, 27, 28, 38, 39, 40, 41, 42, 43, 44, 45, 46, 47, 48, 49, 50, 51, 52, 53, 54, 55, 56, 57] (by decide +kernel) (by decide +kernel)
set_option maxRecDepth 20000 in
theorem gX8_define_X8_violations : GoodIn wsX8_define (wsV RX8 60 RX8 yX8_violations wsX8_violations) := goodIn_app (goodIn_of _ (by decide +kernel)) ggX8_define_X8_violations
set_option maxRecDepth 20000 in
theorem ggX8_define_X8_in : GoodIn wsX8_define wsX8_in := goodIn_r _ [12] (by decide +kernel) (by decide +kernel)
set_option maxRecDepth 20000 in
theorem gX8_define_X8_in : GoodIn wsX8_define (va_wsS RX8 49 yX8_in wsX8_in) := goodIn_app (goodIn_of _ (by decide +kernel)) ggX8_define_X8_in
set_option maxRecDepth 20000 in
theorem ggX8_define_X8_goes : GoodIn wsX8_define wsX8_goes := goodIn_r _ [32, 33, 38, 39, 40, 41, 42, 43, 44, 45, 46, 47, 48, 49, 50, 51, 52, 53, 54, 55, 56, 57] (by decide +kernel) (by decide +kernel)
set_option maxRecDepth 20000 in
theorem gX8_define_X8_goes : GoodIn wsX8_define (wsV RX8 88 RX8 yX8_goes wsX8_goes) := goodIn_app (goodIn_of _ (by decide +kernel)) ggX8_define_X8_goes
set_option maxRecDepth 20000 in
theorem ggX8_define_X8_manyConstraints : GoodIn wsX8_define wsX8_manyConstraints := goodIn_r _ [37, 2, 38, 39, 40, 41, 42, 43, 44, 45, 46, 47, 48, 49, 50, 51, 52, 53, 54, 55, 56, 57] (by decide +kernel) (by decide +kernel)
set_option maxRecDepth 20000 in
theorem gX8_define_X8_manyConstraints : GoodIn wsX8_define (wsV RX8 92 RX8 yX8_manyConstraints wsX8_manyConstraints) := goodIn_app (goodIn_of _ (by decide +kernel)) ggX8_define_X8_manyConstraints
theorem dX8_define_0 : decode cX8_define 0 = .ok (.iconst 2, 1) := by decide +kernel
theorem dX8_define_1 : decode cX8_define 1 = .ok (.iload_n 1, 1) := by decide +kernel
theorem dX8_define_2 : decode cX8_define 2 = .ok (.imul, 1) := by decide +kernel
theorem dX8_define_3 : decode cX8_define 3 = .ok (.iload_n 2, 1) := by decide +kernel
theorem dX8_define_4 : decode cX8_define 4 = .ok (.iadd, 1) := by decide +kernel
theorem dX8_define_5 : decode cX8_define 5 = .ok (.istore 6, 2) := by decide +kernel
theorem dX8_define_7 : decode cX8_define 7 = .ok (.iload_n 1, 1) := by decide +kernel
theorem dX8_define_8 : decode cX8_define 8 = .ok (.invokestatic 81, 3) := by decide +kernel
theorem dX8_define_11 : decode cX8_define 11 = .ok (.ifCond .eq 21, 3) := by decide +kernel
theorem dX8_define_14 : decode cX8_define 14 = .ok (.iload_n 2, 1) := by decide +kernel
theorem dX8_define_15 : decode cX8_define 15 = .ok (.invokestatic 85, 3) := by decide +kernel
theorem dX8_define_18 : decode cX8_define 18 = .ok (.ifCond .eq 14, 3) := by decide +kernel
theorem dX8_define_21 : decode cX8_define 21 = .ok (.iload_n 3, 1) := by decide +kernel
theorem dX8_define_22 : decode cX8_define 22 = .ok (.invokestatic 81, 3) := by decide +kernel
theorem dX8_define_25 : decode cX8_define 25 = .ok (.ifCond .eq 7, 3) := by decide +kernel
theorem dX8_define_28 : decode cX8_define 28 = .ok (.iconst 1, 1) := by decide +kernel
theorem dX8_define_29 : decode cX8_define 29 = .ok (.goto 4, 3) := by decide +kernel
theorem dX8_define_32 : decode cX8_define 32 = .ok (.iconst 0, 1) := by decide +kernel
theorem dX8_define_33 : decode cX8_define 33 = .ok (.istore 7, 2) := by decide +kernel
theorem dX8_define_35 : decode cX8_define 35 = .ok (.iload 7, 2) := by decide +kernel
theorem dX8_define_37 : decode cX8_define 37 = .ok (.ifCond .eq 24, 3) := by decide +kernel
theorem dX8_define_40 : decode cX8_define 40 = .ok (.aload_n 0, 1) := by decide +kernel
theorem dX8_define_41 : decode cX8_define 41 = .ok (.getfield 67, 3) := by decide +kernel
theorem dX8_define_44 : decode cX8_define 44 = .ok (.ifCond .ne 17, 3) := by decide +kernel
theorem dX8_define_47 : decode cX8_define 47 = .ok (.aload_n 0, 1) := by decide +kernel
theorem dX8_define_48 : decode cX8_define 48 = .ok (.getfield 17, 3) := by decide +kernel
theorem dX8_define_51 : decode cX8_define 51 = .ok (.iload 6, 2) := by decide +kernel
theorem dX8_define_53 : decode cX8_define 53 = .ok (.baload, 1) := by decide +kernel
theorem dX8_define_54 : decode cX8_define 54 = .ok (.ifCond .ne 7, 3) := by decide +kernel
theorem dX8_define_57 : decode cX8_define 57 = .ok (.iconst 1, 1) := by decide +kernel
theorem dX8_define_58 : decode cX8_define 58 = .ok (.goto 4, 3) := by decide +kernel
theorem dX8_define_61 : decode cX8_define 61 = .ok (.iconst 0, 1) := by decide +kernel
theorem dX8_define_62 : decode cX8_define 62 = .ok (.istore 8, 2) := by decide +kernel
theorem dX8_define_64 : decode cX8_define 64 = .ok (.iload 8, 2) := by decide +kernel
theorem dX8_define_66 : decode cX8_define 66 = .ok (.ifCond .eq 43, 3) := by decide +kernel
theorem dX8_define_69 : decode cX8_define 69 = .ok (.aload_n 0, 1) := by decide +kernel
theorem dX8_define_70 : decode cX8_define 70 = .ok (.getfield 17, 3) := by decide +kernel
theorem dX8_define_73 : decode cX8_define 73 = .ok (.iload 6, 2) := by decide +kernel
theorem dX8_define_75 : decode cX8_define 75 = .ok (.iconst 1, 1) := by decide +kernel
theorem dX8_define_76 : decode cX8_define 76 = .ok (.bastore, 1) := by decide +kernel
theorem dX8_define_77 : decode cX8_define 77 = .ok (.aload_n 0, 1) := by decide +kernel
theorem dX8_define_78 : decode cX8_define 78 = .ok (.getfield 20, 3) := by decide +kernel
theorem dX8_define_81 : decode cX8_define 81 = .ok (.iload 6, 2) := by decide +kernel
theorem dX8_define_83 : decode cX8_define 83 = .ok (.iload_n 3, 1) := by decide +kernel
theorem dX8_define_84 : decode cX8_define 84 = .ok (.iastore, 1) := by decide +kernel
theorem dX8_define_85 : decode cX8_define 85 = .ok (.aload_n 0, 1) := by decide +kernel
theorem dX8_define_86 : decode cX8_define 86 = .ok (.iload 6, 2) := by decide +kernel
theorem dX8_define_88 : decode cX8_define 88 = .ok (.invokevirtual 60, 3) := by decide +kernel
theorem dX8_define_91 : decode cX8_define 91 = .ok (.ifCond .ne 7, 3) := by decide +kernel
theorem dX8_define_94 : decode cX8_define 94 = .ok (.iconst 1, 1) := by decide +kernel
theorem dX8_define_95 : decode cX8_define 95 = .ok (.goto 4, 3) := by decide +kernel
theorem dX8_define_98 : decode cX8_define 98 = .ok (.iconst 0, 1) := by decide +kernel
theorem dX8_define_99 : decode cX8_define 99 = .ok (.istore 8, 2) := by decide +kernel
theorem dX8_define_101 : decode cX8_define 101 = .ok (.aload_n 0, 1) := by decide +kernel
theorem dX8_define_102 : decode cX8_define 102 = .ok (.getfield 17, 3) := by decide +kernel
theorem dX8_define_105 : decode cX8_define 105 = .ok (.iload 6, 2) := by decide +kernel
theorem dX8_define_107 : decode cX8_define 107 = .ok (.iconst 0, 1) := by decide +kernel
theorem dX8_define_108 : decode cX8_define 108 = .ok (.bastore, 1) := by decide +kernel
theorem dX8_define_109 : decode cX8_define 109 = .ok (.aload_n 0, 1) := by decide +kernel
theorem dX8_define_110 : decode cX8_define 110 = .ok (.iload 7, 2) := by decide +kernel
theorem dX8_define_112 : decode cX8_define 112 = .ok (.iload 4, 2) := by decide +kernel
theorem dX8_define_114 : decode cX8_define 114 = .ok (.iconst 0, 1) := by decide +kernel
theorem dX8_define_115 : decode cX8_define 115 = .ok (.iconst 3, 1) := by decide +kernel
theorem dX8_define_116 : decode cX8_define 116 = .ok (.invokestatic 49, 3) := by decide +kernel
theorem dX8_define_119 : decode cX8_define 119 = .ok (.iload 8, 2) := by decide +kernel
theorem dX8_define_121 : decode cX8_define 121 = .ok (.invokevirtual 88, 3) := by decide +kernel
theorem dX8_define_124 : decode cX8_define 124 = .ok (.ifCond .ne 5, 3) := by decide +kernel
theorem dX8_define_127 : decode cX8_define 127 = .ok (.iconst 0, 1) := by decide +kernel
theorem dX8_define_128 : decode cX8_define 128 = .ok (.ireturn, 1) := by decide +kernel
theorem dX8_define_129 : decode cX8_define 129 = .ok (.aload_n 0, 1) := by decide +kernel
theorem dX8_define_130 : decode cX8_define 130 = .ok (.getfield 17, 3) := by decide +kernel
theorem dX8_define_133 : decode cX8_define 133 = .ok (.iload 6, 2) := by decide +kernel
theorem dX8_define_135 : decode cX8_define 135 = .ok (.iconst 1, 1) := by decide +kernel
theorem dX8_define_136 : decode cX8_define 136 = .ok (.bastore, 1) := by decide +kernel
theorem dX8_define_137 : decode cX8_define 137 = .ok (.aload_n 0, 1) := by decide +kernel
theorem dX8_define_138 : decode cX8_define 138 = .ok (.getfield 23, 3) := by decide +kernel
theorem dX8_define_141 : decode cX8_define 141 = .ok (.iload 6, 2) := by decide +kernel
theorem dX8_define_143 : decode cX8_define 143 = .ok (.iload 4, 2) := by decide +kernel
theorem dX8_define_145 : decode cX8_define 145 = .ok (.iastore, 1) := by decide +kernel
theorem dX8_define_146 : decode cX8_define 146 = .ok (.aload_n 0, 1) := by decide +kernel
theorem dX8_define_147 : decode cX8_define 147 = .ok (.getfield 26, 3) := by decide +kernel
theorem dX8_define_150 : decode cX8_define 150 = .ok (.iload 6, 2) := by decide +kernel
theorem dX8_define_152 : decode cX8_define 152 = .ok (.iload 5, 2) := by decide +kernel
theorem dX8_define_154 : decode cX8_define 154 = .ok (.bastore, 1) := by decide +kernel
theorem dX8_define_155 : decode cX8_define 155 = .ok (.aload_n 0, 1) := by decide +kernel
theorem dX8_define_156 : decode cX8_define 156 = .ok (.invokevirtual 92, 3) := by decide +kernel
theorem dX8_define_159 : decode cX8_define 159 = .ok (.ireturn, 1) := by decide +kernel
set_option maxRecDepth 20000 in
theorem ggX8_has_X8_isTable : GoodIn wsX8_has wsX8_isTable := goodIn_r _ [5, 6, 7, 4, 8] (by decide +kernel) (by decide +kernel)
set_option maxRecDepth 20000 in
theorem gX8_has_X8_isTable : GoodIn wsX8_has (va_wsS RX8 81 yX8_isTable wsX8_isTable) := goodIn_app (goodIn_of _ (by decide +kernel)) ggX8_has_X8_isTable
set_option maxRecDepth 20000 in
theorem ggX8_has_X8_isColumn : GoodIn wsX8_has wsX8_isColumn := goodIn_r _ [11] (by decide +kernel) (by decide +kernel)
set_option maxRecDepth 20000 in
theorem gX8_has_X8_isColumn : GoodIn wsX8_has (va_wsS RX8 85 yX8_isColumn wsX8_isColumn) := goodIn_app (goodIn_of _ (by decide +kernel)) ggX8_has_X8_isColumn
theorem dX8_has_0 : decode cX8_has 0 = .ok (.iload_n 1, 1) := by decide +kernel
theorem dX8_has_1 : decode cX8_has 1 = .ok (.invokestatic 81, 3) := by decide +kernel
theorem dX8_has_4 : decode cX8_has 4 = .ok (.ifCond .eq 27, 3) := by decide +kernel
theorem dX8_has_7 : decode cX8_has 7 = .ok (.iload_n 2, 1) := by decide +kernel
theorem dX8_has_8 : decode cX8_has 8 = .ok (.invokestatic 85, 3) := by decide +kernel
theorem dX8_has_11 : decode cX8_has 11 = .ok (.ifCond .eq 20, 3) := by decide +kernel
theorem dX8_has_14 : decode cX8_has 14 = .ok (.aload_n 0, 1) := by decide +kernel
theorem dX8_has_15 : decode cX8_has 15 = .ok (.getfield 17, 3) := by decide +kernel
theorem dX8_has_18 : decode cX8_has 18 = .ok (.iconst 2, 1) := by decide +kernel
theorem dX8_has_19 : decode cX8_has 19 = .ok (.iload_n 1, 1) := by decide +kernel
theorem dX8_has_20 : decode cX8_has 20 = .ok (.imul, 1) := by decide +kernel
theorem dX8_has_21 : decode cX8_has 21 = .ok (.iload_n 2, 1) := by decide +kernel
theorem dX8_has_22 : decode cX8_has 22 = .ok (.iadd, 1) := by decide +kernel
theorem dX8_has_23 : decode cX8_has 23 = .ok (.baload, 1) := by decide +kernel
theorem dX8_has_24 : decode cX8_has 24 = .ok (.ifCond .eq 7, 3) := by decide +kernel
theorem dX8_has_27 : decode cX8_has 27 = .ok (.iconst 1, 1) := by decide +kernel
theorem dX8_has_28 : decode cX8_has 28 = .ok (.goto 4, 3) := by decide +kernel
theorem dX8_has_31 : decode cX8_has 31 = .ok (.iconst 0, 1) := by decide +kernel
theorem dX8_has_32 : decode cX8_has 32 = .ok (.ireturn, 1) := by decide +kernel
set_option maxRecDepth 20000 in
theorem ggX8_drop_X8_isTable : GoodIn wsX8_drop wsX8_isTable := goodIn_r _ [6, 7, 8, 5, 9] (by decide +kernel) (by decide +kernel)
set_option maxRecDepth 20000 in
theorem gX8_drop_X8_isTable : GoodIn wsX8_drop (va_wsS RX8 81 yX8_isTable wsX8_isTable) := goodIn_app (goodIn_of _ (by decide +kernel)) ggX8_drop_X8_isTable
set_option maxRecDepth 20000 in
theorem ggX8_drop_X8_isColumn : GoodIn wsX8_drop wsX8_isColumn := goodIn_r _ [12] (by decide +kernel) (by decide +kernel)
set_option maxRecDepth 20000 in
theorem gX8_drop_X8_isColumn : GoodIn wsX8_drop (va_wsS RX8 85 yX8_isColumn wsX8_isColumn) := goodIn_app (goodIn_of _ (by decide +kernel)) ggX8_drop_X8_isColumn
set_option maxRecDepth 20000 in
theorem ggX8_drop_X8_has : GoodIn wsX8_drop wsX8_has := goodIn_r _ [16, 2, 3, 4, 5, 6, 7, 8, 9, 10, 11, 12, 26, 27, 28, 29, 30, 31, 32, 33, 34, 35, 36, 37, 38, 39, 40, 41, 42, 43, 44, 45] (by decide +kernel) (by decide +kernel)
set_option maxRecDepth 20000 in
theorem gX8_drop_X8_has : GoodIn wsX8_drop (wsV RX8 96 RX8 yX8_has wsX8_has) := goodIn_app (goodIn_of _ (by decide +kernel)) ggX8_drop_X8_has
set_option maxRecDepth 20000 in
theorem ggX8_drop_X8_goes : GoodIn wsX8_drop wsX8_goes := goodIn_r _ [20, 21, 26, 27, 28, 29, 30, 31, 32, 33, 34, 35, 36, 37, 38, 39, 40, 41, 42, 43, 44, 45] (by decide +kernel) (by decide +kernel)
set_option maxRecDepth 20000 in
theorem gX8_drop_X8_goes : GoodIn wsX8_drop (wsV RX8 88 RX8 yX8_goes wsX8_goes) := goodIn_app (goodIn_of _ (by decide +kernel)) ggX8_drop_X8_goes
set_option maxRecDepth 20000 in
theorem ggX8_drop_X8_manyConstraints : GoodIn wsX8_drop wsX8_manyConstraints := goodIn_r _ [25, 2, 26, 27, 28, 29, 30, 31, 32, 33, 34, 35, 36, 37, 38, 39, 40, 41, 42, 43, 44, 45] (by decide +kernel) (by decide +kernel)
set_option maxRecDepth 20000 in
theorem gX8_drop_X8_manyConstraints : GoodIn wsX8_drop (wsV RX8 92 RX8 yX8_manyConstraints wsX8_manyConstraints) := goodIn_app (goodIn_of _ (by decide +kernel)) ggX8_drop_X8_manyConstraints
theorem dX8_drop_0 : decode cX8_drop 0 = .ok (.aload_n 0, 1) := by decide +kernel
theorem dX8_drop_1 : decode cX8_drop 1 = .ok (.iload_n 1, 1) := by decide +kernel
theorem dX8_drop_2 : decode cX8_drop 2 = .ok (.invokestatic 81, 3) := by decide +kernel
theorem dX8_drop_5 : decode cX8_drop 5 = .ok (.ifCond .eq 14, 3) := by decide +kernel
theorem dX8_drop_8 : decode cX8_drop 8 = .ok (.iload_n 2, 1) := by decide +kernel
theorem dX8_drop_9 : decode cX8_drop 9 = .ok (.invokestatic 85, 3) := by decide +kernel
theorem dX8_drop_12 : decode cX8_drop 12 = .ok (.ifCond .eq 7, 3) := by decide +kernel
theorem dX8_drop_15 : decode cX8_drop 15 = .ok (.iconst 1, 1) := by decide +kernel
theorem dX8_drop_16 : decode cX8_drop 16 = .ok (.goto 4, 3) := by decide +kernel
theorem dX8_drop_19 : decode cX8_drop 19 = .ok (.iconst 0, 1) := by decide +kernel
theorem dX8_drop_20 : decode cX8_drop 20 = .ok (.aload_n 0, 1) := by decide +kernel
theorem dX8_drop_21 : decode cX8_drop 21 = .ok (.getfield 67, 3) := by decide +kernel
theorem dX8_drop_24 : decode cX8_drop 24 = .ok (.ifCond .ne 16, 3) := by decide +kernel
theorem dX8_drop_27 : decode cX8_drop 27 = .ok (.aload_n 0, 1) := by decide +kernel
theorem dX8_drop_28 : decode cX8_drop 28 = .ok (.iload_n 1, 1) := by decide +kernel
theorem dX8_drop_29 : decode cX8_drop 29 = .ok (.iload_n 2, 1) := by decide +kernel
theorem dX8_drop_30 : decode cX8_drop 30 = .ok (.invokevirtual 96, 3) := by decide +kernel
theorem dX8_drop_33 : decode cX8_drop 33 = .ok (.ifCond .eq 7, 3) := by decide +kernel
theorem dX8_drop_36 : decode cX8_drop 36 = .ok (.iconst 1, 1) := by decide +kernel
theorem dX8_drop_37 : decode cX8_drop 37 = .ok (.goto 4, 3) := by decide +kernel
theorem dX8_drop_40 : decode cX8_drop 40 = .ok (.iconst 0, 1) := by decide +kernel
theorem dX8_drop_41 : decode cX8_drop 41 = .ok (.iconst 1, 1) := by decide +kernel
theorem dX8_drop_42 : decode cX8_drop 42 = .ok (.invokevirtual 88, 3) := by decide +kernel
theorem dX8_drop_45 : decode cX8_drop 45 = .ok (.ifCond .ne 5, 3) := by decide +kernel
theorem dX8_drop_48 : decode cX8_drop 48 = .ok (.iconst 0, 1) := by decide +kernel
theorem dX8_drop_49 : decode cX8_drop 49 = .ok (.ireturn, 1) := by decide +kernel
theorem dX8_drop_50 : decode cX8_drop 50 = .ok (.aload_n 0, 1) := by decide +kernel
theorem dX8_drop_51 : decode cX8_drop 51 = .ok (.getfield 17, 3) := by decide +kernel
theorem dX8_drop_54 : decode cX8_drop 54 = .ok (.iconst 2, 1) := by decide +kernel
theorem dX8_drop_55 : decode cX8_drop 55 = .ok (.iload_n 1, 1) := by decide +kernel
theorem dX8_drop_56 : decode cX8_drop 56 = .ok (.imul, 1) := by decide +kernel
theorem dX8_drop_57 : decode cX8_drop 57 = .ok (.iload_n 2, 1) := by decide +kernel
theorem dX8_drop_58 : decode cX8_drop 58 = .ok (.iadd, 1) := by decide +kernel
theorem dX8_drop_59 : decode cX8_drop 59 = .ok (.iconst 0, 1) := by decide +kernel
theorem dX8_drop_60 : decode cX8_drop 60 = .ok (.bastore, 1) := by decide +kernel
theorem dX8_drop_61 : decode cX8_drop 61 = .ok (.aload_n 0, 1) := by decide +kernel
theorem dX8_drop_62 : decode cX8_drop 62 = .ok (.invokevirtual 92, 3) := by decide +kernel
theorem dX8_drop_65 : decode cX8_drop 65 = .ok (.ireturn, 1) := by decide +kernel
set_option maxRecDepth 20000 in
theorem ggX8_setMode_X8_isTable : GoodIn wsX8_setMode wsX8_isTable := goodIn_r _ [5, 6, 7, 4, 8] (by decide +kernel) (by decide +kernel)
set_option maxRecDepth 20000 in
theorem gX8_setMode_X8_isTable : GoodIn wsX8_setMode (va_wsS RX8 81 yX8_isTable wsX8_isTable) := goodIn_app (goodIn_of _ (by decide +kernel)) ggX8_setMode_X8_isTable
set_option maxRecDepth 20000 in
theorem ggX8_setMode_X8_isColumn : GoodIn wsX8_setMode wsX8_isColumn := goodIn_r _ [11] (by decide +kernel) (by decide +kernel)
set_option maxRecDepth 20000 in
theorem gX8_setMode_X8_isColumn : GoodIn wsX8_setMode (va_wsS RX8 85 yX8_isColumn wsX8_isColumn) := goodIn_app (goodIn_of _ (by decide +kernel)) ggX8_setMode_X8_isColumn
set_option maxRecDepth 20000 in
theorem ggX8_setMode_X8_has : GoodIn wsX8_setMode wsX8_has := goodIn_r _ [15, 16, 2, 3, 4, 5, 6, 7, 8, 9, 10, 11, 39, 40, 41, 42, 43, 44, 45, 46, 47, 48, 49, 50, 51, 52, 53, 54, 55, 56, 57, 58] (by decide +kernel) (by decide +kernel)
set_option maxRecDepth 20000 in
theorem gX8_setMode_X8_has : GoodIn wsX8_setMode (wsV RX8 96 RX8 yX8_has wsX8_has) := goodIn_app (goodIn_of _ (by decide +kernel)) ggX8_setMode_X8_has
set_option maxRecDepth 20000 in
theorem ggX8_setMode_X8_goes : GoodIn wsX8_setMode wsX8_goes := goodIn_r _ [20, 21, 39, 40, 41, 42, 43, 44, 45, 46, 47, 48, 49, 50, 51, 52, 53, 54, 55, 56, 57, 58] (by decide +kernel) (by decide +kernel)
set_option maxRecDepth 20000 in
theorem gX8_setMode_X8_goes : GoodIn wsX8_setMode (wsV RX8 88 RX8 yX8_goes wsX8_goes) := goodIn_app (goodIn_of _ (by decide +kernel)) ggX8_setMode_X8_goes
set_option maxRecDepth 20000 in
theorem ggX8_setMode_X8_violations : GoodIn wsX8_setMode wsX8_violations := goodIn_r _ [25, 26, 27, 28, 29, 4, 30, 16, 31, 32, 33, 34, 35, 39, 40, 41, 42, 43, 44, 45, 46, 47, 48, 49, 50, 51, 52, 53, 54, 55, 56, 57, 58] (by decide +kernel) (by decide +kernel)
set_option maxRecDepth 20000 in
theorem gX8_setMode_X8_violations : GoodIn wsX8_setMode (wsV RX8 60 RX8 yX8_violations wsX8_violations) := goodIn_app (goodIn_of _ (by decide +kernel)) ggX8_setMode_X8_violations
set_option maxRecDepth 20000 in
theorem ggX8_setMode_X8_code : GoodIn wsX8_setMode wsX8_code := goodIn_r _ [38] (by decide +kernel) (by decide +kernel)
set_option maxRecDepth 20000 in
theorem gX8_setMode_X8_code : GoodIn wsX8_setMode (va_wsS RX8 64 yX8_code wsX8_code) := goodIn_app (goodIn_of _ (by decide +kernel)) ggX8_setMode_X8_code
theorem dX8_setMode_0 : decode cX8_setMode 0 = .ok (.aload_n 0, 1) := by decide +kernel
theorem dX8_setMode_1 : decode cX8_setMode 1 = .ok (.iload_n 1, 1) := by decide +kernel
theorem dX8_setMode_2 : decode cX8_setMode 2 = .ok (.invokestatic 81, 3) := by decide +kernel
theorem dX8_setMode_5 : decode cX8_setMode 5 = .ok (.ifCond .eq 14, 3) := by decide +kernel
theorem dX8_setMode_8 : decode cX8_setMode 8 = .ok (.iload_n 2, 1) := by decide +kernel
theorem dX8_setMode_9 : decode cX8_setMode 9 = .ok (.invokestatic 85, 3) := by decide +kernel
theorem dX8_setMode_12 : decode cX8_setMode 12 = .ok (.ifCond .eq 7, 3) := by decide +kernel
theorem dX8_setMode_15 : decode cX8_setMode 15 = .ok (.iconst 1, 1) := by decide +kernel
theorem dX8_setMode_16 : decode cX8_setMode 16 = .ok (.goto 4, 3) := by decide +kernel
theorem dX8_setMode_19 : decode cX8_setMode 19 = .ok (.iconst 0, 1) := by decide +kernel
theorem dX8_setMode_20 : decode cX8_setMode 20 = .ok (.aload_n 0, 1) := by decide +kernel
theorem dX8_setMode_21 : decode cX8_setMode 21 = .ok (.iload_n 1, 1) := by decide +kernel
theorem dX8_setMode_22 : decode cX8_setMode 22 = .ok (.iload_n 2, 1) := by decide +kernel
theorem dX8_setMode_23 : decode cX8_setMode 23 = .ok (.invokevirtual 96, 3) := by decide +kernel
theorem dX8_setMode_26 : decode cX8_setMode 26 = .ok (.iconst 1, 1) := by decide +kernel
theorem dX8_setMode_27 : decode cX8_setMode 27 = .ok (.invokevirtual 88, 3) := by decide +kernel
theorem dX8_setMode_30 : decode cX8_setMode 30 = .ok (.ifCond .ne 5, 3) := by decide +kernel
theorem dX8_setMode_33 : decode cX8_setMode 33 = .ok (.iconst 0, 1) := by decide +kernel
theorem dX8_setMode_34 : decode cX8_setMode 34 = .ok (.ireturn, 1) := by decide +kernel
theorem dX8_setMode_35 : decode cX8_setMode 35 = .ok (.iconst 2, 1) := by decide +kernel
theorem dX8_setMode_36 : decode cX8_setMode 36 = .ok (.iload_n 1, 1) := by decide +kernel
theorem dX8_setMode_37 : decode cX8_setMode 37 = .ok (.imul, 1) := by decide +kernel
theorem dX8_setMode_38 : decode cX8_setMode 38 = .ok (.iload_n 2, 1) := by decide +kernel
theorem dX8_setMode_39 : decode cX8_setMode 39 = .ok (.iadd, 1) := by decide +kernel
theorem dX8_setMode_40 : decode cX8_setMode 40 = .ok (.istore 4, 2) := by decide +kernel
theorem dX8_setMode_42 : decode cX8_setMode 42 = .ok (.aload_n 0, 1) := by decide +kernel
theorem dX8_setMode_43 : decode cX8_setMode 43 = .ok (.getfield 26, 3) := by decide +kernel
theorem dX8_setMode_46 : decode cX8_setMode 46 = .ok (.iload 4, 2) := by decide +kernel
theorem dX8_setMode_48 : decode cX8_setMode 48 = .ok (.baload, 1) := by decide +kernel
theorem dX8_setMode_49 : decode cX8_setMode 49 = .ok (.iload_n 3, 1) := by decide +kernel
theorem dX8_setMode_50 : decode cX8_setMode 50 = .ok (.if_icmp .ne 5, 3) := by decide +kernel
theorem dX8_setMode_53 : decode cX8_setMode 53 = .ok (.iconst 0, 1) := by decide +kernel
theorem dX8_setMode_54 : decode cX8_setMode 54 = .ok (.ireturn, 1) := by decide +kernel
theorem dX8_setMode_55 : decode cX8_setMode 55 = .ok (.iload_n 3, 1) := by decide +kernel
theorem dX8_setMode_56 : decode cX8_setMode 56 = .ok (.ifCond .ne 18, 3) := by decide +kernel
theorem dX8_setMode_59 : decode cX8_setMode 59 = .ok (.aload_n 0, 1) := by decide +kernel
theorem dX8_setMode_60 : decode cX8_setMode 60 = .ok (.iload 4, 2) := by decide +kernel
theorem dX8_setMode_62 : decode cX8_setMode 62 = .ok (.invokevirtual 60, 3) := by decide +kernel
theorem dX8_setMode_65 : decode cX8_setMode 65 = .ok (.ifCond .le 9, 3) := by decide +kernel
theorem dX8_setMode_68 : decode cX8_setMode 68 = .ok (.iload 4, 2) := by decide +kernel
theorem dX8_setMode_70 : decode cX8_setMode 70 = .ok (.invokestatic 64, 3) := by decide +kernel
theorem dX8_setMode_73 : decode cX8_setMode 73 = .ok (.ireturn, 1) := by decide +kernel
theorem dX8_setMode_74 : decode cX8_setMode 74 = .ok (.aload_n 0, 1) := by decide +kernel
theorem dX8_setMode_75 : decode cX8_setMode 75 = .ok (.getfield 26, 3) := by decide +kernel
theorem dX8_setMode_78 : decode cX8_setMode 78 = .ok (.iload 4, 2) := by decide +kernel
theorem dX8_setMode_80 : decode cX8_setMode 80 = .ok (.iload_n 3, 1) := by decide +kernel
theorem dX8_setMode_81 : decode cX8_setMode 81 = .ok (.bastore, 1) := by decide +kernel
theorem dX8_setMode_82 : decode cX8_setMode 82 = .ok (.iconst 1, 1) := by decide +kernel
theorem dX8_setMode_83 : decode cX8_setMode 83 = .ok (.ireturn, 1) := by decide +kernel
set_option maxRecDepth 20000 in
theorem ggX8_inserts_X8_row : GoodIn wsX8_inserts wsX8_row := goodIn_r _ [5] (by decide +kernel) (by decide +kernel)
set_option maxRecDepth 20000 in
theorem gX8_inserts_X8_row : GoodIn wsX8_inserts (va_wsS RX8 53 yX8_row wsX8_row) := goodIn_app (goodIn_of _ (by decide +kernel)) ggX8_inserts_X8_row
set_option maxRecDepth 20000 in
theorem ggX8_inserts_X8_puts : GoodIn wsX8_inserts wsX8_puts := goodIn_r _ [9, 10, 11, 12, 13, 14, 4, 15, 16, 1, 43, 44, 45, 46, 47, 48, 49, 50, 51, 52, 53, 54, 55, 56, 57, 58, 59, 60, 61, 62] (by decide +kernel) (by decide +kernel)
set_option maxRecDepth 20000 in
theorem gX8_inserts_X8_puts : GoodIn wsX8_inserts (wsV RX8 100 RX8 yX8_puts wsX8_puts) := goodIn_app (goodIn_of _ (by decide +kernel)) ggX8_inserts_X8_puts
set_option maxRecDepth 20000 in
theorem ggX8_inserts_X8_ends : GoodIn wsX8_inserts wsX8_ends := goodIn_r _ [20, 21, 22, 23, 4, 24, 25, 26, 27, 28, 29, 10, 30, 31, 32, 33, 34, 11, 35, 2, 3, 5, 36, 37, 38, 39, 40, 41, 42, 1, 16, 43, 44, 45, 46, 47, 48, 49, 50, 51, 52, 53, 54, 55, 56, 57, 58, 59, 60, 61, 62] (by decide +kernel) (by decide +kernel)
set_option maxRecDepth 20000 in
theorem gX8_inserts_X8_ends : GoodIn wsX8_inserts (wsV RX8 103 RX8 yX8_ends wsX8_ends) := goodIn_app (goodIn_of _ (by decide +kernel)) ggX8_inserts_X8_ends
theorem dX8_inserts_0 : decode cX8_inserts 0 = .ok (.aload_n 0, 1) := by decide +kernel
theorem dX8_inserts_1 : decode cX8_inserts 1 = .ok (.getfield 67, 3) := by decide +kernel
theorem dX8_inserts_4 : decode cX8_inserts 4 = .ok (.istore 5, 2) := by decide +kernel
theorem dX8_inserts_6 : decode cX8_inserts 6 = .ok (.aload_n 0, 1) := by decide +kernel
theorem dX8_inserts_7 : decode cX8_inserts 7 = .ok (.iload_n 1, 1) := by decide +kernel
theorem dX8_inserts_8 : decode cX8_inserts 8 = .ok (.iload_n 2, 1) := by decide +kernel
theorem dX8_inserts_9 : decode cX8_inserts 9 = .ok (.invokestatic 53, 3) := by decide +kernel
theorem dX8_inserts_12 : decode cX8_inserts 12 = .ok (.iload_n 3, 1) := by decide +kernel
theorem dX8_inserts_13 : decode cX8_inserts 13 = .ok (.iload 4, 2) := by decide +kernel
theorem dX8_inserts_15 : decode cX8_inserts 15 = .ok (.invokevirtual 100, 3) := by decide +kernel
theorem dX8_inserts_18 : decode cX8_inserts 18 = .ok (.aload_n 0, 1) := by decide +kernel
theorem dX8_inserts_19 : decode cX8_inserts 19 = .ok (.iload 5, 2) := by decide +kernel
theorem dX8_inserts_21 : decode cX8_inserts 21 = .ok (.iconst 1, 1) := by decide +kernel
theorem dX8_inserts_22 : decode cX8_inserts 22 = .ok (.invokevirtual 103, 3) := by decide +kernel
theorem dX8_inserts_25 : decode cX8_inserts 25 = .ok (.ireturn, 1) := by decide +kernel
set_option maxRecDepth 20000 in
theorem ggX8_updates_X8_row : GoodIn wsX8_updates wsX8_row := goodIn_r _ [5] (by decide +kernel) (by decide +kernel)
set_option maxRecDepth 20000 in
theorem gX8_updates_X8_row : GoodIn wsX8_updates (va_wsS RX8 53 yX8_row wsX8_row) := goodIn_app (goodIn_of _ (by decide +kernel)) ggX8_updates_X8_row
set_option maxRecDepth 20000 in
theorem ggX8_updates_X8_sets : GoodIn wsX8_updates wsX8_sets := goodIn_r _ [9, 10, 11, 12, 13, 4, 14, 15, 1, 43, 44, 45, 46, 47, 48, 49, 50, 51, 52, 53, 54, 55, 56, 57, 58, 59, 60, 61, 62] (by decide +kernel) (by decide +kernel)
set_option maxRecDepth 20000 in
theorem gX8_updates_X8_sets : GoodIn wsX8_updates (wsV RX8 106 RX8 yX8_sets wsX8_sets) := goodIn_app (goodIn_of _ (by decide +kernel)) ggX8_updates_X8_sets
set_option maxRecDepth 20000 in
theorem ggX8_updates_X8_ends : GoodIn wsX8_updates wsX8_ends := goodIn_r _ [19, 20, 21, 22, 4, 23, 24, 25, 26, 27, 28, 29, 30, 31, 32, 33, 34, 10, 35, 2, 3, 5, 36, 37, 38, 39, 40, 41, 42, 1, 15, 43, 44, 45, 46, 47, 48, 49, 50, 51, 52, 53, 54, 55, 56, 57, 58, 59, 60, 61, 62] (by decide +kernel) (by decide +kernel)
set_option maxRecDepth 20000 in
theorem gX8_updates_X8_ends : GoodIn wsX8_updates (wsV RX8 103 RX8 yX8_ends wsX8_ends) := goodIn_app (goodIn_of _ (by decide +kernel)) ggX8_updates_X8_ends
theorem dX8_updates_0 : decode cX8_updates 0 = .ok (.aload_n 0, 1) := by decide +kernel
theorem dX8_updates_1 : decode cX8_updates 1 = .ok (.getfield 67, 3) := by decide +kernel
theorem dX8_updates_4 : decode cX8_updates 4 = .ok (.istore 5, 2) := by decide +kernel
theorem dX8_updates_6 : decode cX8_updates 6 = .ok (.aload_n 0, 1) := by decide +kernel
theorem dX8_updates_7 : decode cX8_updates 7 = .ok (.iload_n 1, 1) := by decide +kernel
theorem dX8_updates_8 : decode cX8_updates 8 = .ok (.iload_n 2, 1) := by decide +kernel
theorem dX8_updates_9 : decode cX8_updates 9 = .ok (.invokestatic 53, 3) := by decide +kernel
theorem dX8_updates_12 : decode cX8_updates 12 = .ok (.iload_n 3, 1) := by decide +kernel
theorem dX8_updates_13 : decode cX8_updates 13 = .ok (.iload 4, 2) := by decide +kernel
theorem dX8_updates_15 : decode cX8_updates 15 = .ok (.invokevirtual 106, 3) := by decide +kernel
theorem dX8_updates_18 : decode cX8_updates 18 = .ok (.aload_n 0, 1) := by decide +kernel
theorem dX8_updates_19 : decode cX8_updates 19 = .ok (.iload 5, 2) := by decide +kernel
theorem dX8_updates_21 : decode cX8_updates 21 = .ok (.iconst 1, 1) := by decide +kernel
theorem dX8_updates_22 : decode cX8_updates 22 = .ok (.invokevirtual 103, 3) := by decide +kernel
theorem dX8_updates_25 : decode cX8_updates 25 = .ok (.ireturn, 1) := by decide +kernel
set_option maxRecDepth 20000 in
theorem ggX8_goesAlong_X8_removes : GoodIn wsX8_goesAlong wsX8_removes := goodIn_r _ [7, 8, 9, 10, 11, 6, 12, 13, 14, 15, 36, 37, 38, 39, 40, 41, 42, 43, 44, 45, 46, 47, 48, 49, 50, 51, 52, 53, 54, 55] (by decide +kernel) (by decide +kernel)
set_option maxRecDepth 20000 in
theorem gX8_goesAlong_X8_removes : GoodIn wsX8_goesAlong (wsV RX8 109 RX8 yX8_removes wsX8_removes) := goodIn_app (goodIn_of _ (by decide +kernel)) ggX8_goesAlong_X8_removes
set_option maxRecDepth 20000 in
theorem ggX8_goesAlong_X8_row : GoodIn wsX8_goesAlong wsX8_row := goodIn_r _ [18] (by decide +kernel) (by decide +kernel)
set_option maxRecDepth 20000 in
theorem gX8_goesAlong_X8_row : GoodIn wsX8_goesAlong (va_wsS RX8 53 yX8_row wsX8_row) := goodIn_app (goodIn_of _ (by decide +kernel)) ggX8_goesAlong_X8_row
set_option maxRecDepth 20000 in
theorem ggX8_goesAlong_X8_target : GoodIn wsX8_goesAlong wsX8_target := goodIn_r _ [22, 8, 23, 15, 24, 16, 17, 6, 18, 36, 37, 38, 39, 40, 41, 42, 43, 44, 45, 46, 47, 48, 49, 50, 51, 52, 53, 54, 55] (by decide +kernel) (by decide +kernel)
set_option maxRecDepth 20000 in
theorem gX8_goesAlong_X8_target : GoodIn wsX8_goesAlong (wsV RX8 57 RX8 yX8_target wsX8_target) := goodIn_app (goodIn_of _ (by decide +kernel)) ggX8_goesAlong_X8_target
set_option maxRecDepth 20000 in
theorem ggX8_goesAlong_X8_code : GoodIn wsX8_goesAlong wsX8_code := goodIn_r _ [27] (by decide +kernel) (by decide +kernel)
set_option maxRecDepth 20000 in
theorem gX8_goesAlong_X8_code : GoodIn wsX8_goesAlong (va_wsS RX8 64 yX8_code wsX8_code) := goodIn_app (goodIn_of _ (by decide +kernel)) ggX8_goesAlong_X8_code
set_option maxRecDepth 20000 in
theorem ggX8_goesAlong_X8_queues : GoodIn wsX8_goesAlong wsX8_queues := goodIn_r _ [31, 1, 36, 37, 38, 39, 40, 41, 42, 43, 44, 45, 46, 47, 48, 49, 50, 51, 52, 53, 54, 55] (by decide +kernel) (by decide +kernel)
set_option maxRecDepth 20000 in
theorem gX8_goesAlong_X8_queues : GoodIn wsX8_goesAlong (wsV RX8 113 RX8 yX8_queues wsX8_queues) := goodIn_app (goodIn_of _ (by decide +kernel)) ggX8_goesAlong_X8_queues
set_option maxRecDepth 20000 in
theorem ggX8_goesAlong_X8_sets : GoodIn wsX8_goesAlong wsX8_sets := goodIn_r _ [35, 15, 9, 10, 11, 6, 12, 13, 14, 36, 37, 38, 39, 40, 41, 42, 43, 44, 45, 46, 47, 48, 49, 50, 51, 52, 53, 54, 55] (by decide +kernel) (by decide +kernel)
set_option maxRecDepth 20000 in
theorem gX8_goesAlong_X8_sets : GoodIn wsX8_goesAlong (wsV RX8 106 RX8 yX8_sets wsX8_sets) := goodIn_app (goodIn_of _ (by decide +kernel)) ggX8_goesAlong_X8_sets
theorem dX8_goesAlong_0 : decode cX8_goesAlong 0 = .ok (.iconst 0, 1) := by decide +kernel
theorem dX8_goesAlong_1 : decode cX8_goesAlong 1 = .ok (.istore_n 2, 1) := by decide +kernel
theorem dX8_goesAlong_2 : decode cX8_goesAlong 2 = .ok (.iconst 1, 1) := by decide +kernel
theorem dX8_goesAlong_3 : decode cX8_goesAlong 3 = .ok (.istore_n 3, 1) := by decide +kernel
theorem dX8_goesAlong_4 : decode cX8_goesAlong 4 = .ok (.aload_n 0, 1) := by decide +kernel
theorem dX8_goesAlong_5 : decode cX8_goesAlong 5 = .ok (.getfield 39, 3) := by decide +kernel
theorem dX8_goesAlong_8 : decode cX8_goesAlong 8 = .ok (.iconst 0, 1) := by decide +kernel
theorem dX8_goesAlong_9 : decode cX8_goesAlong 9 = .ok (.iload_n 1, 1) := by decide +kernel
theorem dX8_goesAlong_10 : decode cX8_goesAlong 10 = .ok (.iastore, 1) := by decide +kernel
theorem dX8_goesAlong_11 : decode cX8_goesAlong 11 = .ok (.iload_n 2, 1) := by decide +kernel
theorem dX8_goesAlong_12 : decode cX8_goesAlong 12 = .ok (.iload_n 3, 1) := by decide +kernel
theorem dX8_goesAlong_13 : decode cX8_goesAlong 13 = .ok (.if_icmp .ge 156, 3) := by decide +kernel
theorem dX8_goesAlong_16 : decode cX8_goesAlong 16 = .ok (.aload_n 0, 1) := by decide +kernel
theorem dX8_goesAlong_17 : decode cX8_goesAlong 17 = .ok (.getfield 39, 3) := by decide +kernel
theorem dX8_goesAlong_20 : decode cX8_goesAlong 20 = .ok (.iload_n 2, 1) := by decide +kernel
theorem dX8_goesAlong_21 : decode cX8_goesAlong 21 = .ok (.iaload, 1) := by decide +kernel
theorem dX8_goesAlong_22 : decode cX8_goesAlong 22 = .ok (.istore 4, 2) := by decide +kernel
theorem dX8_goesAlong_24 : decode cX8_goesAlong 24 = .ok (.iinc 2 1, 3) := by decide +kernel
theorem dX8_goesAlong_27 : decode cX8_goesAlong 27 = .ok (.aload_n 0, 1) := by decide +kernel
theorem dX8_goesAlong_28 : decode cX8_goesAlong 28 = .ok (.iload 4, 2) := by decide +kernel
theorem dX8_goesAlong_30 : decode cX8_goesAlong 30 = .ok (.invokevirtual 109, 3) := by decide +kernel
theorem dX8_goesAlong_33 : decode cX8_goesAlong 33 = .ok (.iconst 0, 1) := by decide +kernel
theorem dX8_goesAlong_34 : decode cX8_goesAlong 34 = .ok (.istore 5, 2) := by decide +kernel
theorem dX8_goesAlong_36 : decode cX8_goesAlong 36 = .ok (.iload 5, 2) := by decide +kernel
theorem dX8_goesAlong_38 : decode cX8_goesAlong 38 = .ok (.bipush 8, 2) := by decide +kernel
theorem dX8_goesAlong_40 : decode cX8_goesAlong 40 = .ok (.if_icmp .ge 126, 3) := by decide +kernel
theorem dX8_goesAlong_43 : decode cX8_goesAlong 43 = .ok (.iload 5, 2) := by decide +kernel
theorem dX8_goesAlong_45 : decode cX8_goesAlong 45 = .ok (.iconst 2, 1) := by decide +kernel
theorem dX8_goesAlong_46 : decode cX8_goesAlong 46 = .ok (.idiv, 1) := by decide +kernel
theorem dX8_goesAlong_47 : decode cX8_goesAlong 47 = .ok (.iconst 0, 1) := by decide +kernel
theorem dX8_goesAlong_48 : decode cX8_goesAlong 48 = .ok (.invokestatic 53, 3) := by decide +kernel
theorem dX8_goesAlong_51 : decode cX8_goesAlong 51 = .ok (.istore 6, 2) := by decide +kernel
theorem dX8_goesAlong_53 : decode cX8_goesAlong 53 = .ok (.iload 6, 2) := by decide +kernel
theorem dX8_goesAlong_55 : decode cX8_goesAlong 55 = .ok (.iload 5, 2) := by decide +kernel
theorem dX8_goesAlong_57 : decode cX8_goesAlong 57 = .ok (.iconst 2, 1) := by decide +kernel
theorem dX8_goesAlong_58 : decode cX8_goesAlong 58 = .ok (.idiv, 1) := by decide +kernel
theorem dX8_goesAlong_59 : decode cX8_goesAlong 59 = .ok (.iconst 1, 1) := by decide +kernel
theorem dX8_goesAlong_60 : decode cX8_goesAlong 60 = .ok (.iadd, 1) := by decide +kernel
theorem dX8_goesAlong_61 : decode cX8_goesAlong 61 = .ok (.iconst 0, 1) := by decide +kernel
theorem dX8_goesAlong_62 : decode cX8_goesAlong 62 = .ok (.invokestatic 53, 3) := by decide +kernel
theorem dX8_goesAlong_65 : decode cX8_goesAlong 65 = .ok (.if_icmp .ge 95, 3) := by decide +kernel
theorem dX8_goesAlong_68 : decode cX8_goesAlong 68 = .ok (.aload_n 0, 1) := by decide +kernel
theorem dX8_goesAlong_69 : decode cX8_goesAlong 69 = .ok (.iload 6, 2) := by decide +kernel
theorem dX8_goesAlong_71 : decode cX8_goesAlong 71 = .ok (.iload 5, 2) := by decide +kernel
theorem dX8_goesAlong_73 : decode cX8_goesAlong 73 = .ok (.invokevirtual 57, 3) := by decide +kernel
theorem dX8_goesAlong_76 : decode cX8_goesAlong 76 = .ok (.iload 4, 2) := by decide +kernel
theorem dX8_goesAlong_78 : decode cX8_goesAlong 78 = .ok (.if_icmp .eq 6, 3) := by decide +kernel
theorem dX8_goesAlong_81 : decode cX8_goesAlong 81 = .ok (.goto 73, 3) := by decide +kernel
theorem dX8_goesAlong_84 : decode cX8_goesAlong 84 = .ok (.aload_n 0, 1) := by decide +kernel
theorem dX8_goesAlong_85 : decode cX8_goesAlong 85 = .ok (.getfield 23, 3) := by decide +kernel
theorem dX8_goesAlong_88 : decode cX8_goesAlong 88 = .ok (.iload 5, 2) := by decide +kernel
theorem dX8_goesAlong_90 : decode cX8_goesAlong 90 = .ok (.iaload, 1) := by decide +kernel
theorem dX8_goesAlong_91 : decode cX8_goesAlong 91 = .ok (.tableswitch 63 0 3 #[29, 63, 35, 49], 29) := by decide +kernel
theorem dX8_goesAlong_120 : decode cX8_goesAlong 120 = .ok (.iload 5, 2) := by decide +kernel
theorem dX8_goesAlong_122 : decode cX8_goesAlong 122 = .ok (.invokestatic 64, 3) := by decide +kernel
theorem dX8_goesAlong_125 : decode cX8_goesAlong 125 = .ok (.ireturn, 1) := by decide +kernel
theorem dX8_goesAlong_126 : decode cX8_goesAlong 126 = .ok (.iload_n 3, 1) := by decide +kernel
theorem dX8_goesAlong_127 : decode cX8_goesAlong 127 = .ok (.aload_n 0, 1) := by decide +kernel
theorem dX8_goesAlong_128 : decode cX8_goesAlong 128 = .ok (.iload 6, 2) := by decide +kernel
theorem dX8_goesAlong_130 : decode cX8_goesAlong 130 = .ok (.iload_n 2, 1) := by decide +kernel
theorem dX8_goesAlong_131 : decode cX8_goesAlong 131 = .ok (.iload_n 3, 1) := by decide +kernel
theorem dX8_goesAlong_132 : decode cX8_goesAlong 132 = .ok (.invokevirtual 113, 3) := by decide +kernel
theorem dX8_goesAlong_135 : decode cX8_goesAlong 135 = .ok (.iadd, 1) := by decide +kernel
theorem dX8_goesAlong_136 : decode cX8_goesAlong 136 = .ok (.istore_n 3, 1) := by decide +kernel
theorem dX8_goesAlong_137 : decode cX8_goesAlong 137 = .ok (.goto 17, 3) := by decide +kernel
theorem dX8_goesAlong_140 : decode cX8_goesAlong 140 = .ok (.aload_n 0, 1) := by decide +kernel
theorem dX8_goesAlong_141 : decode cX8_goesAlong 141 = .ok (.iload 6, 2) := by decide +kernel
theorem dX8_goesAlong_143 : decode cX8_goesAlong 143 = .ok (.iload 5, 2) := by decide +kernel
theorem dX8_goesAlong_145 : decode cX8_goesAlong 145 = .ok (.iconst 2, 1) := by decide +kernel
theorem dX8_goesAlong_146 : decode cX8_goesAlong 146 = .ok (.irem, 1) := by decide +kernel
theorem dX8_goesAlong_147 : decode cX8_goesAlong 147 = .ok (.iconst (-1), 1) := by decide +kernel
theorem dX8_goesAlong_148 : decode cX8_goesAlong 148 = .ok (.invokevirtual 106, 3) := by decide +kernel
theorem dX8_goesAlong_151 : decode cX8_goesAlong 151 = .ok (.goto 3, 3) := by decide +kernel
theorem dX8_goesAlong_154 : decode cX8_goesAlong 154 = .ok (.iinc 6 1, 3) := by decide +kernel
theorem dX8_goesAlong_157 : decode cX8_goesAlong 157 = .ok (.goto (-104), 3) := by decide +kernel
theorem dX8_goesAlong_160 : decode cX8_goesAlong 160 = .ok (.iinc 5 1, 3) := by decide +kernel
theorem dX8_goesAlong_163 : decode cX8_goesAlong 163 = .ok (.goto (-127), 3) := by decide +kernel
theorem dX8_goesAlong_166 : decode cX8_goesAlong 166 = .ok (.goto (-155), 3) := by decide +kernel
theorem dX8_goesAlong_169 : decode cX8_goesAlong 169 = .ok (.iload_n 2, 1) := by decide +kernel
theorem dX8_goesAlong_170 : decode cX8_goesAlong 170 = .ok (.ireturn, 1) := by decide +kernel
theorem dX8_queues_0 : decode cX8_queues 0 = .ok (.iload_n 2, 1) := by decide +kernel
theorem dX8_queues_1 : decode cX8_queues 1 = .ok (.istore 4, 2) := by decide +kernel
theorem dX8_queues_3 : decode cX8_queues 3 = .ok (.iload 4, 2) := by decide +kernel
theorem dX8_queues_5 : decode cX8_queues 5 = .ok (.iload_n 3, 1) := by decide +kernel
theorem dX8_queues_6 : decode cX8_queues 6 = .ok (.if_icmp .ge 22, 3) := by decide +kernel
theorem dX8_queues_9 : decode cX8_queues 9 = .ok (.aload_n 0, 1) := by decide +kernel
theorem dX8_queues_10 : decode cX8_queues 10 = .ok (.getfield 39, 3) := by decide +kernel
theorem dX8_queues_13 : decode cX8_queues 13 = .ok (.iload 4, 2) := by decide +kernel
theorem dX8_queues_15 : decode cX8_queues 15 = .ok (.iaload, 1) := by decide +kernel
theorem dX8_queues_16 : decode cX8_queues 16 = .ok (.iload_n 1, 1) := by decide +kernel
theorem dX8_queues_17 : decode cX8_queues 17 = .ok (.if_icmp .ne 5, 3) := by decide +kernel
theorem dX8_queues_20 : decode cX8_queues 20 = .ok (.iconst 0, 1) := by decide +kernel
theorem dX8_queues_21 : decode cX8_queues 21 = .ok (.ireturn, 1) := by decide +kernel
theorem dX8_queues_22 : decode cX8_queues 22 = .ok (.iinc 4 1, 3) := by decide +kernel
theorem dX8_queues_25 : decode cX8_queues 25 = .ok (.goto (-22), 3) := by decide +kernel
theorem dX8_queues_28 : decode cX8_queues 28 = .ok (.aload_n 0, 1) := by decide +kernel
theorem dX8_queues_29 : decode cX8_queues 29 = .ok (.getfield 39, 3) := by decide +kernel
theorem dX8_queues_32 : decode cX8_queues 32 = .ok (.iload_n 3, 1) := by decide +kernel
theorem dX8_queues_33 : decode cX8_queues 33 = .ok (.iload_n 1, 1) := by decide +kernel
theorem dX8_queues_34 : decode cX8_queues 34 = .ok (.iastore, 1) := by decide +kernel
theorem dX8_queues_35 : decode cX8_queues 35 = .ok (.iconst 1, 1) := by decide +kernel
theorem dX8_queues_36 : decode cX8_queues 36 = .ok (.ireturn, 1) := by decide +kernel
set_option maxRecDepth 20000 in
theorem ggX8_deletes_X8_row : GoodIn wsX8_deletes wsX8_row := goodIn_r _ [5] (by decide +kernel) (by decide +kernel)
set_option maxRecDepth 20000 in
theorem gX8_deletes_X8_row : GoodIn wsX8_deletes (va_wsS RX8 53 yX8_row wsX8_row) := goodIn_app (goodIn_of _ (by decide +kernel)) ggX8_deletes_X8_row
set_option maxRecDepth 20000 in
theorem ggX8_deletes_X8_goesAlong : GoodIn wsX8_deletes wsX8_goesAlong := goodIn_r _ [9, 10, 11, 12, 13, 14, 4, 15, 16, 17, 18, 19, 20, 21, 1, 22, 2, 3, 5, 23, 24, 25, 26, 27, 28, 29, 30, 31, 32, 33, 34, 35, 36, 37, 38, 39, 57, 58, 59, 60, 61, 62, 63, 64, 65, 66, 67, 68, 69, 70, 71, 72, 73, 74, 75, 76] (by decide +kernel) (by decide +kernel)
set_option maxRecDepth 20000 in
theorem gX8_deletes_X8_goesAlong : GoodIn wsX8_deletes (wsV RX8 117 RX8 yX8_goesAlong wsX8_goesAlong) := goodIn_app (goodIn_of _ (by decide +kernel)) ggX8_deletes_X8_goesAlong
set_option maxRecDepth 20000 in
theorem ggX8_deletes_X8_ends : GoodIn wsX8_deletes wsX8_ends := goodIn_r _ [43, 44, 45, 46, 4, 47, 48, 49, 50, 51, 52, 16, 23, 24, 25, 26, 27, 22, 28, 2, 3, 5, 29, 30, 31, 53, 54, 55, 56, 1, 21, 57, 58, 59, 60, 61, 62, 63, 64, 65, 66, 67, 68, 69, 70, 71, 72, 73, 74, 75, 76] (by decide +kernel) (by decide +kernel)
set_option maxRecDepth 20000 in
theorem gX8_deletes_X8_ends : GoodIn wsX8_deletes (wsV RX8 103 RX8 yX8_ends wsX8_ends) := goodIn_app (goodIn_of _ (by decide +kernel)) ggX8_deletes_X8_ends
theorem dX8_deletes_0 : decode cX8_deletes 0 = .ok (.aload_n 0, 1) := by decide +kernel
theorem dX8_deletes_1 : decode cX8_deletes 1 = .ok (.getfield 67, 3) := by decide +kernel
theorem dX8_deletes_4 : decode cX8_deletes 4 = .ok (.istore_n 3, 1) := by decide +kernel
theorem dX8_deletes_5 : decode cX8_deletes 5 = .ok (.aload_n 0, 1) := by decide +kernel
theorem dX8_deletes_6 : decode cX8_deletes 6 = .ok (.iload_n 3, 1) := by decide +kernel
theorem dX8_deletes_7 : decode cX8_deletes 7 = .ok (.aload_n 0, 1) := by decide +kernel
theorem dX8_deletes_8 : decode cX8_deletes 8 = .ok (.iload_n 1, 1) := by decide +kernel
theorem dX8_deletes_9 : decode cX8_deletes 9 = .ok (.iload_n 2, 1) := by decide +kernel
theorem dX8_deletes_10 : decode cX8_deletes 10 = .ok (.invokestatic 53, 3) := by decide +kernel
theorem dX8_deletes_13 : decode cX8_deletes 13 = .ok (.invokevirtual 117, 3) := by decide +kernel
theorem dX8_deletes_16 : decode cX8_deletes 16 = .ok (.invokevirtual 103, 3) := by decide +kernel
theorem dX8_deletes_19 : decode cX8_deletes 19 = .ok (.ireturn, 1) := by decide +kernel
set_option maxRecDepth 20000 in
theorem ggX8_insert_X8_isTable : GoodIn wsX8_insert wsX8_isTable := goodIn_r _ [5, 6, 7, 4, 8] (by decide +kernel) (by decide +kernel)
set_option maxRecDepth 20000 in
theorem gX8_insert_X8_isTable : GoodIn wsX8_insert (va_wsS RX8 81 yX8_isTable wsX8_isTable) := goodIn_app (goodIn_of _ (by decide +kernel)) ggX8_insert_X8_isTable
set_option maxRecDepth 20000 in
theorem ggX8_insert_X8_isKey : GoodIn wsX8_insert wsX8_isKey := goodIn_r _ [11, 6, 7, 4, 8] (by decide +kernel) (by decide +kernel)
set_option maxRecDepth 20000 in
theorem gX8_insert_X8_isKey : GoodIn wsX8_insert (va_wsS RX8 120 yX8_isKey wsX8_isKey) := goodIn_app (goodIn_of _ (by decide +kernel)) ggX8_insert_X8_isKey
set_option maxRecDepth 20000 in
theorem ggX8_insert_X8_isValue : GoodIn wsX8_insert wsX8_isValue := goodIn_r _ [14, 6, 7, 4, 8] (by decide +kernel) (by decide +kernel)
set_option maxRecDepth 20000 in
theorem gX8_insert_X8_isValue : GoodIn wsX8_insert (va_wsS RX8 123 yX8_isValue wsX8_isValue) := goodIn_app (goodIn_of _ (by decide +kernel)) ggX8_insert_X8_isValue
set_option maxRecDepth 20000 in
theorem ggX8_insert_X8_row : GoodIn wsX8_insert wsX8_row := goodIn_r _ [17] (by decide +kernel) (by decide +kernel)
set_option maxRecDepth 20000 in
theorem gX8_insert_X8_row : GoodIn wsX8_insert (va_wsS RX8 53 yX8_row wsX8_row) := goodIn_app (goodIn_of _ (by decide +kernel)) ggX8_insert_X8_row
set_option maxRecDepth 20000 in
theorem ggX8_insert_X8_goes : GoodIn wsX8_insert wsX8_goes := goodIn_r _ [21, 22, 64, 65, 66, 67, 68, 69, 70, 71, 72, 73, 74, 75, 76, 77, 78, 79, 80, 81, 82, 83] (by decide +kernel) (by decide +kernel)
set_option maxRecDepth 20000 in
theorem gX8_insert_X8_goes : GoodIn wsX8_insert (wsV RX8 88 RX8 yX8_goes wsX8_goes) := goodIn_app (goodIn_of _ (by decide +kernel)) ggX8_insert_X8_goes
set_option maxRecDepth 20000 in
theorem ggX8_insert_X8_inserts : GoodIn wsX8_insert wsX8_inserts := goodIn_r _ [26, 27, 15, 16, 4, 17, 28, 29, 30, 31, 1, 32, 33, 34, 35, 36, 37, 38, 39, 40, 41, 42, 43, 44, 45, 46, 47, 48, 49, 50, 51, 52, 53, 54, 55, 56, 57, 58, 59, 60, 61, 62, 63, 64, 65, 66, 67, 68, 69, 70, 71, 72, 73, 74, 75, 76, 77, 78, 79, 80, 81, 82, 83] (by decide +kernel) (by decide +kernel)
set_option maxRecDepth 20000 in
theorem gX8_insert_X8_inserts : GoodIn wsX8_insert (wsV RX8 126 RX8 yX8_inserts wsX8_inserts) := goodIn_app (goodIn_of _ (by decide +kernel)) ggX8_insert_X8_inserts
theorem dX8_insert_0 : decode cX8_insert 0 = .ok (.iload_n 1, 1) := by decide +kernel
theorem dX8_insert_1 : decode cX8_insert 1 = .ok (.invokestatic 81, 3) := by decide +kernel
theorem dX8_insert_4 : decode cX8_insert 4 = .ok (.ifCond .eq 14, 3) := by decide +kernel
theorem dX8_insert_7 : decode cX8_insert 7 = .ok (.iload_n 2, 1) := by decide +kernel
theorem dX8_insert_8 : decode cX8_insert 8 = .ok (.invokestatic 120, 3) := by decide +kernel
theorem dX8_insert_11 : decode cX8_insert 11 = .ok (.ifCond .eq 7, 3) := by decide +kernel
theorem dX8_insert_14 : decode cX8_insert 14 = .ok (.iconst 1, 1) := by decide +kernel
theorem dX8_insert_15 : decode cX8_insert 15 = .ok (.goto 4, 3) := by decide +kernel
theorem dX8_insert_18 : decode cX8_insert 18 = .ok (.iconst 0, 1) := by decide +kernel
theorem dX8_insert_19 : decode cX8_insert 19 = .ok (.istore 5, 2) := by decide +kernel
theorem dX8_insert_21 : decode cX8_insert 21 = .ok (.aload_n 0, 1) := by decide +kernel
theorem dX8_insert_22 : decode cX8_insert 22 = .ok (.iload 5, 2) := by decide +kernel
theorem dX8_insert_24 : decode cX8_insert 24 = .ok (.iload_n 3, 1) := by decide +kernel
theorem dX8_insert_25 : decode cX8_insert 25 = .ok (.invokestatic 123, 3) := by decide +kernel
theorem dX8_insert_28 : decode cX8_insert 28 = .ok (.ifCond .eq 15, 3) := by decide +kernel
theorem dX8_insert_31 : decode cX8_insert 31 = .ok (.iload 4, 2) := by decide +kernel
theorem dX8_insert_33 : decode cX8_insert 33 = .ok (.invokestatic 123, 3) := by decide +kernel
theorem dX8_insert_36 : decode cX8_insert 36 = .ok (.ifCond .eq 7, 3) := by decide +kernel
theorem dX8_insert_39 : decode cX8_insert 39 = .ok (.iconst 1, 1) := by decide +kernel
theorem dX8_insert_40 : decode cX8_insert 40 = .ok (.goto 4, 3) := by decide +kernel
theorem dX8_insert_43 : decode cX8_insert 43 = .ok (.iconst 0, 1) := by decide +kernel
theorem dX8_insert_44 : decode cX8_insert 44 = .ok (.iload 5, 2) := by decide +kernel
theorem dX8_insert_46 : decode cX8_insert 46 = .ok (.ifCond .eq 20, 3) := by decide +kernel
theorem dX8_insert_49 : decode cX8_insert 49 = .ok (.aload_n 0, 1) := by decide +kernel
theorem dX8_insert_50 : decode cX8_insert 50 = .ok (.getfield 7, 3) := by decide +kernel
theorem dX8_insert_53 : decode cX8_insert 53 = .ok (.iload_n 1, 1) := by decide +kernel
theorem dX8_insert_54 : decode cX8_insert 54 = .ok (.iload_n 2, 1) := by decide +kernel
theorem dX8_insert_55 : decode cX8_insert 55 = .ok (.invokestatic 53, 3) := by decide +kernel
theorem dX8_insert_58 : decode cX8_insert 58 = .ok (.baload, 1) := by decide +kernel
theorem dX8_insert_59 : decode cX8_insert 59 = .ok (.ifCond .ne 7, 3) := by decide +kernel
theorem dX8_insert_62 : decode cX8_insert 62 = .ok (.iconst 1, 1) := by decide +kernel
theorem dX8_insert_63 : decode cX8_insert 63 = .ok (.goto 4, 3) := by decide +kernel
theorem dX8_insert_66 : decode cX8_insert 66 = .ok (.iconst 0, 1) := by decide +kernel
theorem dX8_insert_67 : decode cX8_insert 67 = .ok (.invokevirtual 88, 3) := by decide +kernel
theorem dX8_insert_70 : decode cX8_insert 70 = .ok (.ifCond .eq 15, 3) := by decide +kernel
theorem dX8_insert_73 : decode cX8_insert 73 = .ok (.aload_n 0, 1) := by decide +kernel
theorem dX8_insert_74 : decode cX8_insert 74 = .ok (.iload_n 1, 1) := by decide +kernel
theorem dX8_insert_75 : decode cX8_insert 75 = .ok (.iload_n 2, 1) := by decide +kernel
theorem dX8_insert_76 : decode cX8_insert 76 = .ok (.iload_n 3, 1) := by decide +kernel
theorem dX8_insert_77 : decode cX8_insert 77 = .ok (.iload 4, 2) := by decide +kernel
theorem dX8_insert_79 : decode cX8_insert 79 = .ok (.invokevirtual 126, 3) := by decide +kernel
theorem dX8_insert_82 : decode cX8_insert 82 = .ok (.goto 4, 3) := by decide +kernel
theorem dX8_insert_85 : decode cX8_insert 85 = .ok (.iconst 0, 1) := by decide +kernel
theorem dX8_insert_86 : decode cX8_insert 86 = .ok (.ireturn, 1) := by decide +kernel
set_option maxRecDepth 20000 in
theorem ggX8_update_X8_isTable : GoodIn wsX8_update wsX8_isTable := goodIn_r _ [5, 6, 7, 4, 8] (by decide +kernel) (by decide +kernel)
set_option maxRecDepth 20000 in
theorem gX8_update_X8_isTable : GoodIn wsX8_update (va_wsS RX8 81 yX8_isTable wsX8_isTable) := goodIn_app (goodIn_of _ (by decide +kernel)) ggX8_update_X8_isTable
set_option maxRecDepth 20000 in
theorem ggX8_update_X8_isKey : GoodIn wsX8_update wsX8_isKey := goodIn_r _ [11, 6, 7, 4, 8] (by decide +kernel) (by decide +kernel)
set_option maxRecDepth 20000 in
theorem gX8_update_X8_isKey : GoodIn wsX8_update (va_wsS RX8 120 yX8_isKey wsX8_isKey) := goodIn_app (goodIn_of _ (by decide +kernel)) ggX8_update_X8_isKey
set_option maxRecDepth 20000 in
theorem ggX8_update_X8_isColumn : GoodIn wsX8_update wsX8_isColumn := goodIn_r _ [14] (by decide +kernel) (by decide +kernel)
set_option maxRecDepth 20000 in
theorem gX8_update_X8_isColumn : GoodIn wsX8_update (va_wsS RX8 85 yX8_isColumn wsX8_isColumn) := goodIn_app (goodIn_of _ (by decide +kernel)) ggX8_update_X8_isColumn
set_option maxRecDepth 20000 in
theorem ggX8_update_X8_isValue : GoodIn wsX8_update wsX8_isValue := goodIn_r _ [17, 6, 7, 4, 8] (by decide +kernel) (by decide +kernel)
set_option maxRecDepth 20000 in
theorem gX8_update_X8_isValue : GoodIn wsX8_update (va_wsS RX8 123 yX8_isValue wsX8_isValue) := goodIn_app (goodIn_of _ (by decide +kernel)) ggX8_update_X8_isValue
set_option maxRecDepth 20000 in
theorem ggX8_update_X8_row : GoodIn wsX8_update wsX8_row := goodIn_r _ [20] (by decide +kernel) (by decide +kernel)
set_option maxRecDepth 20000 in
theorem gX8_update_X8_row : GoodIn wsX8_update (va_wsS RX8 53 yX8_row wsX8_row) := goodIn_app (goodIn_of _ (by decide +kernel)) ggX8_update_X8_row
set_option maxRecDepth 20000 in
theorem ggX8_update_X8_goes : GoodIn wsX8_update wsX8_goes := goodIn_r _ [24, 25, 67, 68, 69, 70, 71, 72, 73, 74, 75, 76, 77, 78, 79, 80, 81, 82, 83, 84, 85, 86] (by decide +kernel) (by decide +kernel)
set_option maxRecDepth 20000 in
theorem gX8_update_X8_goes : GoodIn wsX8_update (wsV RX8 88 RX8 yX8_goes wsX8_goes) := goodIn_app (goodIn_of _ (by decide +kernel)) ggX8_update_X8_goes
set_option maxRecDepth 20000 in
theorem ggX8_update_X8_updates : GoodIn wsX8_update wsX8_updates := goodIn_r _ [29, 30, 18, 19, 4, 20, 31, 32, 33, 34, 35, 36, 37, 38, 39, 40, 41, 42, 43, 44, 45, 46, 47, 48, 49, 50, 51, 52, 53, 1, 54, 55, 56, 57, 58, 59, 60, 61, 62, 63, 64, 65, 66, 67, 68, 69, 70, 71, 72, 73, 74, 75, 76, 77, 78, 79, 80, 81, 82, 83, 84, 85, 86] (by decide +kernel) (by decide +kernel)
set_option maxRecDepth 20000 in
theorem gX8_update_X8_updates : GoodIn wsX8_update (wsV RX8 130 RX8 yX8_updates wsX8_updates) := goodIn_app (goodIn_of _ (by decide +kernel)) ggX8_update_X8_updates
theorem dX8_update_0 : decode cX8_update 0 = .ok (.iload_n 1, 1) := by decide +kernel
theorem dX8_update_1 : decode cX8_update 1 = .ok (.invokestatic 81, 3) := by decide +kernel
theorem dX8_update_4 : decode cX8_update 4 = .ok (.ifCond .eq 21, 3) := by decide +kernel
theorem dX8_update_7 : decode cX8_update 7 = .ok (.iload_n 2, 1) := by decide +kernel
theorem dX8_update_8 : decode cX8_update 8 = .ok (.invokestatic 120, 3) := by decide +kernel
theorem dX8_update_11 : decode cX8_update 11 = .ok (.ifCond .eq 14, 3) := by decide +kernel
theorem dX8_update_14 : decode cX8_update 14 = .ok (.iload_n 3, 1) := by decide +kernel
theorem dX8_update_15 : decode cX8_update 15 = .ok (.invokestatic 85, 3) := by decide +kernel
theorem dX8_update_18 : decode cX8_update 18 = .ok (.ifCond .eq 7, 3) := by decide +kernel
theorem dX8_update_21 : decode cX8_update 21 = .ok (.iconst 1, 1) := by decide +kernel
theorem dX8_update_22 : decode cX8_update 22 = .ok (.goto 4, 3) := by decide +kernel
theorem dX8_update_25 : decode cX8_update 25 = .ok (.iconst 0, 1) := by decide +kernel
theorem dX8_update_26 : decode cX8_update 26 = .ok (.istore 5, 2) := by decide +kernel
theorem dX8_update_28 : decode cX8_update 28 = .ok (.aload_n 0, 1) := by decide +kernel
theorem dX8_update_29 : decode cX8_update 29 = .ok (.iload 5, 2) := by decide +kernel
theorem dX8_update_31 : decode cX8_update 31 = .ok (.iload 4, 2) := by decide +kernel
theorem dX8_update_33 : decode cX8_update 33 = .ok (.invokestatic 123, 3) := by decide +kernel
theorem dX8_update_36 : decode cX8_update 36 = .ok (.iload 5, 2) := by decide +kernel
theorem dX8_update_38 : decode cX8_update 38 = .ok (.ifCond .eq 20, 3) := by decide +kernel
theorem dX8_update_41 : decode cX8_update 41 = .ok (.aload_n 0, 1) := by decide +kernel
theorem dX8_update_42 : decode cX8_update 42 = .ok (.getfield 7, 3) := by decide +kernel
theorem dX8_update_45 : decode cX8_update 45 = .ok (.iload_n 1, 1) := by decide +kernel
theorem dX8_update_46 : decode cX8_update 46 = .ok (.iload_n 2, 1) := by decide +kernel
theorem dX8_update_47 : decode cX8_update 47 = .ok (.invokestatic 53, 3) := by decide +kernel
theorem dX8_update_50 : decode cX8_update 50 = .ok (.baload, 1) := by decide +kernel
theorem dX8_update_51 : decode cX8_update 51 = .ok (.ifCond .eq 7, 3) := by decide +kernel
theorem dX8_update_54 : decode cX8_update 54 = .ok (.iconst 1, 1) := by decide +kernel
theorem dX8_update_55 : decode cX8_update 55 = .ok (.goto 4, 3) := by decide +kernel
theorem dX8_update_58 : decode cX8_update 58 = .ok (.iconst 0, 1) := by decide +kernel
theorem dX8_update_59 : decode cX8_update 59 = .ok (.invokevirtual 88, 3) := by decide +kernel
theorem dX8_update_62 : decode cX8_update 62 = .ok (.ifCond .eq 15, 3) := by decide +kernel
theorem dX8_update_65 : decode cX8_update 65 = .ok (.aload_n 0, 1) := by decide +kernel
theorem dX8_update_66 : decode cX8_update 66 = .ok (.iload_n 1, 1) := by decide +kernel
theorem dX8_update_67 : decode cX8_update 67 = .ok (.iload_n 2, 1) := by decide +kernel
theorem dX8_update_68 : decode cX8_update 68 = .ok (.iload_n 3, 1) := by decide +kernel
theorem dX8_update_69 : decode cX8_update 69 = .ok (.iload 4, 2) := by decide +kernel
theorem dX8_update_71 : decode cX8_update 71 = .ok (.invokevirtual 130, 3) := by decide +kernel
theorem dX8_update_74 : decode cX8_update 74 = .ok (.goto 4, 3) := by decide +kernel
theorem dX8_update_77 : decode cX8_update 77 = .ok (.iconst 0, 1) := by decide +kernel
theorem dX8_update_78 : decode cX8_update 78 = .ok (.ireturn, 1) := by decide +kernel
set_option maxRecDepth 20000 in
theorem ggX8_delete_X8_isTable : GoodIn wsX8_delete wsX8_isTable := goodIn_r _ [5, 6, 7, 4, 8] (by decide +kernel) (by decide +kernel)
set_option maxRecDepth 20000 in
theorem gX8_delete_X8_isTable : GoodIn wsX8_delete (va_wsS RX8 81 yX8_isTable wsX8_isTable) := goodIn_app (goodIn_of _ (by decide +kernel)) ggX8_delete_X8_isTable
set_option maxRecDepth 20000 in
theorem ggX8_delete_X8_isKey : GoodIn wsX8_delete wsX8_isKey := goodIn_r _ [11, 6, 7, 4, 8] (by decide +kernel) (by decide +kernel)
set_option maxRecDepth 20000 in
theorem gX8_delete_X8_isKey : GoodIn wsX8_delete (va_wsS RX8 120 yX8_isKey wsX8_isKey) := goodIn_app (goodIn_of _ (by decide +kernel)) ggX8_delete_X8_isKey
set_option maxRecDepth 20000 in
theorem ggX8_delete_X8_row : GoodIn wsX8_delete wsX8_row := goodIn_r _ [14] (by decide +kernel) (by decide +kernel)
set_option maxRecDepth 20000 in
theorem gX8_delete_X8_row : GoodIn wsX8_delete (va_wsS RX8 53 yX8_row wsX8_row) := goodIn_app (goodIn_of _ (by decide +kernel)) ggX8_delete_X8_row
set_option maxRecDepth 20000 in
theorem ggX8_delete_X8_goes : GoodIn wsX8_delete wsX8_goes := goodIn_r _ [18, 19, 75, 76, 77, 78, 79, 80, 81, 82, 83, 84, 85, 86, 87, 88, 89, 90, 91, 92, 93, 94] (by decide +kernel) (by decide +kernel)
set_option maxRecDepth 20000 in
theorem gX8_delete_X8_goes : GoodIn wsX8_delete (wsV RX8 88 RX8 yX8_goes wsX8_goes) := goodIn_app (goodIn_of _ (by decide +kernel)) ggX8_delete_X8_goes
set_option maxRecDepth 20000 in
theorem ggX8_delete_X8_deletes : GoodIn wsX8_delete wsX8_deletes := goodIn_r _ [23, 24, 12, 13, 4, 14, 25, 26, 27, 28, 29, 30, 31, 32, 33, 34, 1, 35, 36, 37, 38, 39, 40, 41, 42, 43, 44, 45, 46, 47, 48, 49, 50, 51, 52, 53, 54, 55, 56, 57, 58, 59, 60, 61, 62, 63, 64, 65, 66, 67, 68, 69, 70, 71, 72, 73, 74, 75, 76, 77, 78, 79, 80, 81, 82, 83, 84, 85, 86, 87, 88, 89, 90, 91, 92, 93, 94] (by decide +kernel) (by decide +kernel)
set_option maxRecDepth 20000 in
theorem gX8_delete_X8_deletes : GoodIn wsX8_delete (wsV RX8 133 RX8 yX8_deletes wsX8_deletes) := goodIn_app (goodIn_of _ (by decide +kernel)) ggX8_delete_X8_deletes
theorem dX8_delete_0 : decode cX8_delete 0 = .ok (.iload_n 1, 1) := by decide +kernel
theorem dX8_delete_1 : decode cX8_delete 1 = .ok (.invokestatic 81, 3) := by decide +kernel
theorem dX8_delete_4 : decode cX8_delete 4 = .ok (.ifCond .eq 14, 3) := by decide +kernel
theorem dX8_delete_7 : decode cX8_delete 7 = .ok (.iload_n 2, 1) := by decide +kernel
theorem dX8_delete_8 : decode cX8_delete 8 = .ok (.invokestatic 120, 3) := by decide +kernel
theorem dX8_delete_11 : decode cX8_delete 11 = .ok (.ifCond .eq 7, 3) := by decide +kernel
theorem dX8_delete_14 : decode cX8_delete 14 = .ok (.iconst 1, 1) := by decide +kernel
theorem dX8_delete_15 : decode cX8_delete 15 = .ok (.goto 4, 3) := by decide +kernel
theorem dX8_delete_18 : decode cX8_delete 18 = .ok (.iconst 0, 1) := by decide +kernel
theorem dX8_delete_19 : decode cX8_delete 19 = .ok (.istore_n 3, 1) := by decide +kernel
theorem dX8_delete_20 : decode cX8_delete 20 = .ok (.aload_n 0, 1) := by decide +kernel
theorem dX8_delete_21 : decode cX8_delete 21 = .ok (.iload_n 3, 1) := by decide +kernel
theorem dX8_delete_22 : decode cX8_delete 22 = .ok (.iload_n 3, 1) := by decide +kernel
theorem dX8_delete_23 : decode cX8_delete 23 = .ok (.ifCond .eq 20, 3) := by decide +kernel
theorem dX8_delete_26 : decode cX8_delete 26 = .ok (.aload_n 0, 1) := by decide +kernel
theorem dX8_delete_27 : decode cX8_delete 27 = .ok (.getfield 7, 3) := by decide +kernel
theorem dX8_delete_30 : decode cX8_delete 30 = .ok (.iload_n 1, 1) := by decide +kernel
theorem dX8_delete_31 : decode cX8_delete 31 = .ok (.iload_n 2, 1) := by decide +kernel
theorem dX8_delete_32 : decode cX8_delete 32 = .ok (.invokestatic 53, 3) := by decide +kernel
theorem dX8_delete_35 : decode cX8_delete 35 = .ok (.baload, 1) := by decide +kernel
theorem dX8_delete_36 : decode cX8_delete 36 = .ok (.ifCond .eq 7, 3) := by decide +kernel
theorem dX8_delete_39 : decode cX8_delete 39 = .ok (.iconst 1, 1) := by decide +kernel
theorem dX8_delete_40 : decode cX8_delete 40 = .ok (.goto 4, 3) := by decide +kernel
theorem dX8_delete_43 : decode cX8_delete 43 = .ok (.iconst 0, 1) := by decide +kernel
theorem dX8_delete_44 : decode cX8_delete 44 = .ok (.iconst 1, 1) := by decide +kernel
theorem dX8_delete_45 : decode cX8_delete 45 = .ok (.invokevirtual 88, 3) := by decide +kernel
theorem dX8_delete_48 : decode cX8_delete 48 = .ok (.ifCond .eq 12, 3) := by decide +kernel
theorem dX8_delete_51 : decode cX8_delete 51 = .ok (.aload_n 0, 1) := by decide +kernel
theorem dX8_delete_52 : decode cX8_delete 52 = .ok (.iload_n 1, 1) := by decide +kernel
theorem dX8_delete_53 : decode cX8_delete 53 = .ok (.iload_n 2, 1) := by decide +kernel
theorem dX8_delete_54 : decode cX8_delete 54 = .ok (.invokevirtual 133, 3) := by decide +kernel
theorem dX8_delete_57 : decode cX8_delete 57 = .ok (.goto 4, 3) := by decide +kernel
theorem dX8_delete_60 : decode cX8_delete 60 = .ok (.iconst 0, 1) := by decide +kernel
theorem dX8_delete_61 : decode cX8_delete 61 = .ok (.ireturn, 1) := by decide +kernel
set_option maxRecDepth 20000 in
theorem ggX8_commit_X8_violated : GoodIn wsX8_commit wsX8_violated := goodIn_r _ [8, 9, 10, 11, 12, 7, 13, 14, 15, 16, 17, 18, 19, 20, 21, 22, 23, 24, 25, 26, 27, 28, 29, 30, 31, 32, 33, 34, 35, 36, 37, 38, 39, 40, 41, 42, 43, 44, 45, 46, 47] (by decide +kernel) (by decide +kernel)
set_option maxRecDepth 20000 in
theorem gX8_commit_X8_violated : GoodIn wsX8_commit (wsV RX8 74 RX8 yX8_violated wsX8_violated) := goodIn_app (goodIn_of _ (by decide +kernel)) ggX8_commit_X8_violated
theorem dX8_commit_0 : decode cX8_commit 0 = .ok (.aload_n 0, 1) := by decide +kernel
theorem dX8_commit_1 : decode cX8_commit 1 = .ok (.iconst 0, 1) := by decide +kernel
theorem dX8_commit_2 : decode cX8_commit 2 = .ok (.putfield 45, 3) := by decide +kernel
theorem dX8_commit_5 : decode cX8_commit 5 = .ok (.aload_n 0, 1) := by decide +kernel
theorem dX8_commit_6 : decode cX8_commit 6 = .ok (.iconst 1, 1) := by decide +kernel
theorem dX8_commit_7 : decode cX8_commit 7 = .ok (.invokevirtual 74, 3) := by decide +kernel
theorem dX8_commit_10 : decode cX8_commit 10 = .ok (.istore_n 1, 1) := by decide +kernel
theorem dX8_commit_11 : decode cX8_commit 11 = .ok (.iload_n 1, 1) := by decide +kernel
theorem dX8_commit_12 : decode cX8_commit 12 = .ok (.ifCond .ge 5, 3) := by decide +kernel
theorem dX8_commit_15 : decode cX8_commit 15 = .ok (.iload_n 1, 1) := by decide +kernel
theorem dX8_commit_16 : decode cX8_commit 16 = .ok (.ireturn, 1) := by decide +kernel
theorem dX8_commit_17 : decode cX8_commit 17 = .ok (.aload_n 0, 1) := by decide +kernel
theorem dX8_commit_18 : decode cX8_commit 18 = .ok (.getfield 67, 3) := by decide +kernel
theorem dX8_commit_21 : decode cX8_commit 21 = .ok (.istore_n 2, 1) := by decide +kernel
theorem dX8_commit_22 : decode cX8_commit 22 = .ok (.aload_n 0, 1) := by decide +kernel
theorem dX8_commit_23 : decode cX8_commit 23 = .ok (.iconst 0, 1) := by decide +kernel
theorem dX8_commit_24 : decode cX8_commit 24 = .ok (.putfield 67, 3) := by decide +kernel
theorem dX8_commit_27 : decode cX8_commit 27 = .ok (.aload_n 0, 1) := by decide +kernel
theorem dX8_commit_28 : decode cX8_commit 28 = .ok (.iconst 0, 1) := by decide +kernel
theorem dX8_commit_29 : decode cX8_commit 29 = .ok (.putfield 136, 3) := by decide +kernel
theorem dX8_commit_32 : decode cX8_commit 32 = .ok (.iload_n 2, 1) := by decide +kernel
theorem dX8_commit_33 : decode cX8_commit 33 = .ok (.ireturn, 1) := by decide +kernel
set_option maxRecDepth 20000 in
theorem ggX8_rollBack_X8_undoes : GoodIn wsX8_rollBack wsX8_undoes := goodIn_r _ [7, 8, 9, 10, 11, 12, 13, 14, 15, 16, 17, 18, 19, 20, 21, 22, 23, 24, 25, 26, 27, 28, 29, 30, 31] (by decide +kernel) (by decide +kernel)
set_option maxRecDepth 20000 in
theorem gX8_rollBack_X8_undoes : GoodIn wsX8_rollBack (wsV RX8 78 RX8 yX8_undoes wsX8_undoes) := goodIn_app (goodIn_of _ (by decide +kernel)) ggX8_rollBack_X8_undoes
theorem dX8_rollBack_0 : decode cX8_rollBack 0 = .ok (.aload_n 0, 1) := by decide +kernel
theorem dX8_rollBack_1 : decode cX8_rollBack 1 = .ok (.iconst 0, 1) := by decide +kernel
theorem dX8_rollBack_2 : decode cX8_rollBack 2 = .ok (.putfield 45, 3) := by decide +kernel
theorem dX8_rollBack_5 : decode cX8_rollBack 5 = .ok (.aload_n 0, 1) := by decide +kernel
theorem dX8_rollBack_6 : decode cX8_rollBack 6 = .ok (.iconst 0, 1) := by decide +kernel
theorem dX8_rollBack_7 : decode cX8_rollBack 7 = .ok (.putfield 136, 3) := by decide +kernel
theorem dX8_rollBack_10 : decode cX8_rollBack 10 = .ok (.aload_n 0, 1) := by decide +kernel
theorem dX8_rollBack_11 : decode cX8_rollBack 11 = .ok (.iconst 0, 1) := by decide +kernel
theorem dX8_rollBack_12 : decode cX8_rollBack 12 = .ok (.invokevirtual 78, 3) := by decide +kernel
theorem dX8_rollBack_15 : decode cX8_rollBack 15 = .ok (.ireturn, 1) := by decide +kernel
set_option maxRecDepth 20000 in
theorem ggX8_savePoint_X8_goes : GoodIn wsX8_savePoint wsX8_goes := goodIn_r _ [8, 9, 10, 11, 12, 13, 14, 15, 16, 17, 18, 19, 20, 21, 22, 23, 24, 25, 26, 27, 28, 29] (by decide +kernel) (by decide +kernel)
set_option maxRecDepth 20000 in
theorem gX8_savePoint_X8_goes : GoodIn wsX8_savePoint (wsV RX8 88 RX8 yX8_goes wsX8_goes) := goodIn_app (goodIn_of _ (by decide +kernel)) ggX8_savePoint_X8_goes
theorem dX8_savePoint_0 : decode cX8_savePoint 0 = .ok (.aload_n 0, 1) := by decide +kernel
theorem dX8_savePoint_1 : decode cX8_savePoint 1 = .ok (.aload_n 0, 1) := by decide +kernel
theorem dX8_savePoint_2 : decode cX8_savePoint 2 = .ok (.getfield 136, 3) := by decide +kernel
theorem dX8_savePoint_5 : decode cX8_savePoint 5 = .ok (.iconst 4, 1) := by decide +kernel
theorem dX8_savePoint_6 : decode cX8_savePoint 6 = .ok (.if_icmp .ge 7, 3) := by decide +kernel
theorem dX8_savePoint_9 : decode cX8_savePoint 9 = .ok (.iconst 1, 1) := by decide +kernel
theorem dX8_savePoint_10 : decode cX8_savePoint 10 = .ok (.goto 4, 3) := by decide +kernel
theorem dX8_savePoint_13 : decode cX8_savePoint 13 = .ok (.iconst 0, 1) := by decide +kernel
theorem dX8_savePoint_14 : decode cX8_savePoint 14 = .ok (.iconst 1, 1) := by decide +kernel
theorem dX8_savePoint_15 : decode cX8_savePoint 15 = .ok (.iconst 1, 1) := by decide +kernel
theorem dX8_savePoint_16 : decode cX8_savePoint 16 = .ok (.invokevirtual 88, 3) := by decide +kernel
theorem dX8_savePoint_19 : decode cX8_savePoint 19 = .ok (.ifCond .ne 5, 3) := by decide +kernel
theorem dX8_savePoint_22 : decode cX8_savePoint 22 = .ok (.iconst 0, 1) := by decide +kernel
theorem dX8_savePoint_23 : decode cX8_savePoint 23 = .ok (.ireturn, 1) := by decide +kernel
theorem dX8_savePoint_24 : decode cX8_savePoint 24 = .ok (.aload_n 0, 1) := by decide +kernel
theorem dX8_savePoint_25 : decode cX8_savePoint 25 = .ok (.getfield 32, 3) := by decide +kernel
theorem dX8_savePoint_28 : decode cX8_savePoint 28 = .ok (.aload_n 0, 1) := by decide +kernel
theorem dX8_savePoint_29 : decode cX8_savePoint 29 = .ok (.getfield 136, 3) := by decide +kernel
theorem dX8_savePoint_32 : decode cX8_savePoint 32 = .ok (.aload_n 0, 1) := by decide +kernel
theorem dX8_savePoint_33 : decode cX8_savePoint 33 = .ok (.getfield 67, 3) := by decide +kernel
theorem dX8_savePoint_36 : decode cX8_savePoint 36 = .ok (.iastore, 1) := by decide +kernel
theorem dX8_savePoint_37 : decode cX8_savePoint 37 = .ok (.aload_n 0, 1) := by decide +kernel
theorem dX8_savePoint_38 : decode cX8_savePoint 38 = .ok (.dup, 1) := by decide +kernel
theorem dX8_savePoint_39 : decode cX8_savePoint 39 = .ok (.getfield 136, 3) := by decide +kernel
theorem dX8_savePoint_42 : decode cX8_savePoint 42 = .ok (.iconst 1, 1) := by decide +kernel
theorem dX8_savePoint_43 : decode cX8_savePoint 43 = .ok (.iadd, 1) := by decide +kernel
theorem dX8_savePoint_44 : decode cX8_savePoint 44 = .ok (.putfield 136, 3) := by decide +kernel
theorem dX8_savePoint_47 : decode cX8_savePoint 47 = .ok (.aload_n 0, 1) := by decide +kernel
theorem dX8_savePoint_48 : decode cX8_savePoint 48 = .ok (.getfield 136, 3) := by decide +kernel
theorem dX8_savePoint_51 : decode cX8_savePoint 51 = .ok (.iconst 1, 1) := by decide +kernel
theorem dX8_savePoint_52 : decode cX8_savePoint 52 = .ok (.isub, 1) := by decide +kernel
theorem dX8_savePoint_53 : decode cX8_savePoint 53 = .ok (.ireturn, 1) := by decide +kernel
