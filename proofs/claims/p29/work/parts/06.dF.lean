theorem dJ9_min_7cf53_0 : decode cJ9_min_7cf53 0 = .ok (.iload_n 0, 1) := by decide +kernel
theorem dJ9_min_7cf53_1 : decode cJ9_min_7cf53 1 = .ok (.iload_n 1, 1) := by decide +kernel
theorem dJ9_min_7cf53_2 : decode cJ9_min_7cf53 2 = .ok (.if_icmp .gt 7, 3) := by decide +kernel
theorem dJ9_min_7cf53_5 : decode cJ9_min_7cf53 5 = .ok (.iload_n 0, 1) := by decide +kernel
theorem dJ9_min_7cf53_6 : decode cJ9_min_7cf53 6 = .ok (.goto 4, 3) := by decide +kernel
theorem dJ9_min_7cf53_9 : decode cJ9_min_7cf53 9 = .ok (.iload_n 1, 1) := by decide +kernel
theorem dJ9_min_7cf53_10 : decode cJ9_min_7cf53 10 = .ok (.ireturn, 1) := by decide +kernel
theorem dJ7_copyOf_59c91_0 : decode cJ7_copyOf_59c91 0 = .ok (.iload_n 1, 1) := by decide +kernel
theorem dJ7_copyOf_59c91_1 : decode cJ7_copyOf_59c91 1 = .ok (.aload_n 0, 1) := by decide +kernel
theorem dJ7_copyOf_59c91_2 : decode cJ7_copyOf_59c91 2 = .ok (.arraylength, 1) := by decide +kernel
theorem dJ7_copyOf_59c91_3 : decode cJ7_copyOf_59c91 3 = .ok (.if_icmp .ne 11, 3) := by decide +kernel
theorem dJ7_copyOf_59c91_6 : decode cJ7_copyOf_59c91 6 = .ok (.aload_n 0, 1) := by decide +kernel
theorem dJ7_copyOf_59c91_7 : decode cJ7_copyOf_59c91 7 = .ok (.invokevirtual 316, 3) := by decide +kernel
theorem dJ7_copyOf_59c91_10 : decode cJ7_copyOf_59c91 10 = .ok (.checkcast 317, 3) := by decide +kernel
theorem dJ7_copyOf_59c91_13 : decode cJ7_copyOf_59c91 13 = .ok (.areturn, 1) := by decide +kernel
theorem dJ7_copyOf_59c91_14 : decode cJ7_copyOf_59c91 14 = .ok (.iload_n 1, 1) := by decide +kernel
theorem dJ7_copyOf_59c91_15 : decode cJ7_copyOf_59c91 15 = .ok (.newarray .int, 2) := by decide +kernel
theorem dJ7_copyOf_59c91_17 : decode cJ7_copyOf_59c91 17 = .ok (.astore_n 2, 1) := by decide +kernel
theorem dJ7_copyOf_59c91_18 : decode cJ7_copyOf_59c91 18 = .ok (.aload_n 0, 1) := by decide +kernel
theorem dJ7_copyOf_59c91_19 : decode cJ7_copyOf_59c91 19 = .ok (.iconst 0, 1) := by decide +kernel
theorem dJ7_copyOf_59c91_20 : decode cJ7_copyOf_59c91 20 = .ok (.aload_n 2, 1) := by decide +kernel
theorem dJ7_copyOf_59c91_21 : decode cJ7_copyOf_59c91 21 = .ok (.iconst 0, 1) := by decide +kernel
theorem dJ7_copyOf_59c91_22 : decode cJ7_copyOf_59c91 22 = .ok (.aload_n 0, 1) := by decide +kernel
theorem dJ7_copyOf_59c91_23 : decode cJ7_copyOf_59c91 23 = .ok (.arraylength, 1) := by decide +kernel
theorem dJ7_copyOf_59c91_24 : decode cJ7_copyOf_59c91 24 = .ok (.iload_n 1, 1) := by decide +kernel
theorem dJ7_copyOf_59c91_25 : decode cJ7_copyOf_59c91 25 = .ok (.invokestatic 304, 3) := by decide +kernel
theorem dJ7_copyOf_59c91_28 : decode cJ7_copyOf_59c91 28 = .ok (.invokestatic 150, 3) := by decide +kernel
theorem dJ7_copyOf_59c91_31 : decode cJ7_copyOf_59c91 31 = .ok (.aload_n 2, 1) := by decide +kernel
theorem dJ7_copyOf_59c91_32 : decode cJ7_copyOf_59c91 32 = .ok (.areturn, 1) := by decide +kernel
set_option maxRecDepth 20000 in
theorem ggX7_init_X4_init : GoodIn wsX7_init wsX4_init := goodIn_r _ [30, 31, 2, 3, 32, 33, 34, 35, 84, 85, 86] (by decide +kernel) (by decide +kernel)
set_option maxRecDepth 20000 in
theorem gX7_init_X4_init : GoodIn wsX7_init (wsX4_init) := ggX7_init_X4_init
set_option maxRecDepth 20000 in
theorem ggX7_init_X0_init : GoodIn wsX7_init wsX0_init := goodIn_r _ [38, 39, 2, 3, 32, 40, 41, 42, 43, 44, 93, 94, 95, 96] (by decide +kernel) (by decide +kernel)
set_option maxRecDepth 20000 in
theorem gX7_init_X0_init : GoodIn wsX7_init (wsX0_init) := ggX7_init_X0_init
set_option maxRecDepth 20000 in
theorem ggX7_init_X2_init : GoodIn wsX7_init wsX2_init := goodIn_r _ [47, 48, 2, 3, 49, 50, 51, 52, 53, 54, 55, 56, 57, 32, 58, 42, 59, 60, 111, 112, 113, 97, 98, 99] (by decide +kernel) (by decide +kernel)
set_option maxRecDepth 20000 in
theorem gX7_init_X2_init : GoodIn wsX7_init (wsX2_init) := ggX7_init_X2_init
set_option maxRecDepth 20000 in
theorem ggX7_init_X1_init : GoodIn wsX7_init wsX1_init := goodIn_r _ [63, 64, 2, 3, 65, 50, 51, 66, 67, 68, 55, 56, 57, 32, 58, 42, 59, 60, 111, 112, 113, 100, 101, 102] (by decide +kernel) (by decide +kernel)
set_option maxRecDepth 20000 in
theorem gX7_init_X1_init : GoodIn wsX7_init (wsX1_init) := ggX7_init_X1_init
set_option maxRecDepth 20000 in
theorem ggX7_init_X5_init : GoodIn wsX7_init wsX5_init := goodIn_r _ [70, 71, 2, 3, 32, 72, 73, 103, 104] (by decide +kernel) (by decide +kernel)
set_option maxRecDepth 20000 in
theorem gX7_init_X5_init_n43 : GoodIn wsX7_init (wsX5_init) := ggX7_init_X5_init
set_option maxRecDepth 20000 in
theorem ggX7_init_X6_init : GoodIn wsX7_init wsX6_init := goodIn_r _ [75, 76, 2, 3, 77, 78, 79, 80, 81, 32, 82, 83, 105, 106, 107, 108, 109, 110] (by decide +kernel) (by decide +kernel)
set_option maxRecDepth 20000 in
theorem gX7_init_X6_init_n50 : GoodIn wsX7_init (wsX6_init) := ggX7_init_X6_init
theorem dX7_init_0 : decode cX7_init 0 = .ok (.aload_n 0, 1) := by decide +kernel
theorem dX7_init_1 : decode cX7_init 1 = .ok (.invokespecial 3, 3) := by decide +kernel
theorem dX7_init_4 : decode cX7_init 4 = .ok (.aload_n 0, 1) := by decide +kernel
theorem dX7_init_5 : decode cX7_init 5 = .ok (.new 9, 3) := by decide +kernel
theorem dX7_init_8 : decode cX7_init 8 = .ok (.dup, 1) := by decide +kernel
theorem dX7_init_9 : decode cX7_init 9 = .ok (.invokespecial 11, 3) := by decide +kernel
theorem dX7_init_12 : decode cX7_init 12 = .ok (.putfield 12, 3) := by decide +kernel
theorem dX7_init_15 : decode cX7_init 15 = .ok (.aload_n 0, 1) := by decide +kernel
theorem dX7_init_16 : decode cX7_init 16 = .ok (.new 16, 3) := by decide +kernel
theorem dX7_init_19 : decode cX7_init 19 = .ok (.dup, 1) := by decide +kernel
theorem dX7_init_20 : decode cX7_init 20 = .ok (.aload_n 0, 1) := by decide +kernel
theorem dX7_init_21 : decode cX7_init 21 = .ok (.getfield 12, 3) := by decide +kernel
theorem dX7_init_24 : decode cX7_init 24 = .ok (.invokespecial 18, 3) := by decide +kernel
theorem dX7_init_27 : decode cX7_init 27 = .ok (.putfield 21, 3) := by decide +kernel
theorem dX7_init_30 : decode cX7_init 30 = .ok (.aload_n 0, 1) := by decide +kernel
theorem dX7_init_31 : decode cX7_init 31 = .ok (.new 25, 3) := by decide +kernel
theorem dX7_init_34 : decode cX7_init 34 = .ok (.dup, 1) := by decide +kernel
theorem dX7_init_35 : decode cX7_init 35 = .ok (.aload_n 0, 1) := by decide +kernel
theorem dX7_init_36 : decode cX7_init 36 = .ok (.getfield 12, 3) := by decide +kernel
theorem dX7_init_39 : decode cX7_init 39 = .ok (.aload_n 0, 1) := by decide +kernel
theorem dX7_init_40 : decode cX7_init 40 = .ok (.getfield 21, 3) := by decide +kernel
theorem dX7_init_43 : decode cX7_init 43 = .ok (.invokespecial 27, 3) := by decide +kernel
theorem dX7_init_46 : decode cX7_init 46 = .ok (.putfield 30, 3) := by decide +kernel
theorem dX7_init_49 : decode cX7_init 49 = .ok (.aload_n 0, 1) := by decide +kernel
theorem dX7_init_50 : decode cX7_init 50 = .ok (.new 34, 3) := by decide +kernel
theorem dX7_init_53 : decode cX7_init 53 = .ok (.dup, 1) := by decide +kernel
theorem dX7_init_54 : decode cX7_init 54 = .ok (.aload_n 0, 1) := by decide +kernel
theorem dX7_init_55 : decode cX7_init 55 = .ok (.getfield 12, 3) := by decide +kernel
theorem dX7_init_58 : decode cX7_init 58 = .ok (.aload_n 0, 1) := by decide +kernel
theorem dX7_init_59 : decode cX7_init 59 = .ok (.getfield 21, 3) := by decide +kernel
theorem dX7_init_62 : decode cX7_init 62 = .ok (.invokespecial 36, 3) := by decide +kernel
theorem dX7_init_65 : decode cX7_init 65 = .ok (.putfield 37, 3) := by decide +kernel
theorem dX7_init_68 : decode cX7_init 68 = .ok (.aload_n 0, 1) := by decide +kernel
theorem dX7_init_69 : decode cX7_init 69 = .ok (.new 41, 3) := by decide +kernel
theorem dX7_init_72 : decode cX7_init 72 = .ok (.dup, 1) := by decide +kernel
theorem dX7_init_73 : decode cX7_init 73 = .ok (.invokespecial 43, 3) := by decide +kernel
theorem dX7_init_76 : decode cX7_init 76 = .ok (.putfield 44, 3) := by decide +kernel
theorem dX7_init_79 : decode cX7_init 79 = .ok (.aload_n 0, 1) := by decide +kernel
theorem dX7_init_80 : decode cX7_init 80 = .ok (.new 48, 3) := by decide +kernel
theorem dX7_init_83 : decode cX7_init 83 = .ok (.dup, 1) := by decide +kernel
theorem dX7_init_84 : decode cX7_init 84 = .ok (.invokespecial 50, 3) := by decide +kernel
theorem dX7_init_87 : decode cX7_init 87 = .ok (.putfield 51, 3) := by decide +kernel
theorem dX7_init_90 : decode cX7_init 90 = .ok (.return_, 1) := by decide +kernel
set_option maxRecDepth 20000 in
theorem ggX7_define_X7_isTable : GoodIn wsX7_define wsX7_isTable := goodIn_r _ [12] (by decide +kernel) (by decide +kernel)
set_option maxRecDepth 20000 in
theorem gX7_define_X7_isTable : GoodIn wsX7_define (va_wsS RX7 55 yX7_isTable wsX7_isTable) := goodIn_app (goodIn_of _ (by decide +kernel)) ggX7_define_X7_isTable
set_option maxRecDepth 20000 in
theorem ggX7_define_X7_isColumn : GoodIn wsX7_define wsX7_isColumn := goodIn_r _ [15] (by decide +kernel) (by decide +kernel)
set_option maxRecDepth 20000 in
theorem gX7_define_X7_isColumn : GoodIn wsX7_define (va_wsS RX7 59 yX7_isColumn wsX7_isColumn) := goodIn_app (goodIn_of _ (by decide +kernel)) ggX7_define_X7_isColumn
set_option maxRecDepth 20000 in
theorem ggX7_define_X7_constraintNumber : GoodIn wsX7_define wsX7_constraintNumber := goodIn_r _ [18] (by decide +kernel) (by decide +kernel)
set_option maxRecDepth 20000 in
theorem gX7_define_X7_constraintNumber : GoodIn wsX7_define (va_wsS RX7 74 yX7_constraintNumber wsX7_constraintNumber) := goodIn_app (goodIn_of _ (by decide +kernel)) ggX7_define_X7_constraintNumber
set_option maxRecDepth 20000 in
theorem ggX7_define_X4_changeCount : GoodIn wsX7_define wsX4_changeCount := goodIn_r _ [23, 24, 72, 73, 74] (by decide +kernel) (by decide +kernel)
set_option maxRecDepth 20000 in
theorem gX7_define_X4_changeCount : GoodIn wsX7_define (wsV RX7 78 RX4 yX4_changeCount wsX4_changeCount) := goodIn_app (goodIn_of _ (by decide +kernel)) ggX7_define_X4_changeCount
set_option maxRecDepth 20000 in
theorem ggX7_define_X0_isDefined : GoodIn wsX7_define wsX0_isDefined := goodIn_r _ [29, 30, 31, 32, 28, 33, 34, 75, 76, 77, 78] (by decide +kernel) (by decide +kernel)
set_option maxRecDepth 20000 in
theorem gX7_define_X0_isDefined : GoodIn wsX7_define (wsV RX7 87 RX0 yX0_isDefined wsX0_isDefined) := goodIn_app (goodIn_of _ (by decide +kernel)) ggX7_define_X0_isDefined
set_option maxRecDepth 20000 in
theorem ggX7_define_X0_countViolations : GoodIn wsX7_define wsX0_countViolations := goodIn_r _ [38, 39, 40, 11, 41, 42, 43, 44, 45, 46, 47, 48, 22, 49, 50, 51, 52, 53, 54, 75, 76, 77, 78, 72, 73, 74] (by decide +kernel) (by decide +kernel)
set_option maxRecDepth 20000 in
theorem gX7_define_X0_countViolations : GoodIn wsX7_define (wsV RX7 92 RX0 yX0_countViolations wsX0_countViolations) := goodIn_app (goodIn_of _ (by decide +kernel)) ggX7_define_X0_countViolations
set_option maxRecDepth 20000 in
theorem ggX7_define_X0_put : GoodIn wsX7_define wsX0_put := goodIn_r _ [58, 34, 59, 60, 75, 76, 77, 78] (by decide +kernel) (by decide +kernel)
set_option maxRecDepth 20000 in
theorem gX7_define_X0_put : GoodIn wsX7_define (wsV RX7 97 RX0 yX0_put wsX0_put) := goodIn_app (goodIn_of _ (by decide +kernel)) ggX7_define_X0_put
set_option maxRecDepth 20000 in
theorem ggX7_define_X0_count : GoodIn wsX7_define wsX0_count := goodIn_r _ [64, 65, 26, 27, 28, 29, 30, 31, 32, 33, 34, 75, 76, 77, 78] (by decide +kernel) (by decide +kernel)
set_option maxRecDepth 20000 in
theorem gX7_define_X0_count : GoodIn wsX7_define (wsV RX7 101 RX0 yX0_count wsX0_count) := goodIn_app (goodIn_of _ (by decide +kernel)) ggX7_define_X0_count
theorem dX7_define_0 : decode cX7_define 0 = .ok (.iload_n 1, 1) := by decide +kernel
theorem dX7_define_1 : decode cX7_define 1 = .ok (.invokestatic 55, 3) := by decide +kernel
theorem dX7_define_4 : decode cX7_define 4 = .ok (.ifCond .eq 17, 3) := by decide +kernel
theorem dX7_define_7 : decode cX7_define 7 = .ok (.iload_n 2, 1) := by decide +kernel
theorem dX7_define_8 : decode cX7_define 8 = .ok (.invokestatic 59, 3) := by decide +kernel
theorem dX7_define_11 : decode cX7_define 11 = .ok (.ifCond .eq 10, 3) := by decide +kernel
theorem dX7_define_14 : decode cX7_define 14 = .ok (.iload_n 3, 1) := by decide +kernel
theorem dX7_define_15 : decode cX7_define 15 = .ok (.invokestatic 55, 3) := by decide +kernel
theorem dX7_define_18 : decode cX7_define 18 = .ok (.ifCond .ne 13, 3) := by decide +kernel
theorem dX7_define_21 : decode cX7_define 21 = .ok (.new 62, 3) := by decide +kernel
theorem dX7_define_24 : decode cX7_define 24 = .ok (.dup, 1) := by decide +kernel
theorem dX7_define_25 : decode cX7_define 25 = .ok (.ldc 64, 2) := by decide +kernel
theorem dX7_define_27 : decode cX7_define 27 = .ok (.invokespecial 66, 3) := by decide +kernel
theorem dX7_define_30 : decode cX7_define 30 = .ok (.athrow, 1) := by decide +kernel
theorem dX7_define_31 : decode cX7_define 31 = .ok (.iload 4, 2) := by decide +kernel
theorem dX7_define_33 : decode cX7_define 33 = .ok (.ifCond .lt 9, 3) := by decide +kernel
theorem dX7_define_36 : decode cX7_define 36 = .ok (.iload 4, 2) := by decide +kernel
theorem dX7_define_38 : decode cX7_define 38 = .ok (.iconst 3, 1) := by decide +kernel
theorem dX7_define_39 : decode cX7_define 39 = .ok (.if_icmp .le 13, 3) := by decide +kernel
theorem dX7_define_42 : decode cX7_define 42 = .ok (.new 69, 3) := by decide +kernel
theorem dX7_define_45 : decode cX7_define 45 = .ok (.dup, 1) := by decide +kernel
theorem dX7_define_46 : decode cX7_define 46 = .ok (.ldc 71, 2) := by decide +kernel
theorem dX7_define_48 : decode cX7_define 48 = .ok (.invokespecial 73, 3) := by decide +kernel
theorem dX7_define_51 : decode cX7_define 51 = .ok (.athrow, 1) := by decide +kernel
theorem dX7_define_52 : decode cX7_define 52 = .ok (.iload_n 1, 1) := by decide +kernel
theorem dX7_define_53 : decode cX7_define 53 = .ok (.iload_n 2, 1) := by decide +kernel
theorem dX7_define_54 : decode cX7_define 54 = .ok (.invokestatic 74, 3) := by decide +kernel
theorem dX7_define_57 : decode cX7_define 57 = .ok (.istore 6, 2) := by decide +kernel
theorem dX7_define_59 : decode cX7_define 59 = .ok (.aload_n 0, 1) := by decide +kernel
theorem dX7_define_60 : decode cX7_define 60 = .ok (.getfield 12, 3) := by decide +kernel
theorem dX7_define_63 : decode cX7_define 63 = .ok (.invokevirtual 78, 3) := by decide +kernel
theorem dX7_define_66 : decode cX7_define 66 = .ok (.ifCond .le 13, 3) := by decide +kernel
theorem dX7_define_69 : decode cX7_define 69 = .ok (.new 82, 3) := by decide +kernel
theorem dX7_define_72 : decode cX7_define 72 = .ok (.dup, 1) := by decide +kernel
theorem dX7_define_73 : decode cX7_define 73 = .ok (.ldc 84, 2) := by decide +kernel
theorem dX7_define_75 : decode cX7_define 75 = .ok (.invokespecial 86, 3) := by decide +kernel
theorem dX7_define_78 : decode cX7_define 78 = .ok (.athrow, 1) := by decide +kernel
theorem dX7_define_79 : decode cX7_define 79 = .ok (.aload_n 0, 1) := by decide +kernel
theorem dX7_define_80 : decode cX7_define 80 = .ok (.getfield 21, 3) := by decide +kernel
theorem dX7_define_83 : decode cX7_define 83 = .ok (.iload 6, 2) := by decide +kernel
theorem dX7_define_85 : decode cX7_define 85 = .ok (.invokevirtual 87, 3) := by decide +kernel
theorem dX7_define_88 : decode cX7_define 88 = .ok (.ifCond .eq 13, 3) := by decide +kernel
theorem dX7_define_91 : decode cX7_define 91 = .ok (.new 82, 3) := by decide +kernel
theorem dX7_define_94 : decode cX7_define 94 = .ok (.dup, 1) := by decide +kernel
theorem dX7_define_95 : decode cX7_define 95 = .ok (.ldc 90, 2) := by decide +kernel
theorem dX7_define_97 : decode cX7_define 97 = .ok (.invokespecial 86, 3) := by decide +kernel
theorem dX7_define_100 : decode cX7_define 100 = .ok (.athrow, 1) := by decide +kernel
theorem dX7_define_101 : decode cX7_define 101 = .ok (.aload_n 0, 1) := by decide +kernel
theorem dX7_define_102 : decode cX7_define 102 = .ok (.getfield 21, 3) := by decide +kernel
theorem dX7_define_105 : decode cX7_define 105 = .ok (.iload 6, 2) := by decide +kernel
theorem dX7_define_107 : decode cX7_define 107 = .ok (.iload_n 3, 1) := by decide +kernel
theorem dX7_define_108 : decode cX7_define 108 = .ok (.invokevirtual 92, 3) := by decide +kernel
theorem dX7_define_111 : decode cX7_define 111 = .ok (.ifCond .le 13, 3) := by decide +kernel
theorem dX7_define_114 : decode cX7_define 114 = .ok (.new 82, 3) := by decide +kernel
theorem dX7_define_117 : decode cX7_define 117 = .ok (.dup, 1) := by decide +kernel
theorem dX7_define_118 : decode cX7_define 118 = .ok (.ldc 95, 2) := by decide +kernel
theorem dX7_define_120 : decode cX7_define 120 = .ok (.invokespecial 86, 3) := by decide +kernel
theorem dX7_define_123 : decode cX7_define 123 = .ok (.athrow, 1) := by decide +kernel
theorem dX7_define_124 : decode cX7_define 124 = .ok (.aload_n 0, 1) := by decide +kernel
theorem dX7_define_125 : decode cX7_define 125 = .ok (.getfield 21, 3) := by decide +kernel
theorem dX7_define_128 : decode cX7_define 128 = .ok (.iload 6, 2) := by decide +kernel
theorem dX7_define_130 : decode cX7_define 130 = .ok (.iload_n 3, 1) := by decide +kernel
theorem dX7_define_131 : decode cX7_define 131 = .ok (.iload 4, 2) := by decide +kernel
theorem dX7_define_133 : decode cX7_define 133 = .ok (.iload 5, 2) := by decide +kernel
theorem dX7_define_135 : decode cX7_define 135 = .ok (.invokevirtual 97, 3) := by decide +kernel
theorem dX7_define_138 : decode cX7_define 138 = .ok (.aload_n 0, 1) := by decide +kernel
theorem dX7_define_139 : decode cX7_define 139 = .ok (.getfield 21, 3) := by decide +kernel
theorem dX7_define_142 : decode cX7_define 142 = .ok (.invokevirtual 101, 3) := by decide +kernel
theorem dX7_define_145 : decode cX7_define 145 = .ok (.ireturn, 1) := by decide +kernel
set_option maxRecDepth 20000 in
theorem ggX7_drop_X7_isTable : GoodIn wsX7_drop wsX7_isTable := goodIn_r _ [10] (by decide +kernel) (by decide +kernel)
set_option maxRecDepth 20000 in
theorem gX7_drop_X7_isTable : GoodIn wsX7_drop (va_wsS RX7 55 yX7_isTable wsX7_isTable) := goodIn_app (goodIn_of _ (by decide +kernel)) ggX7_drop_X7_isTable
set_option maxRecDepth 20000 in
theorem ggX7_drop_X7_isColumn : GoodIn wsX7_drop wsX7_isColumn := goodIn_r _ [13] (by decide +kernel) (by decide +kernel)
set_option maxRecDepth 20000 in
theorem gX7_drop_X7_isColumn : GoodIn wsX7_drop (va_wsS RX7 59 yX7_isColumn wsX7_isColumn) := goodIn_app (goodIn_of _ (by decide +kernel)) ggX7_drop_X7_isColumn
set_option maxRecDepth 20000 in
theorem ggX7_drop_X7_constraintNumber : GoodIn wsX7_drop wsX7_constraintNumber := goodIn_r _ [16] (by decide +kernel) (by decide +kernel)
set_option maxRecDepth 20000 in
theorem gX7_drop_X7_constraintNumber : GoodIn wsX7_drop (va_wsS RX7 74 yX7_constraintNumber wsX7_constraintNumber) := goodIn_app (goodIn_of _ (by decide +kernel)) ggX7_drop_X7_constraintNumber
set_option maxRecDepth 20000 in
theorem ggX7_drop_X4_changeCount : GoodIn wsX7_drop wsX4_changeCount := goodIn_r _ [21, 22, 54, 55, 56] (by decide +kernel) (by decide +kernel)
set_option maxRecDepth 20000 in
theorem gX7_drop_X4_changeCount : GoodIn wsX7_drop (wsV RX7 78 RX4 yX4_changeCount wsX4_changeCount) := goodIn_app (goodIn_of _ (by decide +kernel)) ggX7_drop_X4_changeCount
set_option maxRecDepth 20000 in
theorem ggX7_drop_X0_isDefined : GoodIn wsX7_drop wsX0_isDefined := goodIn_r _ [27, 28, 29, 30, 26, 31, 32, 57, 58, 59, 60] (by decide +kernel) (by decide +kernel)
set_option maxRecDepth 20000 in
theorem gX7_drop_X0_isDefined : GoodIn wsX7_drop (wsV RX7 87 RX0 yX0_isDefined wsX0_isDefined) := goodIn_app (goodIn_of _ (by decide +kernel)) ggX7_drop_X0_isDefined
set_option maxRecDepth 20000 in
theorem ggX7_drop_X0_remove : GoodIn wsX7_drop wsX0_remove := goodIn_r _ [36, 37, 38, 39, 26, 40, 32, 41, 42, 57, 58, 59, 60] (by decide +kernel) (by decide +kernel)
set_option maxRecDepth 20000 in
theorem gX7_drop_X0_remove : GoodIn wsX7_drop (wsV RX7 108 RX0 yX0_remove wsX0_remove) := goodIn_app (goodIn_of _ (by decide +kernel)) ggX7_drop_X0_remove
set_option maxRecDepth 20000 in
theorem ggX7_drop_X0_count : GoodIn wsX7_drop wsX0_count := goodIn_r _ [46, 47, 24, 25, 26, 27, 28, 29, 30, 31, 32, 57, 58, 59, 60] (by decide +kernel) (by decide +kernel)
set_option maxRecDepth 20000 in
theorem gX7_drop_X0_count : GoodIn wsX7_drop (wsV RX7 101 RX0 yX0_count wsX0_count) := goodIn_app (goodIn_of _ (by decide +kernel)) ggX7_drop_X0_count
theorem dX7_drop_0 : decode cX7_drop 0 = .ok (.iload_n 1, 1) := by decide +kernel
theorem dX7_drop_1 : decode cX7_drop 1 = .ok (.invokestatic 55, 3) := by decide +kernel
theorem dX7_drop_4 : decode cX7_drop 4 = .ok (.ifCond .eq 10, 3) := by decide +kernel
theorem dX7_drop_7 : decode cX7_drop 7 = .ok (.iload_n 2, 1) := by decide +kernel
theorem dX7_drop_8 : decode cX7_drop 8 = .ok (.invokestatic 59, 3) := by decide +kernel
theorem dX7_drop_11 : decode cX7_drop 11 = .ok (.ifCond .ne 13, 3) := by decide +kernel
theorem dX7_drop_14 : decode cX7_drop 14 = .ok (.new 62, 3) := by decide +kernel
theorem dX7_drop_17 : decode cX7_drop 17 = .ok (.dup, 1) := by decide +kernel
theorem dX7_drop_18 : decode cX7_drop 18 = .ok (.ldc 104, 2) := by decide +kernel
theorem dX7_drop_20 : decode cX7_drop 20 = .ok (.invokespecial 66, 3) := by decide +kernel
theorem dX7_drop_23 : decode cX7_drop 23 = .ok (.athrow, 1) := by decide +kernel
theorem dX7_drop_24 : decode cX7_drop 24 = .ok (.iload_n 1, 1) := by decide +kernel
theorem dX7_drop_25 : decode cX7_drop 25 = .ok (.iload_n 2, 1) := by decide +kernel
theorem dX7_drop_26 : decode cX7_drop 26 = .ok (.invokestatic 74, 3) := by decide +kernel
theorem dX7_drop_29 : decode cX7_drop 29 = .ok (.istore_n 3, 1) := by decide +kernel
theorem dX7_drop_30 : decode cX7_drop 30 = .ok (.aload_n 0, 1) := by decide +kernel
theorem dX7_drop_31 : decode cX7_drop 31 = .ok (.getfield 12, 3) := by decide +kernel
theorem dX7_drop_34 : decode cX7_drop 34 = .ok (.invokevirtual 78, 3) := by decide +kernel
theorem dX7_drop_37 : decode cX7_drop 37 = .ok (.ifCond .le 13, 3) := by decide +kernel
theorem dX7_drop_40 : decode cX7_drop 40 = .ok (.new 82, 3) := by decide +kernel
theorem dX7_drop_43 : decode cX7_drop 43 = .ok (.dup, 1) := by decide +kernel
theorem dX7_drop_44 : decode cX7_drop 44 = .ok (.ldc 84, 2) := by decide +kernel
theorem dX7_drop_46 : decode cX7_drop 46 = .ok (.invokespecial 86, 3) := by decide +kernel
theorem dX7_drop_49 : decode cX7_drop 49 = .ok (.athrow, 1) := by decide +kernel
theorem dX7_drop_50 : decode cX7_drop 50 = .ok (.aload_n 0, 1) := by decide +kernel
theorem dX7_drop_51 : decode cX7_drop 51 = .ok (.getfield 21, 3) := by decide +kernel
theorem dX7_drop_54 : decode cX7_drop 54 = .ok (.iload_n 3, 1) := by decide +kernel
theorem dX7_drop_55 : decode cX7_drop 55 = .ok (.invokevirtual 87, 3) := by decide +kernel
theorem dX7_drop_58 : decode cX7_drop 58 = .ok (.ifCond .ne 13, 3) := by decide +kernel
theorem dX7_drop_61 : decode cX7_drop 61 = .ok (.new 82, 3) := by decide +kernel
theorem dX7_drop_64 : decode cX7_drop 64 = .ok (.dup, 1) := by decide +kernel
theorem dX7_drop_65 : decode cX7_drop 65 = .ok (.ldc 106, 2) := by decide +kernel
theorem dX7_drop_67 : decode cX7_drop 67 = .ok (.invokespecial 86, 3) := by decide +kernel
theorem dX7_drop_70 : decode cX7_drop 70 = .ok (.athrow, 1) := by decide +kernel
theorem dX7_drop_71 : decode cX7_drop 71 = .ok (.aload_n 0, 1) := by decide +kernel
theorem dX7_drop_72 : decode cX7_drop 72 = .ok (.getfield 21, 3) := by decide +kernel
theorem dX7_drop_75 : decode cX7_drop 75 = .ok (.iload_n 3, 1) := by decide +kernel
theorem dX7_drop_76 : decode cX7_drop 76 = .ok (.invokevirtual 108, 3) := by decide +kernel
theorem dX7_drop_79 : decode cX7_drop 79 = .ok (.aload_n 0, 1) := by decide +kernel
theorem dX7_drop_80 : decode cX7_drop 80 = .ok (.getfield 21, 3) := by decide +kernel
theorem dX7_drop_83 : decode cX7_drop 83 = .ok (.invokevirtual 101, 3) := by decide +kernel
theorem dX7_drop_86 : decode cX7_drop 86 = .ok (.ireturn, 1) := by decide +kernel
set_option maxRecDepth 20000 in
theorem ggX7_setMode_X7_isTable : GoodIn wsX7_setMode wsX7_isTable := goodIn_r _ [9] (by decide +kernel) (by decide +kernel)
set_option maxRecDepth 20000 in
theorem gX7_setMode_X7_isTable : GoodIn wsX7_setMode (va_wsS RX7 55 yX7_isTable wsX7_isTable) := goodIn_app (goodIn_of _ (by decide +kernel)) ggX7_setMode_X7_isTable
set_option maxRecDepth 20000 in
theorem ggX7_setMode_X7_isColumn : GoodIn wsX7_setMode wsX7_isColumn := goodIn_r _ [12] (by decide +kernel) (by decide +kernel)
set_option maxRecDepth 20000 in
theorem gX7_setMode_X7_isColumn : GoodIn wsX7_setMode (va_wsS RX7 59 yX7_isColumn wsX7_isColumn) := goodIn_app (goodIn_of _ (by decide +kernel)) ggX7_setMode_X7_isColumn
set_option maxRecDepth 20000 in
theorem ggX7_setMode_X7_constraintNumber : GoodIn wsX7_setMode wsX7_constraintNumber := goodIn_r _ [15] (by decide +kernel) (by decide +kernel)
set_option maxRecDepth 20000 in
theorem gX7_setMode_X7_constraintNumber : GoodIn wsX7_setMode (va_wsS RX7 74 yX7_constraintNumber wsX7_constraintNumber) := goodIn_app (goodIn_of _ (by decide +kernel)) ggX7_setMode_X7_constraintNumber
set_option maxRecDepth 20000 in
theorem ggX7_setMode_X0_isDefined : GoodIn wsX7_setMode wsX0_isDefined := goodIn_r _ [20, 21, 22, 23, 19, 24, 25, 66, 67, 68, 69] (by decide +kernel) (by decide +kernel)
set_option maxRecDepth 20000 in
theorem gX7_setMode_X0_isDefined : GoodIn wsX7_setMode (wsV RX7 87 RX0 yX0_isDefined wsX0_isDefined) := goodIn_app (goodIn_of _ (by decide +kernel)) ggX7_setMode_X0_isDefined
set_option maxRecDepth 20000 in
theorem ggX7_setMode_X0_isDeferred : GoodIn wsX7_setMode wsX0_isDeferred := goodIn_r _ [29, 30, 66, 67, 68, 69] (by decide +kernel) (by decide +kernel)
set_option maxRecDepth 20000 in
theorem gX7_setMode_X0_isDeferred : GoodIn wsX7_setMode (wsV RX7 112 RX0 yX0_isDeferred wsX0_isDeferred) := goodIn_app (goodIn_of _ (by decide +kernel)) ggX7_setMode_X0_isDeferred
set_option maxRecDepth 20000 in
theorem ggX7_setMode_X0_parentOf : GoodIn wsX7_setMode wsX0_parentOf := goodIn_r _ [24, 25, 66, 67, 68, 69] (by decide +kernel) (by decide +kernel)
set_option maxRecDepth 20000 in
theorem gX7_setMode_X0_parentOf : GoodIn wsX7_setMode (wsV RX7 115 RX0 yX0_parentOf wsX0_parentOf) := goodIn_app (goodIn_of _ (by decide +kernel)) ggX7_setMode_X0_parentOf
set_option maxRecDepth 20000 in
theorem ggX7_setMode_X0_countViolations : GoodIn wsX7_setMode wsX0_countViolations := goodIn_r _ [35, 36, 37, 8, 38, 39, 40, 41, 42, 43, 44, 45, 46, 47, 48, 49, 50, 51, 52, 66, 67, 68, 69, 70, 71, 72] (by decide +kernel) (by decide +kernel)
set_option maxRecDepth 20000 in
theorem gX7_setMode_X0_countViolations : GoodIn wsX7_setMode (wsV RX7 92 RX0 yX0_countViolations wsX0_countViolations) := goodIn_app (goodIn_of _ (by decide +kernel)) ggX7_setMode_X0_countViolations
set_option maxRecDepth 20000 in
theorem ggX7_setMode_X7_refusalBecauseOf : GoodIn wsX7_setMode wsX7_refusalBecauseOf := goodIn_r _ [55] (by decide +kernel) (by decide +kernel)
set_option maxRecDepth 20000 in
theorem gX7_setMode_X7_refusalBecauseOf : GoodIn wsX7_setMode (va_wsS RX7 119 yX7_refusalBecauseOf wsX7_refusalBecauseOf) := goodIn_app (goodIn_of _ (by decide +kernel)) ggX7_setMode_X7_refusalBecauseOf
set_option maxRecDepth 20000 in
theorem ggX7_setMode_X0_putMode : GoodIn wsX7_setMode wsX0_putMode := goodIn_r _ [59, 30, 66, 67, 68, 69] (by decide +kernel) (by decide +kernel)
set_option maxRecDepth 20000 in
theorem gX7_setMode_X0_putMode : GoodIn wsX7_setMode (wsV RX7 122 RX0 yX0_putMode wsX0_putMode) := goodIn_app (goodIn_of _ (by decide +kernel)) ggX7_setMode_X0_putMode
theorem dX7_setMode_0 : decode cX7_setMode 0 = .ok (.iload_n 1, 1) := by decide +kernel
theorem dX7_setMode_1 : decode cX7_setMode 1 = .ok (.invokestatic 55, 3) := by decide +kernel
theorem dX7_setMode_4 : decode cX7_setMode 4 = .ok (.ifCond .eq 10, 3) := by decide +kernel
theorem dX7_setMode_7 : decode cX7_setMode 7 = .ok (.iload_n 2, 1) := by decide +kernel
theorem dX7_setMode_8 : decode cX7_setMode 8 = .ok (.invokestatic 59, 3) := by decide +kernel
theorem dX7_setMode_11 : decode cX7_setMode 11 = .ok (.ifCond .ne 13, 3) := by decide +kernel
theorem dX7_setMode_14 : decode cX7_setMode 14 = .ok (.new 62, 3) := by decide +kernel
theorem dX7_setMode_17 : decode cX7_setMode 17 = .ok (.dup, 1) := by decide +kernel
theorem dX7_setMode_18 : decode cX7_setMode 18 = .ok (.ldc 104, 2) := by decide +kernel
theorem dX7_setMode_20 : decode cX7_setMode 20 = .ok (.invokespecial 66, 3) := by decide +kernel
theorem dX7_setMode_23 : decode cX7_setMode 23 = .ok (.athrow, 1) := by decide +kernel
theorem dX7_setMode_24 : decode cX7_setMode 24 = .ok (.iload_n 1, 1) := by decide +kernel
theorem dX7_setMode_25 : decode cX7_setMode 25 = .ok (.iload_n 2, 1) := by decide +kernel
theorem dX7_setMode_26 : decode cX7_setMode 26 = .ok (.invokestatic 74, 3) := by decide +kernel
theorem dX7_setMode_29 : decode cX7_setMode 29 = .ok (.istore 4, 2) := by decide +kernel
theorem dX7_setMode_31 : decode cX7_setMode 31 = .ok (.aload_n 0, 1) := by decide +kernel
theorem dX7_setMode_32 : decode cX7_setMode 32 = .ok (.getfield 21, 3) := by decide +kernel
theorem dX7_setMode_35 : decode cX7_setMode 35 = .ok (.iload 4, 2) := by decide +kernel
theorem dX7_setMode_37 : decode cX7_setMode 37 = .ok (.invokevirtual 87, 3) := by decide +kernel
theorem dX7_setMode_40 : decode cX7_setMode 40 = .ok (.ifCond .ne 13, 3) := by decide +kernel
theorem dX7_setMode_43 : decode cX7_setMode 43 = .ok (.new 82, 3) := by decide +kernel
theorem dX7_setMode_46 : decode cX7_setMode 46 = .ok (.dup, 1) := by decide +kernel
theorem dX7_setMode_47 : decode cX7_setMode 47 = .ok (.ldc 106, 2) := by decide +kernel
theorem dX7_setMode_49 : decode cX7_setMode 49 = .ok (.invokespecial 86, 3) := by decide +kernel
theorem dX7_setMode_52 : decode cX7_setMode 52 = .ok (.athrow, 1) := by decide +kernel
theorem dX7_setMode_53 : decode cX7_setMode 53 = .ok (.aload_n 0, 1) := by decide +kernel
theorem dX7_setMode_54 : decode cX7_setMode 54 = .ok (.getfield 21, 3) := by decide +kernel
theorem dX7_setMode_57 : decode cX7_setMode 57 = .ok (.iload 4, 2) := by decide +kernel
theorem dX7_setMode_59 : decode cX7_setMode 59 = .ok (.invokevirtual 112, 3) := by decide +kernel
theorem dX7_setMode_62 : decode cX7_setMode 62 = .ok (.iload_n 3, 1) := by decide +kernel
theorem dX7_setMode_63 : decode cX7_setMode 63 = .ok (.if_icmp .ne 5, 3) := by decide +kernel
theorem dX7_setMode_66 : decode cX7_setMode 66 = .ok (.iconst 0, 1) := by decide +kernel
theorem dX7_setMode_67 : decode cX7_setMode 67 = .ok (.ireturn, 1) := by decide +kernel
theorem dX7_setMode_68 : decode cX7_setMode 68 = .ok (.iload_n 3, 1) := by decide +kernel
theorem dX7_setMode_69 : decode cX7_setMode 69 = .ok (.ifCond .ne 30, 3) := by decide +kernel
theorem dX7_setMode_72 : decode cX7_setMode 72 = .ok (.aload_n 0, 1) := by decide +kernel
theorem dX7_setMode_73 : decode cX7_setMode 73 = .ok (.getfield 21, 3) := by decide +kernel
theorem dX7_setMode_76 : decode cX7_setMode 76 = .ok (.iload 4, 2) := by decide +kernel
theorem dX7_setMode_78 : decode cX7_setMode 78 = .ok (.aload_n 0, 1) := by decide +kernel
theorem dX7_setMode_79 : decode cX7_setMode 79 = .ok (.getfield 21, 3) := by decide +kernel
theorem dX7_setMode_82 : decode cX7_setMode 82 = .ok (.iload 4, 2) := by decide +kernel
theorem dX7_setMode_84 : decode cX7_setMode 84 = .ok (.invokevirtual 115, 3) := by decide +kernel
theorem dX7_setMode_87 : decode cX7_setMode 87 = .ok (.invokevirtual 92, 3) := by decide +kernel
theorem dX7_setMode_90 : decode cX7_setMode 90 = .ok (.ifCond .le 9, 3) := by decide +kernel
theorem dX7_setMode_93 : decode cX7_setMode 93 = .ok (.iload 4, 2) := by decide +kernel
theorem dX7_setMode_95 : decode cX7_setMode 95 = .ok (.invokestatic 119, 3) := by decide +kernel
theorem dX7_setMode_98 : decode cX7_setMode 98 = .ok (.ireturn, 1) := by decide +kernel
theorem dX7_setMode_99 : decode cX7_setMode 99 = .ok (.aload_n 0, 1) := by decide +kernel
theorem dX7_setMode_100 : decode cX7_setMode 100 = .ok (.getfield 21, 3) := by decide +kernel
theorem dX7_setMode_103 : decode cX7_setMode 103 = .ok (.iload 4, 2) := by decide +kernel
theorem dX7_setMode_105 : decode cX7_setMode 105 = .ok (.iload_n 3, 1) := by decide +kernel
theorem dX7_setMode_106 : decode cX7_setMode 106 = .ok (.invokevirtual 122, 3) := by decide +kernel
theorem dX7_setMode_109 : decode cX7_setMode 109 = .ok (.iconst 1, 1) := by decide +kernel
theorem dX7_setMode_110 : decode cX7_setMode 110 = .ok (.ireturn, 1) := by decide +kernel
set_option maxRecDepth 20000 in
theorem ggX7_insert_X7_isTable : GoodIn wsX7_insert wsX7_isTable := goodIn_r _ [10] (by decide +kernel) (by decide +kernel)
set_option maxRecDepth 20000 in
theorem gX7_insert_X7_isTable : GoodIn wsX7_insert (va_wsS RX7 55 yX7_isTable wsX7_isTable) := goodIn_app (goodIn_of _ (by decide +kernel)) ggX7_insert_X7_isTable
set_option maxRecDepth 20000 in
theorem ggX7_insert_X7_isKey : GoodIn wsX7_insert wsX7_isKey := goodIn_r _ [13] (by decide +kernel) (by decide +kernel)
set_option maxRecDepth 20000 in
theorem gX7_insert_X7_isKey : GoodIn wsX7_insert (va_wsS RX7 126 yX7_isKey wsX7_isKey) := goodIn_app (goodIn_of _ (by decide +kernel)) ggX7_insert_X7_isKey
set_option maxRecDepth 20000 in
theorem ggX7_insert_X7_isValue : GoodIn wsX7_insert wsX7_isValue := goodIn_r _ [16, 11, 12, 9, 13] (by decide +kernel) (by decide +kernel)
set_option maxRecDepth 20000 in
theorem gX7_insert_X7_isValue : GoodIn wsX7_insert (va_wsS RX7 131 yX7_isValue wsX7_isValue) := goodIn_app (goodIn_of _ (by decide +kernel)) ggX7_insert_X7_isValue
set_option maxRecDepth 20000 in
theorem ggX7_insert_X7_rowNumber : GoodIn wsX7_insert wsX7_rowNumber := goodIn_r _ [19] (by decide +kernel) (by decide +kernel)
set_option maxRecDepth 20000 in
theorem gX7_insert_X7_rowNumber : GoodIn wsX7_insert (va_wsS RX7 136 yX7_rowNumber wsX7_rowNumber) := goodIn_app (goodIn_of _ (by decide +kernel)) ggX7_insert_X7_rowNumber
set_option maxRecDepth 20000 in
theorem ggX7_insert_X7_insertRow : GoodIn wsX7_insert wsX7_insertRow := goodIn_r _ [23, 24, 25, 26, 27, 28, 29, 30, 31, 32, 33, 34, 35, 36, 37, 38, 39, 40, 41, 42, 43, 44, 45, 46, 47, 48, 49, 50, 51, 52, 53, 54, 55, 56, 57, 58, 59, 60, 61, 62, 63, 9, 64, 65, 66, 67, 68, 69, 70, 71, 72, 73, 74, 75, 76, 77, 78, 79, 80, 81, 82, 83, 84, 85, 86, 87, 18, 19, 88, 89, 90, 91, 92, 93, 94, 95, 96, 97, 98, 99, 100, 101, 102, 103, 104, 105, 106, 107, 108, 109, 110, 111, 112, 113, 114, 115, 116, 117] (by decide +kernel) (by decide +kernel)
set_option maxRecDepth 20000 in
theorem gX7_insert_X7_insertRow : GoodIn wsX7_insert (wsV RX7 139 RX7 yX7_insertRow wsX7_insertRow) := goodIn_app (goodIn_of _ (by decide +kernel)) ggX7_insert_X7_insertRow
theorem dX7_insert_0 : decode cX7_insert 0 = .ok (.iload_n 1, 1) := by decide +kernel
theorem dX7_insert_1 : decode cX7_insert 1 = .ok (.invokestatic 55, 3) := by decide +kernel
theorem dX7_insert_4 : decode cX7_insert 4 = .ok (.ifCond .eq 10, 3) := by decide +kernel
theorem dX7_insert_7 : decode cX7_insert 7 = .ok (.iload_n 2, 1) := by decide +kernel
theorem dX7_insert_8 : decode cX7_insert 8 = .ok (.invokestatic 126, 3) := by decide +kernel
theorem dX7_insert_11 : decode cX7_insert 11 = .ok (.ifCond .ne 13, 3) := by decide +kernel
theorem dX7_insert_14 : decode cX7_insert 14 = .ok (.new 62, 3) := by decide +kernel
theorem dX7_insert_17 : decode cX7_insert 17 = .ok (.dup, 1) := by decide +kernel
theorem dX7_insert_18 : decode cX7_insert 18 = .ok (.ldc 129, 2) := by decide +kernel
theorem dX7_insert_20 : decode cX7_insert 20 = .ok (.invokespecial 66, 3) := by decide +kernel
theorem dX7_insert_23 : decode cX7_insert 23 = .ok (.athrow, 1) := by decide +kernel
theorem dX7_insert_24 : decode cX7_insert 24 = .ok (.iload_n 3, 1) := by decide +kernel
theorem dX7_insert_25 : decode cX7_insert 25 = .ok (.invokestatic 131, 3) := by decide +kernel
theorem dX7_insert_28 : decode cX7_insert 28 = .ok (.ifCond .eq 11, 3) := by decide +kernel
theorem dX7_insert_31 : decode cX7_insert 31 = .ok (.iload 4, 2) := by decide +kernel
theorem dX7_insert_33 : decode cX7_insert 33 = .ok (.invokestatic 131, 3) := by decide +kernel
theorem dX7_insert_36 : decode cX7_insert 36 = .ok (.ifCond .ne 13, 3) := by decide +kernel
theorem dX7_insert_39 : decode cX7_insert 39 = .ok (.new 69, 3) := by decide +kernel
theorem dX7_insert_42 : decode cX7_insert 42 = .ok (.dup, 1) := by decide +kernel
theorem dX7_insert_43 : decode cX7_insert 43 = .ok (.ldc 134, 2) := by decide +kernel
theorem dX7_insert_45 : decode cX7_insert 45 = .ok (.invokespecial 73, 3) := by decide +kernel
theorem dX7_insert_48 : decode cX7_insert 48 = .ok (.athrow, 1) := by decide +kernel
theorem dX7_insert_49 : decode cX7_insert 49 = .ok (.aload_n 0, 1) := by decide +kernel
theorem dX7_insert_50 : decode cX7_insert 50 = .ok (.iload_n 1, 1) := by decide +kernel
theorem dX7_insert_51 : decode cX7_insert 51 = .ok (.iload_n 2, 1) := by decide +kernel
theorem dX7_insert_52 : decode cX7_insert 52 = .ok (.invokestatic 136, 3) := by decide +kernel
theorem dX7_insert_55 : decode cX7_insert 55 = .ok (.iload_n 3, 1) := by decide +kernel
theorem dX7_insert_56 : decode cX7_insert 56 = .ok (.iload 4, 2) := by decide +kernel
theorem dX7_insert_58 : decode cX7_insert 58 = .ok (.invokevirtual 139, 3) := by decide +kernel
theorem dX7_insert_61 : decode cX7_insert 61 = .ok (.istore 5, 2) := by decide +kernel
theorem dX7_insert_63 : decode cX7_insert 63 = .ok (.iload 5, 2) := by decide +kernel
theorem dX7_insert_65 : decode cX7_insert 65 = .ok (.bipush (-3), 2) := by decide +kernel
theorem dX7_insert_67 : decode cX7_insert 67 = .ok (.if_icmp .ne 13, 3) := by decide +kernel
theorem dX7_insert_70 : decode cX7_insert 70 = .ok (.new 82, 3) := by decide +kernel
theorem dX7_insert_73 : decode cX7_insert 73 = .ok (.dup, 1) := by decide +kernel
theorem dX7_insert_74 : decode cX7_insert 74 = .ok (.ldc 143, 2) := by decide +kernel
theorem dX7_insert_76 : decode cX7_insert 76 = .ok (.invokespecial 86, 3) := by decide +kernel
theorem dX7_insert_79 : decode cX7_insert 79 = .ok (.athrow, 1) := by decide +kernel
theorem dX7_insert_80 : decode cX7_insert 80 = .ok (.iload 5, 2) := by decide +kernel
theorem dX7_insert_82 : decode cX7_insert 82 = .ok (.ireturn, 1) := by decide +kernel
set_option maxRecDepth 20000 in
theorem ggX7_update_X7_isTable : GoodIn wsX7_update wsX7_isTable := goodIn_r _ [10] (by decide +kernel) (by decide +kernel)
set_option maxRecDepth 20000 in
theorem gX7_update_X7_isTable : GoodIn wsX7_update (va_wsS RX7 55 yX7_isTable wsX7_isTable) := goodIn_app (goodIn_of _ (by decide +kernel)) ggX7_update_X7_isTable
set_option maxRecDepth 20000 in
theorem ggX7_update_X7_isKey : GoodIn wsX7_update wsX7_isKey := goodIn_r _ [13] (by decide +kernel) (by decide +kernel)
set_option maxRecDepth 20000 in
theorem gX7_update_X7_isKey : GoodIn wsX7_update (va_wsS RX7 126 yX7_isKey wsX7_isKey) := goodIn_app (goodIn_of _ (by decide +kernel)) ggX7_update_X7_isKey
set_option maxRecDepth 20000 in
theorem ggX7_update_X7_isColumn : GoodIn wsX7_update wsX7_isColumn := goodIn_r _ [16] (by decide +kernel) (by decide +kernel)
set_option maxRecDepth 20000 in
theorem gX7_update_X7_isColumn : GoodIn wsX7_update (va_wsS RX7 59 yX7_isColumn wsX7_isColumn) := goodIn_app (goodIn_of _ (by decide +kernel)) ggX7_update_X7_isColumn
set_option maxRecDepth 20000 in
theorem ggX7_update_X7_isValue : GoodIn wsX7_update wsX7_isValue := goodIn_r _ [19, 11, 12, 9, 13] (by decide +kernel) (by decide +kernel)
set_option maxRecDepth 20000 in
theorem gX7_update_X7_isValue : GoodIn wsX7_update (va_wsS RX7 131 yX7_isValue wsX7_isValue) := goodIn_app (goodIn_of _ (by decide +kernel)) ggX7_update_X7_isValue
set_option maxRecDepth 20000 in
theorem ggX7_update_X7_rowNumber : GoodIn wsX7_update wsX7_rowNumber := goodIn_r _ [22] (by decide +kernel) (by decide +kernel)
set_option maxRecDepth 20000 in
theorem gX7_update_X7_rowNumber : GoodIn wsX7_update (va_wsS RX7 136 yX7_rowNumber wsX7_rowNumber) := goodIn_app (goodIn_of _ (by decide +kernel)) ggX7_update_X7_rowNumber
set_option maxRecDepth 20000 in
theorem ggX7_update_X7_updateRow : GoodIn wsX7_update wsX7_updateRow := goodIn_r _ [26, 27, 28, 29, 30, 31, 32, 33, 34, 35, 36, 37, 38, 39, 40, 41, 42, 43, 44, 45, 46, 47, 48, 49, 50, 51, 52, 53, 54, 55, 56, 57, 58, 59, 60, 61, 62, 63, 64, 65, 66, 67, 68, 69, 70, 71, 72, 73, 74, 9, 75, 76, 77, 78, 79, 80, 81, 82, 83, 84, 85, 86, 87, 88, 89, 90, 91, 92, 93, 94, 95, 96, 97, 98, 21, 22, 99, 100, 101, 102, 103, 104, 105, 106, 107, 108, 109, 110, 111, 112, 113, 114, 115, 116, 117, 118, 119, 120, 121, 122, 123, 124, 125] (by decide +kernel) (by decide +kernel)
set_option maxRecDepth 20000 in
theorem gX7_update_X7_updateRow : GoodIn wsX7_update (wsV RX7 149 RX7 yX7_updateRow wsX7_updateRow) := goodIn_app (goodIn_of _ (by decide +kernel)) ggX7_update_X7_updateRow
theorem dX7_update_0 : decode cX7_update 0 = .ok (.iload_n 1, 1) := by decide +kernel
theorem dX7_update_1 : decode cX7_update 1 = .ok (.invokestatic 55, 3) := by decide +kernel
theorem dX7_update_4 : decode cX7_update 4 = .ok (.ifCond .eq 17, 3) := by decide +kernel
theorem dX7_update_7 : decode cX7_update 7 = .ok (.iload_n 2, 1) := by decide +kernel
theorem dX7_update_8 : decode cX7_update 8 = .ok (.invokestatic 126, 3) := by decide +kernel
theorem dX7_update_11 : decode cX7_update 11 = .ok (.ifCond .eq 10, 3) := by decide +kernel
theorem dX7_update_14 : decode cX7_update 14 = .ok (.iload_n 3, 1) := by decide +kernel
theorem dX7_update_15 : decode cX7_update 15 = .ok (.invokestatic 59, 3) := by decide +kernel
theorem dX7_update_18 : decode cX7_update 18 = .ok (.ifCond .ne 13, 3) := by decide +kernel
theorem dX7_update_21 : decode cX7_update 21 = .ok (.new 62, 3) := by decide +kernel
theorem dX7_update_24 : decode cX7_update 24 = .ok (.dup, 1) := by decide +kernel
theorem dX7_update_25 : decode cX7_update 25 = .ok (.ldc 145, 2) := by decide +kernel
theorem dX7_update_27 : decode cX7_update 27 = .ok (.invokespecial 66, 3) := by decide +kernel
theorem dX7_update_30 : decode cX7_update 30 = .ok (.athrow, 1) := by decide +kernel
theorem dX7_update_31 : decode cX7_update 31 = .ok (.iload 4, 2) := by decide +kernel
theorem dX7_update_33 : decode cX7_update 33 = .ok (.invokestatic 131, 3) := by decide +kernel
theorem dX7_update_36 : decode cX7_update 36 = .ok (.ifCond .ne 13, 3) := by decide +kernel
theorem dX7_update_39 : decode cX7_update 39 = .ok (.new 69, 3) := by decide +kernel
theorem dX7_update_42 : decode cX7_update 42 = .ok (.dup, 1) := by decide +kernel
theorem dX7_update_43 : decode cX7_update 43 = .ok (.ldc 147, 2) := by decide +kernel
theorem dX7_update_45 : decode cX7_update 45 = .ok (.invokespecial 73, 3) := by decide +kernel
theorem dX7_update_48 : decode cX7_update 48 = .ok (.athrow, 1) := by decide +kernel
theorem dX7_update_49 : decode cX7_update 49 = .ok (.aload_n 0, 1) := by decide +kernel
theorem dX7_update_50 : decode cX7_update 50 = .ok (.iload_n 1, 1) := by decide +kernel
theorem dX7_update_51 : decode cX7_update 51 = .ok (.iload_n 2, 1) := by decide +kernel
theorem dX7_update_52 : decode cX7_update 52 = .ok (.invokestatic 136, 3) := by decide +kernel
theorem dX7_update_55 : decode cX7_update 55 = .ok (.iload_n 3, 1) := by decide +kernel
theorem dX7_update_56 : decode cX7_update 56 = .ok (.iload 4, 2) := by decide +kernel
theorem dX7_update_58 : decode cX7_update 58 = .ok (.invokevirtual 149, 3) := by decide +kernel
theorem dX7_update_61 : decode cX7_update 61 = .ok (.istore 5, 2) := by decide +kernel
theorem dX7_update_63 : decode cX7_update 63 = .ok (.iload 5, 2) := by decide +kernel
theorem dX7_update_65 : decode cX7_update 65 = .ok (.bipush (-3), 2) := by decide +kernel
theorem dX7_update_67 : decode cX7_update 67 = .ok (.if_icmp .ne 13, 3) := by decide +kernel
theorem dX7_update_70 : decode cX7_update 70 = .ok (.new 82, 3) := by decide +kernel
theorem dX7_update_73 : decode cX7_update 73 = .ok (.dup, 1) := by decide +kernel
theorem dX7_update_74 : decode cX7_update 74 = .ok (.ldc 152, 2) := by decide +kernel
theorem dX7_update_76 : decode cX7_update 76 = .ok (.invokespecial 86, 3) := by decide +kernel
theorem dX7_update_79 : decode cX7_update 79 = .ok (.athrow, 1) := by decide +kernel
theorem dX7_update_80 : decode cX7_update 80 = .ok (.iload 5, 2) := by decide +kernel
theorem dX7_update_82 : decode cX7_update 82 = .ok (.ireturn, 1) := by decide +kernel
set_option maxRecDepth 20000 in
theorem ggX7_delete_X7_isTable : GoodIn wsX7_delete wsX7_isTable := goodIn_r _ [8] (by decide +kernel) (by decide +kernel)
set_option maxRecDepth 20000 in
theorem gX7_delete_X7_isTable : GoodIn wsX7_delete (va_wsS RX7 55 yX7_isTable wsX7_isTable) := goodIn_app (goodIn_of _ (by decide +kernel)) ggX7_delete_X7_isTable
set_option maxRecDepth 20000 in
theorem ggX7_delete_X7_isKey : GoodIn wsX7_delete wsX7_isKey := goodIn_r _ [11] (by decide +kernel) (by decide +kernel)
set_option maxRecDepth 20000 in
theorem gX7_delete_X7_isKey : GoodIn wsX7_delete (va_wsS RX7 126 yX7_isKey wsX7_isKey) := goodIn_app (goodIn_of _ (by decide +kernel)) ggX7_delete_X7_isKey
set_option maxRecDepth 20000 in
theorem ggX7_delete_X7_rowNumber : GoodIn wsX7_delete wsX7_rowNumber := goodIn_r _ [14] (by decide +kernel) (by decide +kernel)
set_option maxRecDepth 20000 in
theorem gX7_delete_X7_rowNumber : GoodIn wsX7_delete (va_wsS RX7 136 yX7_rowNumber wsX7_rowNumber) := goodIn_app (goodIn_of _ (by decide +kernel)) ggX7_delete_X7_rowNumber
set_option maxRecDepth 20000 in
theorem ggX7_delete_X7_deleteRow : GoodIn wsX7_delete wsX7_deleteRow := goodIn_r _ [18, 19, 20, 21, 22, 23, 24, 25, 26, 27, 28, 29, 30, 31, 32, 33, 34, 35, 36, 37, 38, 39, 40, 41, 42, 43, 44, 45, 46, 47, 48, 49, 50, 51, 52, 53, 54, 55, 56, 57, 58, 59, 60, 61, 62, 63, 64, 65, 66, 67, 68, 69, 70, 71, 72, 73, 74, 75, 76, 77, 78, 79, 80, 81, 82, 83, 84, 85, 86, 87, 88, 89, 90, 91, 92, 93, 94, 95, 96, 97, 98, 99, 7, 100, 13, 14, 101, 102, 103, 104, 105, 106, 107, 108, 109, 110, 111, 112, 113, 114, 115, 116, 117, 118, 119, 120, 121, 122, 123, 124, 125, 126, 127, 128, 129, 130, 131, 132, 133, 134, 135, 136, 137, 138, 139, 140, 141, 142, 143, 144, 145, 146, 147, 148, 149, 150, 151, 152, 153, 154, 155, 156, 157, 158, 159, 160, 161, 162, 163, 164, 165, 166, 167, 168, 169] (by decide +kernel) (by decide +kernel)
set_option maxRecDepth 20000 in
theorem gX7_delete_X7_deleteRow : GoodIn wsX7_delete (wsV RX7 154 RX7 yX7_deleteRow wsX7_deleteRow) := goodIn_app (goodIn_of _ (by decide +kernel)) ggX7_delete_X7_deleteRow
theorem dX7_delete_0 : decode cX7_delete 0 = .ok (.iload_n 1, 1) := by decide +kernel
theorem dX7_delete_1 : decode cX7_delete 1 = .ok (.invokestatic 55, 3) := by decide +kernel
theorem dX7_delete_4 : decode cX7_delete 4 = .ok (.ifCond .eq 10, 3) := by decide +kernel
theorem dX7_delete_7 : decode cX7_delete 7 = .ok (.iload_n 2, 1) := by decide +kernel
theorem dX7_delete_8 : decode cX7_delete 8 = .ok (.invokestatic 126, 3) := by decide +kernel
theorem dX7_delete_11 : decode cX7_delete 11 = .ok (.ifCond .ne 13, 3) := by decide +kernel
theorem dX7_delete_14 : decode cX7_delete 14 = .ok (.new 62, 3) := by decide +kernel
theorem dX7_delete_17 : decode cX7_delete 17 = .ok (.dup, 1) := by decide +kernel
theorem dX7_delete_18 : decode cX7_delete 18 = .ok (.ldc 129, 2) := by decide +kernel
theorem dX7_delete_20 : decode cX7_delete 20 = .ok (.invokespecial 66, 3) := by decide +kernel
theorem dX7_delete_23 : decode cX7_delete 23 = .ok (.athrow, 1) := by decide +kernel
theorem dX7_delete_24 : decode cX7_delete 24 = .ok (.aload_n 0, 1) := by decide +kernel
theorem dX7_delete_25 : decode cX7_delete 25 = .ok (.iload_n 1, 1) := by decide +kernel
theorem dX7_delete_26 : decode cX7_delete 26 = .ok (.iload_n 2, 1) := by decide +kernel
theorem dX7_delete_27 : decode cX7_delete 27 = .ok (.invokestatic 136, 3) := by decide +kernel
theorem dX7_delete_30 : decode cX7_delete 30 = .ok (.invokevirtual 154, 3) := by decide +kernel
theorem dX7_delete_33 : decode cX7_delete 33 = .ok (.istore_n 3, 1) := by decide +kernel
theorem dX7_delete_34 : decode cX7_delete 34 = .ok (.iload_n 3, 1) := by decide +kernel
theorem dX7_delete_35 : decode cX7_delete 35 = .ok (.bipush (-3), 2) := by decide +kernel
theorem dX7_delete_37 : decode cX7_delete 37 = .ok (.if_icmp .ne 13, 3) := by decide +kernel
theorem dX7_delete_40 : decode cX7_delete 40 = .ok (.new 82, 3) := by decide +kernel
theorem dX7_delete_43 : decode cX7_delete 43 = .ok (.dup, 1) := by decide +kernel
theorem dX7_delete_44 : decode cX7_delete 44 = .ok (.ldc 152, 2) := by decide +kernel
theorem dX7_delete_46 : decode cX7_delete 46 = .ok (.invokespecial 86, 3) := by decide +kernel
theorem dX7_delete_49 : decode cX7_delete 49 = .ok (.athrow, 1) := by decide +kernel
theorem dX7_delete_50 : decode cX7_delete 50 = .ok (.iload_n 3, 1) := by decide +kernel
theorem dX7_delete_51 : decode cX7_delete 51 = .ok (.ireturn, 1) := by decide +kernel
set_option maxRecDepth 20000 in
theorem ggX7_commit_X7_commitAll : GoodIn wsX7_commit wsX7_commitAll := goodIn_r _ [5, 6, 7, 8, 9, 10, 11, 12, 13, 14, 15, 16, 17, 18, 19, 20, 21, 22, 23, 24, 25, 26, 27, 28, 29, 4, 30, 31, 32, 33, 34, 35, 36, 37, 38, 39, 40, 41, 42, 43, 44, 45, 46, 47, 48, 49, 50, 51, 52, 53, 54, 55, 56, 57, 58, 59, 60, 61, 62, 63, 64, 65, 66, 67, 68, 69, 70, 71, 72, 73, 74, 75, 76] (by decide +kernel) (by decide +kernel)
set_option maxRecDepth 20000 in
theorem gX7_commit_X7_commitAll : GoodIn wsX7_commit (wsV RX7 157 RX7 yX7_commitAll wsX7_commitAll) := goodIn_app (goodIn_of _ (by decide +kernel)) ggX7_commit_X7_commitAll
theorem dX7_commit_0 : decode cX7_commit 0 = .ok (.aload_n 0, 1) := by decide +kernel
theorem dX7_commit_1 : decode cX7_commit 1 = .ok (.invokevirtual 157, 3) := by decide +kernel
theorem dX7_commit_4 : decode cX7_commit 4 = .ok (.ireturn, 1) := by decide +kernel
set_option maxRecDepth 20000 in
theorem ggX7_rollBack_X7_undoAll : GoodIn wsX7_rollBack wsX7_undoAll := goodIn_r _ [5, 6, 7, 8, 9, 10, 11, 12, 13, 14, 15, 16, 17, 18, 19, 20, 21, 22, 23, 24, 25, 26, 27, 28, 29, 30, 31, 32, 33, 34, 35, 36] (by decide +kernel) (by decide +kernel)
set_option maxRecDepth 20000 in
theorem gX7_rollBack_X7_undoAll : GoodIn wsX7_rollBack (wsV RX7 160 RX7 yX7_undoAll wsX7_undoAll) := goodIn_app (goodIn_of _ (by decide +kernel)) ggX7_rollBack_X7_undoAll
theorem dX7_rollBack_0 : decode cX7_rollBack 0 = .ok (.aload_n 0, 1) := by decide +kernel
theorem dX7_rollBack_1 : decode cX7_rollBack 1 = .ok (.invokevirtual 160, 3) := by decide +kernel
theorem dX7_rollBack_4 : decode cX7_rollBack 4 = .ok (.ireturn, 1) := by decide +kernel
set_option maxRecDepth 20000 in
theorem ggX7_savePoint_X7_makePoint : GoodIn wsX7_savePoint wsX7_makePoint := goodIn_r _ [7, 8, 9, 10, 11, 12, 13, 14, 15, 16, 17, 18, 19, 20, 21, 22, 23, 24, 25, 26, 27, 28, 29, 30, 31, 32, 33, 34, 35, 36, 37] (by decide +kernel) (by decide +kernel)
set_option maxRecDepth 20000 in
theorem gX7_savePoint_X7_makePoint : GoodIn wsX7_savePoint (wsV RX7 163 RX7 yX7_makePoint wsX7_makePoint) := goodIn_app (goodIn_of _ (by decide +kernel)) ggX7_savePoint_X7_makePoint
theorem dX7_savePoint_0 : decode cX7_savePoint 0 = .ok (.aload_n 0, 1) := by decide +kernel
theorem dX7_savePoint_1 : decode cX7_savePoint 1 = .ok (.invokevirtual 163, 3) := by decide +kernel
theorem dX7_savePoint_4 : decode cX7_savePoint 4 = .ok (.istore_n 1, 1) := by decide +kernel
theorem dX7_savePoint_5 : decode cX7_savePoint 5 = .ok (.iload_n 1, 1) := by decide +kernel
theorem dX7_savePoint_6 : decode cX7_savePoint 6 = .ok (.bipush (-3), 2) := by decide +kernel
theorem dX7_savePoint_8 : decode cX7_savePoint 8 = .ok (.if_icmp .ne 13, 3) := by decide +kernel
theorem dX7_savePoint_11 : decode cX7_savePoint 11 = .ok (.new 82, 3) := by decide +kernel
theorem dX7_savePoint_14 : decode cX7_savePoint 14 = .ok (.dup, 1) := by decide +kernel
theorem dX7_savePoint_15 : decode cX7_savePoint 15 = .ok (.ldc 166, 2) := by decide +kernel
theorem dX7_savePoint_17 : decode cX7_savePoint 17 = .ok (.invokespecial 86, 3) := by decide +kernel
theorem dX7_savePoint_20 : decode cX7_savePoint 20 = .ok (.athrow, 1) := by decide +kernel
theorem dX7_savePoint_21 : decode cX7_savePoint 21 = .ok (.iload_n 1, 1) := by decide +kernel
theorem dX7_savePoint_22 : decode cX7_savePoint 22 = .ok (.ireturn, 1) := by decide +kernel
set_option maxRecDepth 20000 in
theorem ggX7_rollBackTo_X7_undoToPoint : GoodIn wsX7_rollBackTo wsX7_undoToPoint := goodIn_r _ [7, 8, 9, 10, 11, 12, 13, 14, 15, 16, 17, 18, 19, 20, 21, 22, 23, 24, 25, 26, 27, 28, 29, 30, 31, 32, 33, 34, 35, 36, 37, 38, 39, 40, 41, 42, 43, 44, 45, 46, 47] (by decide +kernel) (by decide +kernel)
set_option maxRecDepth 20000 in
theorem gX7_rollBackTo_X7_undoToPoint : GoodIn wsX7_rollBackTo (wsV RX7 168 RX7 yX7_undoToPoint wsX7_undoToPoint) := goodIn_app (goodIn_of _ (by decide +kernel)) ggX7_rollBackTo_X7_undoToPoint
theorem dX7_rollBackTo_0 : decode cX7_rollBackTo 0 = .ok (.aload_n 0, 1) := by decide +kernel
theorem dX7_rollBackTo_1 : decode cX7_rollBackTo 1 = .ok (.iload_n 1, 1) := by decide +kernel
theorem dX7_rollBackTo_2 : decode cX7_rollBackTo 2 = .ok (.invokevirtual 168, 3) := by decide +kernel
theorem dX7_rollBackTo_5 : decode cX7_rollBackTo 5 = .ok (.istore_n 2, 1) := by decide +kernel
theorem dX7_rollBackTo_6 : decode cX7_rollBackTo 6 = .ok (.iload_n 2, 1) := by decide +kernel
theorem dX7_rollBackTo_7 : decode cX7_rollBackTo 7 = .ok (.bipush (-3), 2) := by decide +kernel
theorem dX7_rollBackTo_9 : decode cX7_rollBackTo 9 = .ok (.if_icmp .ne 13, 3) := by decide +kernel
theorem dX7_rollBackTo_12 : decode cX7_rollBackTo 12 = .ok (.new 62, 3) := by decide +kernel
theorem dX7_rollBackTo_15 : decode cX7_rollBackTo 15 = .ok (.dup, 1) := by decide +kernel
theorem dX7_rollBackTo_16 : decode cX7_rollBackTo 16 = .ok (.ldc 171, 2) := by decide +kernel
theorem dX7_rollBackTo_18 : decode cX7_rollBackTo 18 = .ok (.invokespecial 66, 3) := by decide +kernel
theorem dX7_rollBackTo_21 : decode cX7_rollBackTo 21 = .ok (.athrow, 1) := by decide +kernel
theorem dX7_rollBackTo_22 : decode cX7_rollBackTo 22 = .ok (.iload_n 2, 1) := by decide +kernel
theorem dX7_rollBackTo_23 : decode cX7_rollBackTo 23 = .ok (.ireturn, 1) := by decide +kernel
set_option maxRecDepth 20000 in
theorem ggX7_exists_X7_isTable : GoodIn wsX7_exists wsX7_isTable := goodIn_r _ [7] (by decide +kernel) (by decide +kernel)
set_option maxRecDepth 20000 in
theorem gX7_exists_X7_isTable : GoodIn wsX7_exists (va_wsS RX7 55 yX7_isTable wsX7_isTable) := goodIn_app (goodIn_of _ (by decide +kernel)) ggX7_exists_X7_isTable
set_option maxRecDepth 20000 in
theorem ggX7_exists_X7_isKey : GoodIn wsX7_exists wsX7_isKey := goodIn_r _ [10] (by decide +kernel) (by decide +kernel)
set_option maxRecDepth 20000 in
theorem gX7_exists_X7_isKey : GoodIn wsX7_exists (va_wsS RX7 126 yX7_isKey wsX7_isKey) := goodIn_app (goodIn_of _ (by decide +kernel)) ggX7_exists_X7_isKey
set_option maxRecDepth 20000 in
theorem ggX7_exists_X7_rowNumber : GoodIn wsX7_exists wsX7_rowNumber := goodIn_r _ [13] (by decide +kernel) (by decide +kernel)
set_option maxRecDepth 20000 in
theorem gX7_exists_X7_rowNumber : GoodIn wsX7_exists (va_wsS RX7 136 yX7_rowNumber wsX7_rowNumber) := goodIn_app (goodIn_of _ (by decide +kernel)) ggX7_exists_X7_rowNumber
set_option maxRecDepth 20000 in
theorem ggX7_exists_X4_has : GoodIn wsX7_exists wsX4_has := goodIn_r _ [18, 19, 26, 27, 28] (by decide +kernel) (by decide +kernel)
set_option maxRecDepth 20000 in
theorem gX7_exists_X4_has : GoodIn wsX7_exists (wsV RX7 206 RX4 yX4_has wsX4_has) := goodIn_app (goodIn_of _ (by decide +kernel)) ggX7_exists_X4_has
theorem dX7_exists_0 : decode cX7_exists 0 = .ok (.iload_n 1, 1) := by decide +kernel
theorem dX7_exists_1 : decode cX7_exists 1 = .ok (.invokestatic 55, 3) := by decide +kernel
theorem dX7_exists_4 : decode cX7_exists 4 = .ok (.ifCond .eq 10, 3) := by decide +kernel
theorem dX7_exists_7 : decode cX7_exists 7 = .ok (.iload_n 2, 1) := by decide +kernel
theorem dX7_exists_8 : decode cX7_exists 8 = .ok (.invokestatic 126, 3) := by decide +kernel
theorem dX7_exists_11 : decode cX7_exists 11 = .ok (.ifCond .ne 13, 3) := by decide +kernel
theorem dX7_exists_14 : decode cX7_exists 14 = .ok (.new 62, 3) := by decide +kernel
theorem dX7_exists_17 : decode cX7_exists 17 = .ok (.dup, 1) := by decide +kernel
theorem dX7_exists_18 : decode cX7_exists 18 = .ok (.ldc 129, 2) := by decide +kernel
theorem dX7_exists_20 : decode cX7_exists 20 = .ok (.invokespecial 66, 3) := by decide +kernel
theorem dX7_exists_23 : decode cX7_exists 23 = .ok (.athrow, 1) := by decide +kernel
theorem dX7_exists_24 : decode cX7_exists 24 = .ok (.aload_n 0, 1) := by decide +kernel
theorem dX7_exists_25 : decode cX7_exists 25 = .ok (.getfield 12, 3) := by decide +kernel
theorem dX7_exists_28 : decode cX7_exists 28 = .ok (.iload_n 1, 1) := by decide +kernel
theorem dX7_exists_29 : decode cX7_exists 29 = .ok (.iload_n 2, 1) := by decide +kernel
theorem dX7_exists_30 : decode cX7_exists 30 = .ok (.invokestatic 136, 3) := by decide +kernel
theorem dX7_exists_33 : decode cX7_exists 33 = .ok (.invokevirtual 206, 3) := by decide +kernel
theorem dX7_exists_36 : decode cX7_exists 36 = .ok (.ireturn, 1) := by decide +kernel
set_option maxRecDepth 20000 in
theorem ggX7_value_X7_isTable : GoodIn wsX7_value wsX7_isTable := goodIn_r _ [7] (by decide +kernel) (by decide +kernel)
set_option maxRecDepth 20000 in
theorem gX7_value_X7_isTable : GoodIn wsX7_value (va_wsS RX7 55 yX7_isTable wsX7_isTable) := goodIn_app (goodIn_of _ (by decide +kernel)) ggX7_value_X7_isTable
set_option maxRecDepth 20000 in
theorem ggX7_value_X7_isKey : GoodIn wsX7_value wsX7_isKey := goodIn_r _ [10] (by decide +kernel) (by decide +kernel)
set_option maxRecDepth 20000 in
theorem gX7_value_X7_isKey : GoodIn wsX7_value (va_wsS RX7 126 yX7_isKey wsX7_isKey) := goodIn_app (goodIn_of _ (by decide +kernel)) ggX7_value_X7_isKey
set_option maxRecDepth 20000 in
theorem ggX7_value_X7_isColumn : GoodIn wsX7_value wsX7_isColumn := goodIn_r _ [13] (by decide +kernel) (by decide +kernel)
set_option maxRecDepth 20000 in
theorem gX7_value_X7_isColumn : GoodIn wsX7_value (va_wsS RX7 59 yX7_isColumn wsX7_isColumn) := goodIn_app (goodIn_of _ (by decide +kernel)) ggX7_value_X7_isColumn
set_option maxRecDepth 20000 in
theorem ggX7_value_X7_rowNumber : GoodIn wsX7_value wsX7_rowNumber := goodIn_r _ [16] (by decide +kernel) (by decide +kernel)
set_option maxRecDepth 20000 in
theorem gX7_value_X7_rowNumber : GoodIn wsX7_value (va_wsS RX7 136 yX7_rowNumber wsX7_rowNumber) := goodIn_app (goodIn_of _ (by decide +kernel)) ggX7_value_X7_rowNumber
set_option maxRecDepth 20000 in
theorem ggX7_value_X4_valueOf : GoodIn wsX7_value wsX4_valueOf := goodIn_r _ [21, 22, 29, 30, 31] (by decide +kernel) (by decide +kernel)
set_option maxRecDepth 20000 in
theorem gX7_value_X4_valueOf : GoodIn wsX7_value (wsV RX7 209 RX4 yX4_valueOf wsX4_valueOf) := goodIn_app (goodIn_of _ (by decide +kernel)) ggX7_value_X4_valueOf
theorem dX7_value_0 : decode cX7_value 0 = .ok (.iload_n 1, 1) := by decide +kernel
theorem dX7_value_1 : decode cX7_value 1 = .ok (.invokestatic 55, 3) := by decide +kernel
theorem dX7_value_4 : decode cX7_value 4 = .ok (.ifCond .eq 17, 3) := by decide +kernel
theorem dX7_value_7 : decode cX7_value 7 = .ok (.iload_n 2, 1) := by decide +kernel
theorem dX7_value_8 : decode cX7_value 8 = .ok (.invokestatic 126, 3) := by decide +kernel
theorem dX7_value_11 : decode cX7_value 11 = .ok (.ifCond .eq 10, 3) := by decide +kernel
theorem dX7_value_14 : decode cX7_value 14 = .ok (.iload_n 3, 1) := by decide +kernel
theorem dX7_value_15 : decode cX7_value 15 = .ok (.invokestatic 59, 3) := by decide +kernel
theorem dX7_value_18 : decode cX7_value 18 = .ok (.ifCond .ne 13, 3) := by decide +kernel
theorem dX7_value_21 : decode cX7_value 21 = .ok (.new 62, 3) := by decide +kernel
theorem dX7_value_24 : decode cX7_value 24 = .ok (.dup, 1) := by decide +kernel
theorem dX7_value_25 : decode cX7_value 25 = .ok (.ldc 145, 2) := by decide +kernel
theorem dX7_value_27 : decode cX7_value 27 = .ok (.invokespecial 66, 3) := by decide +kernel
theorem dX7_value_30 : decode cX7_value 30 = .ok (.athrow, 1) := by decide +kernel
theorem dX7_value_31 : decode cX7_value 31 = .ok (.aload_n 0, 1) := by decide +kernel
theorem dX7_value_32 : decode cX7_value 32 = .ok (.getfield 12, 3) := by decide +kernel
theorem dX7_value_35 : decode cX7_value 35 = .ok (.iload_n 1, 1) := by decide +kernel
theorem dX7_value_36 : decode cX7_value 36 = .ok (.iload_n 2, 1) := by decide +kernel
theorem dX7_value_37 : decode cX7_value 37 = .ok (.invokestatic 136, 3) := by decide +kernel
theorem dX7_value_40 : decode cX7_value 40 = .ok (.iload_n 3, 1) := by decide +kernel
theorem dX7_value_41 : decode cX7_value 41 = .ok (.invokevirtual 209, 3) := by decide +kernel
theorem dX7_value_44 : decode cX7_value 44 = .ok (.ireturn, 1) := by decide +kernel
set_option maxRecDepth 20000 in
theorem ggX7_rows_X7_isTable : GoodIn wsX7_rows wsX7_isTable := goodIn_r _ [7] (by decide +kernel) (by decide +kernel)
set_option maxRecDepth 20000 in
theorem gX7_rows_X7_isTable : GoodIn wsX7_rows (va_wsS RX7 55 yX7_isTable wsX7_isTable) := goodIn_app (goodIn_of _ (by decide +kernel)) ggX7_rows_X7_isTable
set_option maxRecDepth 20000 in
theorem ggX7_rows_X4_countIn : GoodIn wsX7_rows wsX4_countIn := goodIn_r _ [12, 13, 6, 14, 15, 16, 17, 11, 18, 19, 26, 27, 28] (by decide +kernel) (by decide +kernel)
set_option maxRecDepth 20000 in
theorem gX7_rows_X4_countIn : GoodIn wsX7_rows (wsV RX7 214 RX4 yX4_countIn wsX4_countIn) := goodIn_app (goodIn_of _ (by decide +kernel)) ggX7_rows_X4_countIn
theorem dX7_rows_0 : decode cX7_rows 0 = .ok (.iload_n 1, 1) := by decide +kernel
theorem dX7_rows_1 : decode cX7_rows 1 = .ok (.invokestatic 55, 3) := by decide +kernel
theorem dX7_rows_4 : decode cX7_rows 4 = .ok (.ifCond .ne 13, 3) := by decide +kernel
theorem dX7_rows_7 : decode cX7_rows 7 = .ok (.new 62, 3) := by decide +kernel
theorem dX7_rows_10 : decode cX7_rows 10 = .ok (.dup, 1) := by decide +kernel
theorem dX7_rows_11 : decode cX7_rows 11 = .ok (.ldc 212, 2) := by decide +kernel
theorem dX7_rows_13 : decode cX7_rows 13 = .ok (.invokespecial 66, 3) := by decide +kernel
theorem dX7_rows_16 : decode cX7_rows 16 = .ok (.athrow, 1) := by decide +kernel
theorem dX7_rows_17 : decode cX7_rows 17 = .ok (.aload_n 0, 1) := by decide +kernel
theorem dX7_rows_18 : decode cX7_rows 18 = .ok (.getfield 12, 3) := by decide +kernel
theorem dX7_rows_21 : decode cX7_rows 21 = .ok (.iload_n 1, 1) := by decide +kernel
theorem dX7_rows_22 : decode cX7_rows 22 = .ok (.invokevirtual 214, 3) := by decide +kernel
theorem dX7_rows_25 : decode cX7_rows 25 = .ok (.ireturn, 1) := by decide +kernel
set_option maxRecDepth 20000 in
theorem ggX7_references_X7_isTable : GoodIn wsX7_references wsX7_isTable := goodIn_r _ [7] (by decide +kernel) (by decide +kernel)
set_option maxRecDepth 20000 in
theorem gX7_references_X7_isTable : GoodIn wsX7_references (va_wsS RX7 55 yX7_isTable wsX7_isTable) := goodIn_app (goodIn_of _ (by decide +kernel)) ggX7_references_X7_isTable
set_option maxRecDepth 20000 in
theorem ggX7_references_X7_isKey : GoodIn wsX7_references wsX7_isKey := goodIn_r _ [10] (by decide +kernel) (by decide +kernel)
set_option maxRecDepth 20000 in
theorem gX7_references_X7_isKey : GoodIn wsX7_references (va_wsS RX7 126 yX7_isKey wsX7_isKey) := goodIn_app (goodIn_of _ (by decide +kernel)) ggX7_references_X7_isKey
set_option maxRecDepth 20000 in
theorem ggX7_references_X7_rowNumber : GoodIn wsX7_references wsX7_rowNumber := goodIn_r _ [13] (by decide +kernel) (by decide +kernel)
set_option maxRecDepth 20000 in
theorem gX7_references_X7_rowNumber : GoodIn wsX7_references (va_wsS RX7 136 yX7_rowNumber wsX7_rowNumber) := goodIn_app (goodIn_of _ (by decide +kernel)) ggX7_references_X7_rowNumber
set_option maxRecDepth 20000 in
theorem ggX7_references_X2_countTo : GoodIn wsX7_references wsX2_countTo := goodIn_r _ [18, 19, 20, 6, 21, 12, 13, 22, 23, 24, 25, 26, 27, 28, 29, 30, 31, 32, 33, 34, 35, 36, 37, 38, 39, 40, 47, 48, 49, 50, 51, 52, 53, 54, 55, 56] (by decide +kernel) (by decide +kernel)
set_option maxRecDepth 20000 in
theorem gX7_references_X2_countTo : GoodIn wsX7_references (wsV RX7 217 RX2 yX2_countTo wsX2_countTo) := goodIn_app (goodIn_of _ (by decide +kernel)) ggX7_references_X2_countTo
theorem dX7_references_0 : decode cX7_references 0 = .ok (.iload_n 1, 1) := by decide +kernel
theorem dX7_references_1 : decode cX7_references 1 = .ok (.invokestatic 55, 3) := by decide +kernel
theorem dX7_references_4 : decode cX7_references 4 = .ok (.ifCond .eq 10, 3) := by decide +kernel
theorem dX7_references_7 : decode cX7_references 7 = .ok (.iload_n 2, 1) := by decide +kernel
theorem dX7_references_8 : decode cX7_references 8 = .ok (.invokestatic 126, 3) := by decide +kernel
theorem dX7_references_11 : decode cX7_references 11 = .ok (.ifCond .ne 13, 3) := by decide +kernel
theorem dX7_references_14 : decode cX7_references 14 = .ok (.new 62, 3) := by decide +kernel
theorem dX7_references_17 : decode cX7_references 17 = .ok (.dup, 1) := by decide +kernel
theorem dX7_references_18 : decode cX7_references 18 = .ok (.ldc 129, 2) := by decide +kernel
theorem dX7_references_20 : decode cX7_references 20 = .ok (.invokespecial 66, 3) := by decide +kernel
theorem dX7_references_23 : decode cX7_references 23 = .ok (.athrow, 1) := by decide +kernel
theorem dX7_references_24 : decode cX7_references 24 = .ok (.aload_n 0, 1) := by decide +kernel
theorem dX7_references_25 : decode cX7_references 25 = .ok (.getfield 30, 3) := by decide +kernel
theorem dX7_references_28 : decode cX7_references 28 = .ok (.iload_n 1, 1) := by decide +kernel
theorem dX7_references_29 : decode cX7_references 29 = .ok (.iload_n 2, 1) := by decide +kernel
theorem dX7_references_30 : decode cX7_references 30 = .ok (.invokestatic 136, 3) := by decide +kernel
theorem dX7_references_33 : decode cX7_references 33 = .ok (.invokevirtual 217, 3) := by decide +kernel
theorem dX7_references_36 : decode cX7_references 36 = .ok (.ireturn, 1) := by decide +kernel
set_option maxRecDepth 20000 in
theorem ggX7_ancestors_X7_isTable : GoodIn wsX7_ancestors wsX7_isTable := goodIn_r _ [8] (by decide +kernel) (by decide +kernel)
set_option maxRecDepth 20000 in
theorem gX7_ancestors_X7_isTable : GoodIn wsX7_ancestors (va_wsS RX7 55 yX7_isTable wsX7_isTable) := goodIn_app (goodIn_of _ (by decide +kernel)) ggX7_ancestors_X7_isTable
set_option maxRecDepth 20000 in
theorem ggX7_ancestors_X7_isKey : GoodIn wsX7_ancestors wsX7_isKey := goodIn_r _ [11] (by decide +kernel) (by decide +kernel)
set_option maxRecDepth 20000 in
theorem gX7_ancestors_X7_isKey : GoodIn wsX7_ancestors (va_wsS RX7 126 yX7_isKey wsX7_isKey) := goodIn_app (goodIn_of _ (by decide +kernel)) ggX7_ancestors_X7_isKey
set_option maxRecDepth 20000 in
theorem ggX7_ancestors_X7_rowNumber : GoodIn wsX7_ancestors wsX7_rowNumber := goodIn_r _ [14] (by decide +kernel) (by decide +kernel)
set_option maxRecDepth 20000 in
theorem gX7_ancestors_X7_rowNumber : GoodIn wsX7_ancestors (va_wsS RX7 136 yX7_rowNumber wsX7_rowNumber) := goodIn_app (goodIn_of _ (by decide +kernel)) ggX7_ancestors_X7_rowNumber
set_option maxRecDepth 20000 in
theorem ggX7_ancestors_X4_has : GoodIn wsX7_ancestors wsX4_has := goodIn_r _ [19, 20, 81, 82, 83] (by decide +kernel) (by decide +kernel)
set_option maxRecDepth 20000 in
theorem gX7_ancestors_X4_has : GoodIn wsX7_ancestors (wsV RX7 206 RX4 yX4_has wsX4_has) := goodIn_app (goodIn_of _ (by decide +kernel)) ggX7_ancestors_X4_has
set_option maxRecDepth 20000 in
theorem ggX7_ancestors_X2_countAncestors : GoodIn wsX7_ancestors wsX2_countAncestors := goodIn_r _ [25, 26, 27, 28, 29, 30, 31, 32, 33, 34, 35, 36, 24, 37, 38, 39, 40, 7, 41, 42, 43, 44, 45, 46, 47, 48, 49, 50, 51, 52, 53, 54, 55, 56, 57, 58, 59, 18, 60, 20, 13, 14, 61, 16, 17, 19, 62, 63, 64, 65, 66, 67, 68, 69, 70, 71, 72, 73, 74, 84, 85, 86, 87, 88, 89, 90, 91, 92, 93, 81, 82, 83] (by decide +kernel) (by decide +kernel)
set_option maxRecDepth 20000 in
theorem gX7_ancestors_X2_countAncestors : GoodIn wsX7_ancestors (wsV RX7 220 RX2 yX2_countAncestors wsX2_countAncestors) := goodIn_app (goodIn_of _ (by decide +kernel)) ggX7_ancestors_X2_countAncestors
theorem dX7_ancestors_0 : decode cX7_ancestors 0 = .ok (.iload_n 1, 1) := by decide +kernel
theorem dX7_ancestors_1 : decode cX7_ancestors 1 = .ok (.invokestatic 55, 3) := by decide +kernel
theorem dX7_ancestors_4 : decode cX7_ancestors 4 = .ok (.ifCond .eq 10, 3) := by decide +kernel
theorem dX7_ancestors_7 : decode cX7_ancestors 7 = .ok (.iload_n 2, 1) := by decide +kernel
theorem dX7_ancestors_8 : decode cX7_ancestors 8 = .ok (.invokestatic 126, 3) := by decide +kernel
theorem dX7_ancestors_11 : decode cX7_ancestors 11 = .ok (.ifCond .ne 13, 3) := by decide +kernel
theorem dX7_ancestors_14 : decode cX7_ancestors 14 = .ok (.new 62, 3) := by decide +kernel
theorem dX7_ancestors_17 : decode cX7_ancestors 17 = .ok (.dup, 1) := by decide +kernel
theorem dX7_ancestors_18 : decode cX7_ancestors 18 = .ok (.ldc 129, 2) := by decide +kernel
theorem dX7_ancestors_20 : decode cX7_ancestors 20 = .ok (.invokespecial 66, 3) := by decide +kernel
theorem dX7_ancestors_23 : decode cX7_ancestors 23 = .ok (.athrow, 1) := by decide +kernel
theorem dX7_ancestors_24 : decode cX7_ancestors 24 = .ok (.iload_n 1, 1) := by decide +kernel
theorem dX7_ancestors_25 : decode cX7_ancestors 25 = .ok (.iload_n 2, 1) := by decide +kernel
theorem dX7_ancestors_26 : decode cX7_ancestors 26 = .ok (.invokestatic 136, 3) := by decide +kernel
theorem dX7_ancestors_29 : decode cX7_ancestors 29 = .ok (.istore_n 3, 1) := by decide +kernel
theorem dX7_ancestors_30 : decode cX7_ancestors 30 = .ok (.aload_n 0, 1) := by decide +kernel
theorem dX7_ancestors_31 : decode cX7_ancestors 31 = .ok (.getfield 12, 3) := by decide +kernel
theorem dX7_ancestors_34 : decode cX7_ancestors 34 = .ok (.iload_n 3, 1) := by decide +kernel
theorem dX7_ancestors_35 : decode cX7_ancestors 35 = .ok (.invokevirtual 206, 3) := by decide +kernel
theorem dX7_ancestors_38 : decode cX7_ancestors 38 = .ok (.ifCond .eq 14, 3) := by decide +kernel
theorem dX7_ancestors_41 : decode cX7_ancestors 41 = .ok (.aload_n 0, 1) := by decide +kernel
theorem dX7_ancestors_42 : decode cX7_ancestors 42 = .ok (.getfield 30, 3) := by decide +kernel
theorem dX7_ancestors_45 : decode cX7_ancestors 45 = .ok (.iload_n 3, 1) := by decide +kernel
theorem dX7_ancestors_46 : decode cX7_ancestors 46 = .ok (.invokevirtual 220, 3) := by decide +kernel
theorem dX7_ancestors_49 : decode cX7_ancestors 49 = .ok (.goto 5, 3) := by decide +kernel
theorem dX7_ancestors_52 : decode cX7_ancestors 52 = .ok (.bipush (-2), 2) := by decide +kernel
theorem dX7_ancestors_54 : decode cX7_ancestors 54 = .ok (.ireturn, 1) := by decide +kernel
set_option maxRecDepth 20000 in
theorem ggX7_constraint_X7_isTable : GoodIn wsX7_constraint wsX7_isTable := goodIn_r _ [9] (by decide +kernel) (by decide +kernel)
set_option maxRecDepth 20000 in
theorem gX7_constraint_X7_isTable : GoodIn wsX7_constraint (va_wsS RX7 55 yX7_isTable wsX7_isTable) := goodIn_app (goodIn_of _ (by decide +kernel)) ggX7_constraint_X7_isTable
set_option maxRecDepth 20000 in
theorem ggX7_constraint_X7_isColumn : GoodIn wsX7_constraint wsX7_isColumn := goodIn_r _ [12] (by decide +kernel) (by decide +kernel)
set_option maxRecDepth 20000 in
theorem gX7_constraint_X7_isColumn : GoodIn wsX7_constraint (va_wsS RX7 59 yX7_isColumn wsX7_isColumn) := goodIn_app (goodIn_of _ (by decide +kernel)) ggX7_constraint_X7_isColumn
set_option maxRecDepth 20000 in
theorem ggX7_constraint_X7_constraintNumber : GoodIn wsX7_constraint wsX7_constraintNumber := goodIn_r _ [15] (by decide +kernel) (by decide +kernel)
set_option maxRecDepth 20000 in
theorem gX7_constraint_X7_constraintNumber : GoodIn wsX7_constraint (va_wsS RX7 74 yX7_constraintNumber wsX7_constraintNumber) := goodIn_app (goodIn_of _ (by decide +kernel)) ggX7_constraint_X7_constraintNumber
set_option maxRecDepth 20000 in
theorem ggX7_constraint_X0_isDefined : GoodIn wsX7_constraint wsX0_isDefined := goodIn_r _ [20, 21, 22, 23, 19, 24, 25, 68, 69, 70, 71] (by decide +kernel) (by decide +kernel)
set_option maxRecDepth 20000 in
theorem gX7_constraint_X0_isDefined : GoodIn wsX7_constraint (wsV RX7 87 RX0 yX0_isDefined wsX0_isDefined) := goodIn_app (goodIn_of _ (by decide +kernel)) ggX7_constraint_X0_isDefined
set_option maxRecDepth 20000 in
theorem ggX7_constraint_X7_partOf : GoodIn wsX7_constraint wsX7_partOf := goodIn_r _ [29, 5, 30, 22, 23, 19, 24, 25, 31, 32, 33, 34, 35, 36, 37, 38, 39, 40, 41, 42, 43, 44, 45, 46, 8, 47, 48, 49, 50, 51, 52, 53, 54, 55, 56, 57, 58, 59, 60, 61, 62, 63, 64, 65, 66, 67, 68, 69, 70, 71, 72, 73, 74] (by decide +kernel) (by decide +kernel)
set_option maxRecDepth 20000 in
theorem gX7_constraint_X7_partOf : GoodIn wsX7_constraint (wsV RX7 225 RX7 yX7_partOf wsX7_partOf) := goodIn_app (goodIn_of _ (by decide +kernel)) ggX7_constraint_X7_partOf
theorem dX7_constraint_0 : decode cX7_constraint 0 = .ok (.iload_n 1, 1) := by decide +kernel
theorem dX7_constraint_1 : decode cX7_constraint 1 = .ok (.invokestatic 55, 3) := by decide +kernel
theorem dX7_constraint_4 : decode cX7_constraint 4 = .ok (.ifCond .eq 10, 3) := by decide +kernel
theorem dX7_constraint_7 : decode cX7_constraint 7 = .ok (.iload_n 2, 1) := by decide +kernel
theorem dX7_constraint_8 : decode cX7_constraint 8 = .ok (.invokestatic 59, 3) := by decide +kernel
theorem dX7_constraint_11 : decode cX7_constraint 11 = .ok (.ifCond .ne 13, 3) := by decide +kernel
theorem dX7_constraint_14 : decode cX7_constraint 14 = .ok (.new 62, 3) := by decide +kernel
theorem dX7_constraint_17 : decode cX7_constraint 17 = .ok (.dup, 1) := by decide +kernel
theorem dX7_constraint_18 : decode cX7_constraint 18 = .ok (.ldc 104, 2) := by decide +kernel
theorem dX7_constraint_20 : decode cX7_constraint 20 = .ok (.invokespecial 66, 3) := by decide +kernel
theorem dX7_constraint_23 : decode cX7_constraint 23 = .ok (.athrow, 1) := by decide +kernel
theorem dX7_constraint_24 : decode cX7_constraint 24 = .ok (.iload_n 3, 1) := by decide +kernel
theorem dX7_constraint_25 : decode cX7_constraint 25 = .ok (.ifCond .lt 8, 3) := by decide +kernel
theorem dX7_constraint_28 : decode cX7_constraint 28 = .ok (.iload_n 3, 1) := by decide +kernel
theorem dX7_constraint_29 : decode cX7_constraint 29 = .ok (.iconst 3, 1) := by decide +kernel
theorem dX7_constraint_30 : decode cX7_constraint 30 = .ok (.if_icmp .le 13, 3) := by decide +kernel
theorem dX7_constraint_33 : decode cX7_constraint 33 = .ok (.new 69, 3) := by decide +kernel
theorem dX7_constraint_36 : decode cX7_constraint 36 = .ok (.dup, 1) := by decide +kernel
theorem dX7_constraint_37 : decode cX7_constraint 37 = .ok (.ldc 223, 2) := by decide +kernel
theorem dX7_constraint_39 : decode cX7_constraint 39 = .ok (.invokespecial 73, 3) := by decide +kernel
theorem dX7_constraint_42 : decode cX7_constraint 42 = .ok (.athrow, 1) := by decide +kernel
theorem dX7_constraint_43 : decode cX7_constraint 43 = .ok (.iload_n 1, 1) := by decide +kernel
theorem dX7_constraint_44 : decode cX7_constraint 44 = .ok (.iload_n 2, 1) := by decide +kernel
theorem dX7_constraint_45 : decode cX7_constraint 45 = .ok (.invokestatic 74, 3) := by decide +kernel
theorem dX7_constraint_48 : decode cX7_constraint 48 = .ok (.istore 4, 2) := by decide +kernel
theorem dX7_constraint_50 : decode cX7_constraint 50 = .ok (.aload_n 0, 1) := by decide +kernel
theorem dX7_constraint_51 : decode cX7_constraint 51 = .ok (.getfield 21, 3) := by decide +kernel
theorem dX7_constraint_54 : decode cX7_constraint 54 = .ok (.iload 4, 2) := by decide +kernel
theorem dX7_constraint_56 : decode cX7_constraint 56 = .ok (.invokevirtual 87, 3) := by decide +kernel
theorem dX7_constraint_59 : decode cX7_constraint 59 = .ok (.ifCond .eq 13, 3) := by decide +kernel
theorem dX7_constraint_62 : decode cX7_constraint 62 = .ok (.aload_n 0, 1) := by decide +kernel
theorem dX7_constraint_63 : decode cX7_constraint 63 = .ok (.iload 4, 2) := by decide +kernel
theorem dX7_constraint_65 : decode cX7_constraint 65 = .ok (.iload_n 3, 1) := by decide +kernel
theorem dX7_constraint_66 : decode cX7_constraint 66 = .ok (.invokevirtual 225, 3) := by decide +kernel
theorem dX7_constraint_69 : decode cX7_constraint 69 = .ok (.goto 5, 3) := by decide +kernel
theorem dX7_constraint_72 : decode cX7_constraint 72 = .ok (.bipush (-2), 2) := by decide +kernel
theorem dX7_constraint_74 : decode cX7_constraint 74 = .ok (.ireturn, 1) := by decide +kernel
set_option maxRecDepth 20000 in
theorem ggX7_constraints_X0_count : GoodIn wsX7_constraints wsX0_count := goodIn_r _ [6, 7, 8, 9, 5, 10, 11, 12, 13, 14, 15, 22, 23, 24, 25] (by decide +kernel) (by decide +kernel)
set_option maxRecDepth 20000 in
theorem gX7_constraints_X0_count : GoodIn wsX7_constraints (wsV RX7 101 RX0 yX0_count wsX0_count) := goodIn_app (goodIn_of _ (by decide +kernel)) ggX7_constraints_X0_count
theorem dX7_constraints_0 : decode cX7_constraints 0 = .ok (.aload_n 0, 1) := by decide +kernel
theorem dX7_constraints_1 : decode cX7_constraints 1 = .ok (.getfield 21, 3) := by decide +kernel
theorem dX7_constraints_4 : decode cX7_constraints 4 = .ok (.invokevirtual 101, 3) := by decide +kernel
theorem dX7_constraints_7 : decode cX7_constraints 7 = .ok (.ireturn, 1) := by decide +kernel
set_option maxRecDepth 20000 in
theorem ggX7_firstViolation_X0_firstRefusal : GoodIn wsX7_firstViolation wsX0_firstRefusal := goodIn_r _ [6, 7, 8, 9, 5, 10, 11, 12, 13, 14, 15, 16, 17, 18, 19, 20, 21, 22, 23, 24, 25, 26, 27, 28, 29, 30, 31, 32, 33, 34, 35, 36, 37, 38, 39, 40, 47, 48, 49, 50, 51, 52, 53] (by decide +kernel) (by decide +kernel)
set_option maxRecDepth 20000 in
theorem gX7_firstViolation_X0_firstRefusal : GoodIn wsX7_firstViolation (wsV RX7 228 RX0 yX0_firstRefusal wsX0_firstRefusal) := goodIn_app (goodIn_of _ (by decide +kernel)) ggX7_firstViolation_X0_firstRefusal
theorem dX7_firstViolation_0 : decode cX7_firstViolation 0 = .ok (.aload_n 0, 1) := by decide +kernel
theorem dX7_firstViolation_1 : decode cX7_firstViolation 1 = .ok (.getfield 21, 3) := by decide +kernel
theorem dX7_firstViolation_4 : decode cX7_firstViolation 4 = .ok (.iconst 1, 1) := by decide +kernel
theorem dX7_firstViolation_5 : decode cX7_firstViolation 5 = .ok (.invokevirtual 228, 3) := by decide +kernel
theorem dX7_firstViolation_8 : decode cX7_firstViolation 8 = .ok (.ireturn, 1) := by decide +kernel
set_option maxRecDepth 20000 in
theorem ggX7_ifDeleted_X7_isTable : GoodIn wsX7_ifDeleted wsX7_isTable := goodIn_r _ [7] (by decide +kernel) (by decide +kernel)
set_option maxRecDepth 20000 in
theorem gX7_ifDeleted_X7_isTable : GoodIn wsX7_ifDeleted (va_wsS RX7 55 yX7_isTable wsX7_isTable) := goodIn_app (goodIn_of _ (by decide +kernel)) ggX7_ifDeleted_X7_isTable
set_option maxRecDepth 20000 in
theorem ggX7_ifDeleted_X7_isKey : GoodIn wsX7_ifDeleted wsX7_isKey := goodIn_r _ [10] (by decide +kernel) (by decide +kernel)
set_option maxRecDepth 20000 in
theorem gX7_ifDeleted_X7_isKey : GoodIn wsX7_ifDeleted (va_wsS RX7 126 yX7_isKey wsX7_isKey) := goodIn_app (goodIn_of _ (by decide +kernel)) ggX7_ifDeleted_X7_isKey
set_option maxRecDepth 20000 in
theorem ggX7_ifDeleted_X4_changeCount : GoodIn wsX7_ifDeleted wsX4_changeCount := goodIn_r _ [15, 16, 159, 160, 161] (by decide +kernel) (by decide +kernel)
set_option maxRecDepth 20000 in
theorem gX7_ifDeleted_X4_changeCount : GoodIn wsX7_ifDeleted (wsV RX7 78 RX4 yX4_changeCount wsX4_changeCount) := goodIn_app (goodIn_of _ (by decide +kernel)) ggX7_ifDeleted_X4_changeCount
set_option maxRecDepth 20000 in
theorem ggX7_ifDeleted_X7_rowNumber : GoodIn wsX7_ifDeleted wsX7_rowNumber := goodIn_r _ [19] (by decide +kernel) (by decide +kernel)
set_option maxRecDepth 20000 in
theorem gX7_ifDeleted_X7_rowNumber : GoodIn wsX7_ifDeleted (va_wsS RX7 136 yX7_rowNumber wsX7_rowNumber) := goodIn_app (goodIn_of _ (by decide +kernel)) ggX7_ifDeleted_X7_rowNumber
set_option maxRecDepth 20000 in
theorem ggX7_ifDeleted_X7_deleteRow : GoodIn wsX7_ifDeleted wsX7_deleteRow := goodIn_r _ [23, 3, 24, 25, 26, 27, 14, 28, 29, 30, 31, 32, 33, 34, 16, 35, 36, 37, 38, 39, 40, 41, 42, 43, 44, 45, 46, 47, 48, 49, 50, 51, 52, 53, 54, 55, 56, 57, 58, 59, 60, 61, 62, 63, 64, 65, 66, 67, 68, 69, 70, 71, 72, 73, 74, 75, 76, 77, 78, 79, 80, 81, 82, 83, 84, 85, 86, 87, 88, 89, 90, 91, 92, 93, 94, 95, 96, 97, 98, 99, 100, 101, 6, 102, 18, 19, 103, 104, 105, 106, 107, 108, 109, 110, 111, 112, 113, 114, 115, 116, 117, 118, 119, 120, 121, 122, 123, 124, 125, 126, 127, 128, 129, 130, 131, 132, 133, 134, 135, 136, 137, 138, 139, 140, 141, 142, 143, 144, 145, 146, 147, 148, 149, 150, 151, 152, 153, 154, 155, 156, 157, 158, 159, 160, 161, 162, 163, 164, 165, 166, 167, 168, 169, 170, 171] (by decide +kernel) (by decide +kernel)
set_option maxRecDepth 20000 in
theorem gX7_ifDeleted_X7_deleteRow : GoodIn wsX7_ifDeleted (wsV RX7 154 RX7 yX7_deleteRow wsX7_deleteRow) := goodIn_app (goodIn_of _ (by decide +kernel)) ggX7_ifDeleted_X7_deleteRow
set_option maxRecDepth 20000 in
theorem ggX7_ifDeleted_X4_undoTo : GoodIn wsX7_ifDeleted wsX4_undoTo := goodIn_r _ [148, 16, 34, 149, 150, 151, 14, 152, 29, 159, 160, 161] (by decide +kernel) (by decide +kernel)
set_option maxRecDepth 20000 in
theorem gX7_ifDeleted_X4_undoTo : GoodIn wsX7_ifDeleted (wsV RX7 232 RX4 yX4_undoTo wsX4_undoTo) := goodIn_app (goodIn_of _ (by decide +kernel)) ggX7_ifDeleted_X4_undoTo
theorem dX7_ifDeleted_0 : decode cX7_ifDeleted 0 = .ok (.iload_n 1, 1) := by decide +kernel
theorem dX7_ifDeleted_1 : decode cX7_ifDeleted 1 = .ok (.invokestatic 55, 3) := by decide +kernel
theorem dX7_ifDeleted_4 : decode cX7_ifDeleted 4 = .ok (.ifCond .eq 10, 3) := by decide +kernel
theorem dX7_ifDeleted_7 : decode cX7_ifDeleted 7 = .ok (.iload_n 2, 1) := by decide +kernel
theorem dX7_ifDeleted_8 : decode cX7_ifDeleted 8 = .ok (.invokestatic 126, 3) := by decide +kernel
theorem dX7_ifDeleted_11 : decode cX7_ifDeleted 11 = .ok (.ifCond .ne 13, 3) := by decide +kernel
theorem dX7_ifDeleted_14 : decode cX7_ifDeleted 14 = .ok (.new 62, 3) := by decide +kernel
theorem dX7_ifDeleted_17 : decode cX7_ifDeleted 17 = .ok (.dup, 1) := by decide +kernel
theorem dX7_ifDeleted_18 : decode cX7_ifDeleted 18 = .ok (.ldc 129, 2) := by decide +kernel
theorem dX7_ifDeleted_20 : decode cX7_ifDeleted 20 = .ok (.invokespecial 66, 3) := by decide +kernel
theorem dX7_ifDeleted_23 : decode cX7_ifDeleted 23 = .ok (.athrow, 1) := by decide +kernel
theorem dX7_ifDeleted_24 : decode cX7_ifDeleted 24 = .ok (.aload_n 0, 1) := by decide +kernel
theorem dX7_ifDeleted_25 : decode cX7_ifDeleted 25 = .ok (.getfield 12, 3) := by decide +kernel
theorem dX7_ifDeleted_28 : decode cX7_ifDeleted 28 = .ok (.invokevirtual 78, 3) := by decide +kernel
theorem dX7_ifDeleted_31 : decode cX7_ifDeleted 31 = .ok (.istore_n 3, 1) := by decide +kernel
theorem dX7_ifDeleted_32 : decode cX7_ifDeleted 32 = .ok (.aload_n 0, 1) := by decide +kernel
theorem dX7_ifDeleted_33 : decode cX7_ifDeleted 33 = .ok (.iload_n 1, 1) := by decide +kernel
theorem dX7_ifDeleted_34 : decode cX7_ifDeleted 34 = .ok (.iload_n 2, 1) := by decide +kernel
theorem dX7_ifDeleted_35 : decode cX7_ifDeleted 35 = .ok (.invokestatic 136, 3) := by decide +kernel
theorem dX7_ifDeleted_38 : decode cX7_ifDeleted 38 = .ok (.invokevirtual 154, 3) := by decide +kernel
theorem dX7_ifDeleted_41 : decode cX7_ifDeleted 41 = .ok (.istore 4, 2) := by decide +kernel
theorem dX7_ifDeleted_43 : decode cX7_ifDeleted 43 = .ok (.aload_n 0, 1) := by decide +kernel
theorem dX7_ifDeleted_44 : decode cX7_ifDeleted 44 = .ok (.getfield 12, 3) := by decide +kernel
theorem dX7_ifDeleted_47 : decode cX7_ifDeleted 47 = .ok (.iload_n 3, 1) := by decide +kernel
theorem dX7_ifDeleted_48 : decode cX7_ifDeleted 48 = .ok (.invokevirtual 232, 3) := by decide +kernel
theorem dX7_ifDeleted_51 : decode cX7_ifDeleted 51 = .ok (.pop, 1) := by decide +kernel
theorem dX7_ifDeleted_52 : decode cX7_ifDeleted 52 = .ok (.iload 4, 2) := by decide +kernel
theorem dX7_ifDeleted_54 : decode cX7_ifDeleted 54 = .ok (.bipush (-3), 2) := by decide +kernel
theorem dX7_ifDeleted_56 : decode cX7_ifDeleted 56 = .ok (.if_icmp .ne 8, 3) := by decide +kernel
theorem dX7_ifDeleted_59 : decode cX7_ifDeleted 59 = .ok (.bipush (-2), 2) := by decide +kernel
theorem dX7_ifDeleted_61 : decode cX7_ifDeleted 61 = .ok (.goto 5, 3) := by decide +kernel
theorem dX7_ifDeleted_64 : decode cX7_ifDeleted 64 = .ok (.iload 4, 2) := by decide +kernel
theorem dX7_ifDeleted_66 : decode cX7_ifDeleted 66 = .ok (.ireturn, 1) := by decide +kernel
set_option maxRecDepth 20000 in
theorem ggX7_changes_X4_changeCount : GoodIn wsX7_changes wsX4_changeCount := goodIn_r _ [6, 7, 14, 15, 16] (by decide +kernel) (by decide +kernel)
set_option maxRecDepth 20000 in
theorem gX7_changes_X4_changeCount : GoodIn wsX7_changes (wsV RX7 78 RX4 yX4_changeCount wsX4_changeCount) := goodIn_app (goodIn_of _ (by decide +kernel)) ggX7_changes_X4_changeCount
theorem dX7_changes_0 : decode cX7_changes 0 = .ok (.aload_n 0, 1) := by decide +kernel
theorem dX7_changes_1 : decode cX7_changes 1 = .ok (.getfield 12, 3) := by decide +kernel
theorem dX7_changes_4 : decode cX7_changes 4 = .ok (.invokevirtual 78, 3) := by decide +kernel
theorem dX7_changes_7 : decode cX7_changes 7 = .ok (.ireturn, 1) := by decide +kernel
set_option maxRecDepth 20000 in
theorem ggX7_savePoints_X5_count : GoodIn wsX7_savePoints wsX5_count := goodIn_r _ [6, 7, 14, 15] (by decide +kernel) (by decide +kernel)
set_option maxRecDepth 20000 in
theorem gX7_savePoints_X5_count : GoodIn wsX7_savePoints (wsV RX7 235 RX5 yX5_count wsX5_count) := goodIn_app (goodIn_of _ (by decide +kernel)) ggX7_savePoints_X5_count
theorem dX7_savePoints_0 : decode cX7_savePoints 0 = .ok (.aload_n 0, 1) := by decide +kernel
theorem dX7_savePoints_1 : decode cX7_savePoints 1 = .ok (.getfield 44, 3) := by decide +kernel
theorem dX7_savePoints_4 : decode cX7_savePoints 4 = .ok (.invokevirtual 235, 3) := by decide +kernel
theorem dX7_savePoints_7 : decode cX7_savePoints 7 = .ok (.ireturn, 1) := by decide +kernel
set_option maxRecDepth 20000 in
theorem ggX7_insertRow_X4_has : GoodIn wsX7_insertRow wsX4_has := goodIn_r _ [6, 7, 91, 92, 93] (by decide +kernel) (by decide +kernel)
set_option maxRecDepth 20000 in
theorem gX7_insertRow_X4_has : GoodIn wsX7_insertRow (wsV RX7 206 RX4 yX4_has wsX4_has) := goodIn_app (goodIn_of _ (by decide +kernel)) ggX7_insertRow_X4_has
set_option maxRecDepth 20000 in
theorem ggX7_insertRow_X4_beginStatement : GoodIn wsX7_insertRow wsX4_beginStatement := goodIn_r _ [11, 12, 13, 14, 15, 16, 17, 18, 19, 20, 21, 22, 23, 24, 25, 26, 27, 28, 29, 30, 31, 32, 33, 91, 92, 93] (by decide +kernel) (by decide +kernel)
set_option maxRecDepth 20000 in
theorem gX7_insertRow_X4_beginStatement : GoodIn wsX7_insertRow (wsV RX7 236 RX4 yX4_beginStatement wsX4_beginStatement) := goodIn_app (goodIn_of _ (by decide +kernel)) ggX7_insertRow_X4_beginStatement
set_option maxRecDepth 20000 in
theorem ggX7_insertRow_X4_write : GoodIn wsX7_insertRow wsX4_write := goodIn_r _ [37, 13, 12, 7, 91, 92, 93] (by decide +kernel) (by decide +kernel)
set_option maxRecDepth 20000 in
theorem gX7_insertRow_X4_write : GoodIn wsX7_insertRow (wsV RX7 239 RX4 yX4_write wsX4_write) := goodIn_app (goodIn_of _ (by decide +kernel)) ggX7_insertRow_X4_write
set_option maxRecDepth 20000 in
theorem ggX7_insertRow_X7_endStatement : GoodIn wsX7_insertRow wsX7_endStatement := goodIn_r _ [42, 43, 1, 44, 45, 46, 47, 48, 49, 50, 51, 52, 53, 54, 55, 56, 57, 58, 59, 60, 61, 62, 63, 64, 41, 65, 66, 67, 68, 69, 70, 71, 72, 5, 73, 7, 74, 3, 4, 6, 75, 76, 77, 78, 79, 80, 13, 12, 81, 82, 83, 84, 85, 86, 87, 88, 89, 90, 94, 95, 96, 97, 91, 92, 93] (by decide +kernel) (by decide +kernel)
set_option maxRecDepth 20000 in
theorem gX7_insertRow_X7_endStatement : GoodIn wsX7_insertRow (wsV RX7 243 RX7 yX7_endStatement wsX7_endStatement) := goodIn_app (goodIn_of _ (by decide +kernel)) ggX7_insertRow_X7_endStatement
theorem dX7_insertRow_0 : decode cX7_insertRow 0 = .ok (.aload_n 0, 1) := by decide +kernel
theorem dX7_insertRow_1 : decode cX7_insertRow 1 = .ok (.getfield 12, 3) := by decide +kernel
theorem dX7_insertRow_4 : decode cX7_insertRow 4 = .ok (.iload_n 1, 1) := by decide +kernel
theorem dX7_insertRow_5 : decode cX7_insertRow 5 = .ok (.invokevirtual 206, 3) := by decide +kernel
theorem dX7_insertRow_8 : decode cX7_insertRow 8 = .ok (.ifCond .eq 6, 3) := by decide +kernel
theorem dX7_insertRow_11 : decode cX7_insertRow 11 = .ok (.bipush (-3), 2) := by decide +kernel
theorem dX7_insertRow_13 : decode cX7_insertRow 13 = .ok (.ireturn, 1) := by decide +kernel
theorem dX7_insertRow_14 : decode cX7_insertRow 14 = .ok (.aload_n 0, 1) := by decide +kernel
theorem dX7_insertRow_15 : decode cX7_insertRow 15 = .ok (.getfield 12, 3) := by decide +kernel
theorem dX7_insertRow_18 : decode cX7_insertRow 18 = .ok (.invokevirtual 236, 3) := by decide +kernel
theorem dX7_insertRow_21 : decode cX7_insertRow 21 = .ok (.istore 4, 2) := by decide +kernel
theorem dX7_insertRow_23 : decode cX7_insertRow 23 = .ok (.aload_n 0, 1) := by decide +kernel
theorem dX7_insertRow_24 : decode cX7_insertRow 24 = .ok (.getfield 12, 3) := by decide +kernel
theorem dX7_insertRow_27 : decode cX7_insertRow 27 = .ok (.iload_n 1, 1) := by decide +kernel
theorem dX7_insertRow_28 : decode cX7_insertRow 28 = .ok (.iload_n 2, 1) := by decide +kernel
theorem dX7_insertRow_29 : decode cX7_insertRow 29 = .ok (.iload_n 3, 1) := by decide +kernel
theorem dX7_insertRow_30 : decode cX7_insertRow 30 = .ok (.invokevirtual 239, 3) := by decide +kernel
theorem dX7_insertRow_33 : decode cX7_insertRow 33 = .ok (.aload_n 0, 1) := by decide +kernel
theorem dX7_insertRow_34 : decode cX7_insertRow 34 = .ok (.iload 4, 2) := by decide +kernel
theorem dX7_insertRow_36 : decode cX7_insertRow 36 = .ok (.iconst 1, 1) := by decide +kernel
theorem dX7_insertRow_37 : decode cX7_insertRow 37 = .ok (.invokevirtual 243, 3) := by decide +kernel
theorem dX7_insertRow_40 : decode cX7_insertRow 40 = .ok (.ireturn, 1) := by decide +kernel
set_option maxRecDepth 20000 in
theorem ggX7_updateRow_X4_has : GoodIn wsX7_updateRow wsX4_has := goodIn_r _ [6, 7, 96, 97, 98] (by decide +kernel) (by decide +kernel)
set_option maxRecDepth 20000 in
theorem gX7_updateRow_X4_has : GoodIn wsX7_updateRow (wsV RX7 206 RX4 yX4_has wsX4_has) := goodIn_app (goodIn_of _ (by decide +kernel)) ggX7_updateRow_X4_has
set_option maxRecDepth 20000 in
theorem ggX7_updateRow_X4_beginStatement : GoodIn wsX7_updateRow wsX4_beginStatement := goodIn_r _ [11, 12, 13, 14, 15, 16, 17, 18, 19, 20, 21, 22, 23, 24, 25, 26, 27, 28, 29, 30, 31, 32, 33, 96, 97, 98] (by decide +kernel) (by decide +kernel)
set_option maxRecDepth 20000 in
theorem gX7_updateRow_X4_beginStatement : GoodIn wsX7_updateRow (wsV RX7 236 RX4 yX4_beginStatement wsX4_beginStatement) := goodIn_app (goodIn_of _ (by decide +kernel)) ggX7_updateRow_X4_beginStatement
set_option maxRecDepth 20000 in
theorem ggX7_updateRow_X4_writeColumn : GoodIn wsX7_updateRow wsX4_writeColumn := goodIn_r _ [37, 38, 39, 40, 5, 41, 7, 42, 43, 44, 45, 13, 12, 96, 97, 98] (by decide +kernel) (by decide +kernel)
set_option maxRecDepth 20000 in
theorem gX7_updateRow_X4_writeColumn : GoodIn wsX7_updateRow (wsV RX7 246 RX4 yX4_writeColumn wsX4_writeColumn) := goodIn_app (goodIn_of _ (by decide +kernel)) ggX7_updateRow_X4_writeColumn
set_option maxRecDepth 20000 in
theorem ggX7_updateRow_X7_endStatement : GoodIn wsX7_updateRow wsX7_endStatement := goodIn_r _ [50, 51, 1, 52, 53, 54, 55, 56, 57, 58, 59, 60, 61, 62, 63, 64, 65, 66, 67, 68, 69, 70, 71, 72, 49, 73, 74, 75, 76, 77, 78, 39, 40, 5, 41, 7, 79, 3, 4, 6, 80, 81, 82, 83, 84, 85, 13, 12, 86, 87, 88, 89, 90, 91, 92, 93, 94, 95, 99, 100, 101, 102, 96, 97, 98] (by decide +kernel) (by decide +kernel)
set_option maxRecDepth 20000 in
theorem gX7_updateRow_X7_endStatement : GoodIn wsX7_updateRow (wsV RX7 243 RX7 yX7_endStatement wsX7_endStatement) := goodIn_app (goodIn_of _ (by decide +kernel)) ggX7_updateRow_X7_endStatement
theorem dX7_updateRow_0 : decode cX7_updateRow 0 = .ok (.aload_n 0, 1) := by decide +kernel
theorem dX7_updateRow_1 : decode cX7_updateRow 1 = .ok (.getfield 12, 3) := by decide +kernel
theorem dX7_updateRow_4 : decode cX7_updateRow 4 = .ok (.iload_n 1, 1) := by decide +kernel
theorem dX7_updateRow_5 : decode cX7_updateRow 5 = .ok (.invokevirtual 206, 3) := by decide +kernel
theorem dX7_updateRow_8 : decode cX7_updateRow 8 = .ok (.ifCond .ne 6, 3) := by decide +kernel
theorem dX7_updateRow_11 : decode cX7_updateRow 11 = .ok (.bipush (-3), 2) := by decide +kernel
theorem dX7_updateRow_13 : decode cX7_updateRow 13 = .ok (.ireturn, 1) := by decide +kernel
theorem dX7_updateRow_14 : decode cX7_updateRow 14 = .ok (.aload_n 0, 1) := by decide +kernel
theorem dX7_updateRow_15 : decode cX7_updateRow 15 = .ok (.getfield 12, 3) := by decide +kernel
theorem dX7_updateRow_18 : decode cX7_updateRow 18 = .ok (.invokevirtual 236, 3) := by decide +kernel
theorem dX7_updateRow_21 : decode cX7_updateRow 21 = .ok (.istore 4, 2) := by decide +kernel
theorem dX7_updateRow_23 : decode cX7_updateRow 23 = .ok (.aload_n 0, 1) := by decide +kernel
theorem dX7_updateRow_24 : decode cX7_updateRow 24 = .ok (.getfield 12, 3) := by decide +kernel
theorem dX7_updateRow_27 : decode cX7_updateRow 27 = .ok (.iload_n 1, 1) := by decide +kernel
theorem dX7_updateRow_28 : decode cX7_updateRow 28 = .ok (.iload_n 2, 1) := by decide +kernel
theorem dX7_updateRow_29 : decode cX7_updateRow 29 = .ok (.iload_n 3, 1) := by decide +kernel
theorem dX7_updateRow_30 : decode cX7_updateRow 30 = .ok (.invokevirtual 246, 3) := by decide +kernel
theorem dX7_updateRow_33 : decode cX7_updateRow 33 = .ok (.aload_n 0, 1) := by decide +kernel
theorem dX7_updateRow_34 : decode cX7_updateRow 34 = .ok (.iload 4, 2) := by decide +kernel
theorem dX7_updateRow_36 : decode cX7_updateRow 36 = .ok (.iconst 1, 1) := by decide +kernel
theorem dX7_updateRow_37 : decode cX7_updateRow 37 = .ok (.invokevirtual 243, 3) := by decide +kernel
theorem dX7_updateRow_40 : decode cX7_updateRow 40 = .ok (.ireturn, 1) := by decide +kernel
set_option maxRecDepth 20000 in
theorem ggX7_deleteRow_X4_has : GoodIn wsX7_deleteRow wsX4_has := goodIn_r _ [7, 8, 142, 143, 144] (by decide +kernel) (by decide +kernel)
set_option maxRecDepth 20000 in
theorem gX7_deleteRow_X4_has : GoodIn wsX7_deleteRow (wsV RX7 206 RX4 yX4_has wsX4_has) := goodIn_app (goodIn_of _ (by decide +kernel)) ggX7_deleteRow_X4_has
set_option maxRecDepth 20000 in
theorem ggX7_deleteRow_X4_beginStatement : GoodIn wsX7_deleteRow wsX4_beginStatement := goodIn_r _ [12, 13, 14, 15, 16, 17, 18, 19, 20, 21, 22, 23, 24, 25, 26, 27, 28, 29, 30, 31, 32, 33, 34, 142, 143, 144] (by decide +kernel) (by decide +kernel)
set_option maxRecDepth 20000 in
theorem gX7_deleteRow_X4_beginStatement : GoodIn wsX7_deleteRow (wsV RX7 236 RX4 yX4_beginStatement wsX4_beginStatement) := goodIn_app (goodIn_of _ (by decide +kernel)) ggX7_deleteRow_X4_beginStatement
set_option maxRecDepth 20000 in
theorem ggX7_deleteRow_X1_run : GoodIn wsX7_deleteRow wsX1_run := goodIn_r _ [39, 40, 41, 42, 43, 44, 45, 46, 47, 48, 49, 50, 51, 52, 53, 54, 55, 56, 57, 58, 59, 60, 61, 62, 63, 64, 6, 65, 66, 67, 68, 69, 14, 13, 8, 70, 71, 72, 38, 73, 74, 75, 76, 77, 78, 79, 80, 81, 82, 83, 84, 85, 86, 87, 88, 89, 90, 91, 92, 93, 94, 95, 96, 97, 98, 99, 100, 101, 102, 103, 104, 105, 106, 107, 108, 145, 146, 147, 148, 149, 150, 142, 143, 144, 151, 152, 153, 154] (by decide +kernel) (by decide +kernel)
set_option maxRecDepth 20000 in
theorem gX7_deleteRow_X1_run : GoodIn wsX7_deleteRow (wsV RX7 249 RX1 yX1_run wsX1_run) := goodIn_app (goodIn_of _ (by decide +kernel)) ggX7_deleteRow_X1_run
set_option maxRecDepth 20000 in
theorem ggX7_deleteRow_X7_endStatement : GoodIn wsX7_deleteRow wsX7_endStatement := goodIn_r _ [112, 113, 1, 114, 115, 116, 78, 117, 118, 119, 120, 121, 122, 91, 92, 93, 94, 95, 123, 124, 125, 126, 90, 81, 82, 83, 84, 85, 96, 97, 98, 99, 100, 6, 101, 8, 127, 4, 5, 7, 107, 108, 128, 129, 130, 131, 14, 13, 132, 133, 134, 135, 136, 137, 138, 139, 140, 141, 151, 152, 153, 154, 142, 143, 144] (by decide +kernel) (by decide +kernel)
set_option maxRecDepth 20000 in
theorem gX7_deleteRow_X7_endStatement : GoodIn wsX7_deleteRow (wsV RX7 243 RX7 yX7_endStatement wsX7_endStatement) := goodIn_app (goodIn_of _ (by decide +kernel)) ggX7_deleteRow_X7_endStatement
theorem dX7_deleteRow_0 : decode cX7_deleteRow 0 = .ok (.aload_n 0, 1) := by decide +kernel
theorem dX7_deleteRow_1 : decode cX7_deleteRow 1 = .ok (.getfield 12, 3) := by decide +kernel
theorem dX7_deleteRow_4 : decode cX7_deleteRow 4 = .ok (.iload_n 1, 1) := by decide +kernel
theorem dX7_deleteRow_5 : decode cX7_deleteRow 5 = .ok (.invokevirtual 206, 3) := by decide +kernel
theorem dX7_deleteRow_8 : decode cX7_deleteRow 8 = .ok (.ifCond .ne 6, 3) := by decide +kernel
theorem dX7_deleteRow_11 : decode cX7_deleteRow 11 = .ok (.bipush (-3), 2) := by decide +kernel
theorem dX7_deleteRow_13 : decode cX7_deleteRow 13 = .ok (.ireturn, 1) := by decide +kernel
theorem dX7_deleteRow_14 : decode cX7_deleteRow 14 = .ok (.aload_n 0, 1) := by decide +kernel
theorem dX7_deleteRow_15 : decode cX7_deleteRow 15 = .ok (.getfield 12, 3) := by decide +kernel
theorem dX7_deleteRow_18 : decode cX7_deleteRow 18 = .ok (.invokevirtual 236, 3) := by decide +kernel
theorem dX7_deleteRow_21 : decode cX7_deleteRow 21 = .ok (.istore_n 2, 1) := by decide +kernel
theorem dX7_deleteRow_22 : decode cX7_deleteRow 22 = .ok (.aload_n 0, 1) := by decide +kernel
theorem dX7_deleteRow_23 : decode cX7_deleteRow 23 = .ok (.getfield 37, 3) := by decide +kernel
theorem dX7_deleteRow_26 : decode cX7_deleteRow 26 = .ok (.iload_n 1, 1) := by decide +kernel
theorem dX7_deleteRow_27 : decode cX7_deleteRow 27 = .ok (.invokevirtual 249, 3) := by decide +kernel
theorem dX7_deleteRow_30 : decode cX7_deleteRow 30 = .ok (.istore_n 3, 1) := by decide +kernel
theorem dX7_deleteRow_31 : decode cX7_deleteRow 31 = .ok (.aload_n 0, 1) := by decide +kernel
theorem dX7_deleteRow_32 : decode cX7_deleteRow 32 = .ok (.iload_n 2, 1) := by decide +kernel
theorem dX7_deleteRow_33 : decode cX7_deleteRow 33 = .ok (.iload_n 3, 1) := by decide +kernel
theorem dX7_deleteRow_34 : decode cX7_deleteRow 34 = .ok (.invokevirtual 243, 3) := by decide +kernel
theorem dX7_deleteRow_37 : decode cX7_deleteRow 37 = .ok (.ireturn, 1) := by decide +kernel
set_option maxRecDepth 20000 in
theorem ggX7_endStatement_X0_firstRefusal : GoodIn wsX7_endStatement wsX0_firstRefusal := goodIn_r _ [7, 8, 9, 10, 6, 11, 12, 13, 14, 15, 16, 17, 18, 19, 20, 21, 22, 23, 24, 25, 26, 27, 28, 29, 30, 31, 32, 33, 34, 35, 36, 37, 38, 39, 40, 41, 58, 59, 60, 61, 62, 63, 64] (by decide +kernel) (by decide +kernel)
set_option maxRecDepth 20000 in
theorem gX7_endStatement_X0_firstRefusal : GoodIn wsX7_endStatement (wsV RX7 228 RX0 yX0_firstRefusal wsX0_firstRefusal) := goodIn_app (goodIn_of _ (by decide +kernel)) ggX7_endStatement_X0_firstRefusal
set_option maxRecDepth 20000 in
theorem ggX7_endStatement_X4_undoTo : GoodIn wsX7_endStatement wsX4_undoTo := goodIn_r _ [45, 46, 47, 48, 49, 50, 33, 51, 35, 62, 63, 64] (by decide +kernel) (by decide +kernel)
set_option maxRecDepth 20000 in
theorem gX7_endStatement_X4_undoTo : GoodIn wsX7_endStatement (wsV RX7 232 RX4 yX4_undoTo wsX4_undoTo) := goodIn_app (goodIn_of _ (by decide +kernel)) ggX7_endStatement_X4_undoTo
theorem dX7_endStatement_0 : decode cX7_endStatement 0 = .ok (.iload_n 2, 1) := by decide +kernel
theorem dX7_endStatement_1 : decode cX7_endStatement 1 = .ok (.bipush (-10), 2) := by decide +kernel
theorem dX7_endStatement_3 : decode cX7_endStatement 3 = .ok (.if_icmp .gt 7, 3) := by decide +kernel
theorem dX7_endStatement_6 : decode cX7_endStatement 6 = .ok (.iload_n 2, 1) := by decide +kernel
theorem dX7_endStatement_7 : decode cX7_endStatement 7 = .ok (.goto 11, 3) := by decide +kernel
theorem dX7_endStatement_10 : decode cX7_endStatement 10 = .ok (.aload_n 0, 1) := by decide +kernel
theorem dX7_endStatement_11 : decode cX7_endStatement 11 = .ok (.getfield 21, 3) := by decide +kernel
theorem dX7_endStatement_14 : decode cX7_endStatement 14 = .ok (.iconst 0, 1) := by decide +kernel
theorem dX7_endStatement_15 : decode cX7_endStatement 15 = .ok (.invokevirtual 228, 3) := by decide +kernel
theorem dX7_endStatement_18 : decode cX7_endStatement 18 = .ok (.istore_n 3, 1) := by decide +kernel
theorem dX7_endStatement_19 : decode cX7_endStatement 19 = .ok (.iload_n 3, 1) := by decide +kernel
theorem dX7_endStatement_20 : decode cX7_endStatement 20 = .ok (.ifCond .ne 5, 3) := by decide +kernel
theorem dX7_endStatement_23 : decode cX7_endStatement 23 = .ok (.iload_n 2, 1) := by decide +kernel
theorem dX7_endStatement_24 : decode cX7_endStatement 24 = .ok (.ireturn, 1) := by decide +kernel
theorem dX7_endStatement_25 : decode cX7_endStatement 25 = .ok (.aload_n 0, 1) := by decide +kernel
theorem dX7_endStatement_26 : decode cX7_endStatement 26 = .ok (.getfield 12, 3) := by decide +kernel
theorem dX7_endStatement_29 : decode cX7_endStatement 29 = .ok (.iload_n 1, 1) := by decide +kernel
theorem dX7_endStatement_30 : decode cX7_endStatement 30 = .ok (.invokevirtual 232, 3) := by decide +kernel
theorem dX7_endStatement_33 : decode cX7_endStatement 33 = .ok (.pop, 1) := by decide +kernel
theorem dX7_endStatement_34 : decode cX7_endStatement 34 = .ok (.iload_n 3, 1) := by decide +kernel
theorem dX7_endStatement_35 : decode cX7_endStatement 35 = .ok (.ireturn, 1) := by decide +kernel
set_option maxRecDepth 20000 in
theorem ggX7_commitAll_X0_firstRefusal : GoodIn wsX7_commitAll wsX0_firstRefusal := goodIn_r _ [8, 9, 10, 11, 7, 12, 13, 14, 15, 16, 17, 18, 19, 20, 21, 22, 23, 24, 25, 26, 27, 28, 29, 30, 31, 32, 33, 34, 35, 36, 37, 38, 39, 40, 41, 42, 64, 65, 66, 67, 68, 69, 70] (by decide +kernel) (by decide +kernel)
set_option maxRecDepth 20000 in
theorem gX7_commitAll_X0_firstRefusal : GoodIn wsX7_commitAll (wsV RX7 228 RX0 yX0_firstRefusal wsX0_firstRefusal) := goodIn_app (goodIn_of _ (by decide +kernel)) ggX7_commitAll_X0_firstRefusal
set_option maxRecDepth 20000 in
theorem ggX7_commitAll_X4_changeCount : GoodIn wsX7_commitAll wsX4_changeCount := goodIn_r _ [46, 47, 68, 69, 70] (by decide +kernel) (by decide +kernel)
set_option maxRecDepth 20000 in
theorem gX7_commitAll_X4_changeCount : GoodIn wsX7_commitAll (wsV RX7 78 RX4 yX4_changeCount wsX4_changeCount) := goodIn_app (goodIn_of _ (by decide +kernel)) ggX7_commitAll_X4_changeCount
set_option maxRecDepth 20000 in
theorem ggX7_commitAll_X4_forgetChanges : GoodIn wsX7_commitAll wsX4_forgetChanges := goodIn_r _ [51, 47, 68, 69, 70] (by decide +kernel) (by decide +kernel)
set_option maxRecDepth 20000 in
theorem gX7_commitAll_X4_forgetChanges : GoodIn wsX7_commitAll (wsV RX7 252 RX4 yX4_forgetChanges wsX4_forgetChanges) := goodIn_app (goodIn_of _ (by decide +kernel)) ggX7_commitAll_X4_forgetChanges
set_option maxRecDepth 20000 in
theorem ggX7_commitAll_X5_cutTo : GoodIn wsX7_commitAll wsX5_cutTo := goodIn_r _ [56, 57, 71, 72] (by decide +kernel) (by decide +kernel)
set_option maxRecDepth 20000 in
theorem gX7_commitAll_X5_cutTo : GoodIn wsX7_commitAll (wsV RX7 255 RX5 yX5_cutTo wsX5_cutTo) := goodIn_app (goodIn_of _ (by decide +kernel)) ggX7_commitAll_X5_cutTo
theorem dX7_commitAll_0 : decode cX7_commitAll 0 = .ok (.aload_n 0, 1) := by decide +kernel
theorem dX7_commitAll_1 : decode cX7_commitAll 1 = .ok (.getfield 21, 3) := by decide +kernel
theorem dX7_commitAll_4 : decode cX7_commitAll 4 = .ok (.iconst 1, 1) := by decide +kernel
theorem dX7_commitAll_5 : decode cX7_commitAll 5 = .ok (.invokevirtual 228, 3) := by decide +kernel
theorem dX7_commitAll_8 : decode cX7_commitAll 8 = .ok (.istore_n 1, 1) := by decide +kernel
theorem dX7_commitAll_9 : decode cX7_commitAll 9 = .ok (.iload_n 1, 1) := by decide +kernel
theorem dX7_commitAll_10 : decode cX7_commitAll 10 = .ok (.ifCond .eq 5, 3) := by decide +kernel
theorem dX7_commitAll_13 : decode cX7_commitAll 13 = .ok (.iload_n 1, 1) := by decide +kernel
theorem dX7_commitAll_14 : decode cX7_commitAll 14 = .ok (.ireturn, 1) := by decide +kernel
theorem dX7_commitAll_15 : decode cX7_commitAll 15 = .ok (.aload_n 0, 1) := by decide +kernel
theorem dX7_commitAll_16 : decode cX7_commitAll 16 = .ok (.getfield 12, 3) := by decide +kernel
theorem dX7_commitAll_19 : decode cX7_commitAll 19 = .ok (.invokevirtual 78, 3) := by decide +kernel
theorem dX7_commitAll_22 : decode cX7_commitAll 22 = .ok (.istore_n 2, 1) := by decide +kernel
theorem dX7_commitAll_23 : decode cX7_commitAll 23 = .ok (.aload_n 0, 1) := by decide +kernel
theorem dX7_commitAll_24 : decode cX7_commitAll 24 = .ok (.getfield 12, 3) := by decide +kernel
theorem dX7_commitAll_27 : decode cX7_commitAll 27 = .ok (.invokevirtual 252, 3) := by decide +kernel
theorem dX7_commitAll_30 : decode cX7_commitAll 30 = .ok (.aload_n 0, 1) := by decide +kernel
theorem dX7_commitAll_31 : decode cX7_commitAll 31 = .ok (.getfield 44, 3) := by decide +kernel
theorem dX7_commitAll_34 : decode cX7_commitAll 34 = .ok (.iconst 0, 1) := by decide +kernel
theorem dX7_commitAll_35 : decode cX7_commitAll 35 = .ok (.invokevirtual 255, 3) := by decide +kernel
theorem dX7_commitAll_38 : decode cX7_commitAll 38 = .ok (.iload_n 2, 1) := by decide +kernel
theorem dX7_commitAll_39 : decode cX7_commitAll 39 = .ok (.ireturn, 1) := by decide +kernel
set_option maxRecDepth 20000 in
theorem ggX7_undoAll_X5_cutTo : GoodIn wsX7_undoAll wsX5_cutTo := goodIn_r _ [7, 8, 27, 28] (by decide +kernel) (by decide +kernel)
set_option maxRecDepth 20000 in
theorem gX7_undoAll_X5_cutTo : GoodIn wsX7_undoAll (wsV RX7 255 RX5 yX5_cutTo wsX5_cutTo) := goodIn_app (goodIn_of _ (by decide +kernel)) ggX7_undoAll_X5_cutTo
set_option maxRecDepth 20000 in
theorem ggX7_undoAll_X4_undoTo : GoodIn wsX7_undoAll wsX4_undoTo := goodIn_r _ [13, 14, 15, 16, 17, 18, 12, 19, 20, 29, 30, 31] (by decide +kernel) (by decide +kernel)
set_option maxRecDepth 20000 in
theorem gX7_undoAll_X4_undoTo : GoodIn wsX7_undoAll (wsV RX7 232 RX4 yX4_undoTo wsX4_undoTo) := goodIn_app (goodIn_of _ (by decide +kernel)) ggX7_undoAll_X4_undoTo
theorem dX7_undoAll_0 : decode cX7_undoAll 0 = .ok (.aload_n 0, 1) := by decide +kernel
theorem dX7_undoAll_1 : decode cX7_undoAll 1 = .ok (.getfield 44, 3) := by decide +kernel
theorem dX7_undoAll_4 : decode cX7_undoAll 4 = .ok (.iconst 0, 1) := by decide +kernel
theorem dX7_undoAll_5 : decode cX7_undoAll 5 = .ok (.invokevirtual 255, 3) := by decide +kernel
theorem dX7_undoAll_8 : decode cX7_undoAll 8 = .ok (.aload_n 0, 1) := by decide +kernel
theorem dX7_undoAll_9 : decode cX7_undoAll 9 = .ok (.getfield 12, 3) := by decide +kernel
theorem dX7_undoAll_12 : decode cX7_undoAll 12 = .ok (.iconst 0, 1) := by decide +kernel
theorem dX7_undoAll_13 : decode cX7_undoAll 13 = .ok (.invokevirtual 232, 3) := by decide +kernel
theorem dX7_undoAll_16 : decode cX7_undoAll 16 = .ok (.ireturn, 1) := by decide +kernel
set_option maxRecDepth 20000 in
theorem ggX7_makePoint_X5_count : GoodIn wsX7_makePoint wsX5_count := goodIn_r _ [7, 8, 26, 27] (by decide +kernel) (by decide +kernel)
set_option maxRecDepth 20000 in
theorem gX7_makePoint_X5_count : GoodIn wsX7_makePoint (wsV RX7 235 RX5 yX5_count wsX5_count) := goodIn_app (goodIn_of _ (by decide +kernel)) ggX7_makePoint_X5_count
set_option maxRecDepth 20000 in
theorem ggX7_makePoint_X4_changeCount : GoodIn wsX7_makePoint wsX4_changeCount := goodIn_r _ [13, 14, 28, 29, 30] (by decide +kernel) (by decide +kernel)
set_option maxRecDepth 20000 in
theorem gX7_makePoint_X4_changeCount : GoodIn wsX7_makePoint (wsV RX7 78 RX4 yX4_changeCount wsX4_changeCount) := goodIn_app (goodIn_of _ (by decide +kernel)) ggX7_makePoint_X4_changeCount
set_option maxRecDepth 20000 in
theorem ggX7_makePoint_X5_add : GoodIn wsX7_makePoint wsX5_add := goodIn_r _ [18, 8, 19, 26, 27] (by decide +kernel) (by decide +kernel)
set_option maxRecDepth 20000 in
theorem gX7_makePoint_X5_add : GoodIn wsX7_makePoint (wsV RX7 258 RX5 yX5_add wsX5_add) := goodIn_app (goodIn_of _ (by decide +kernel)) ggX7_makePoint_X5_add
theorem dX7_makePoint_0 : decode cX7_makePoint 0 = .ok (.aload_n 0, 1) := by decide +kernel
theorem dX7_makePoint_1 : decode cX7_makePoint 1 = .ok (.getfield 44, 3) := by decide +kernel
theorem dX7_makePoint_4 : decode cX7_makePoint 4 = .ok (.invokevirtual 235, 3) := by decide +kernel
theorem dX7_makePoint_7 : decode cX7_makePoint 7 = .ok (.istore_n 1, 1) := by decide +kernel
theorem dX7_makePoint_8 : decode cX7_makePoint 8 = .ok (.iload_n 1, 1) := by decide +kernel
theorem dX7_makePoint_9 : decode cX7_makePoint 9 = .ok (.iconst 4, 1) := by decide +kernel
theorem dX7_makePoint_10 : decode cX7_makePoint 10 = .ok (.if_icmp .lt 6, 3) := by decide +kernel
theorem dX7_makePoint_13 : decode cX7_makePoint 13 = .ok (.bipush (-3), 2) := by decide +kernel
theorem dX7_makePoint_15 : decode cX7_makePoint 15 = .ok (.ireturn, 1) := by decide +kernel
theorem dX7_makePoint_16 : decode cX7_makePoint 16 = .ok (.aload_n 0, 1) := by decide +kernel
theorem dX7_makePoint_17 : decode cX7_makePoint 17 = .ok (.getfield 44, 3) := by decide +kernel
theorem dX7_makePoint_20 : decode cX7_makePoint 20 = .ok (.aload_n 0, 1) := by decide +kernel
theorem dX7_makePoint_21 : decode cX7_makePoint 21 = .ok (.getfield 12, 3) := by decide +kernel
theorem dX7_makePoint_24 : decode cX7_makePoint 24 = .ok (.invokevirtual 78, 3) := by decide +kernel
theorem dX7_makePoint_27 : decode cX7_makePoint 27 = .ok (.invokevirtual 258, 3) := by decide +kernel
theorem dX7_makePoint_30 : decode cX7_makePoint 30 = .ok (.iload_n 1, 1) := by decide +kernel
theorem dX7_makePoint_31 : decode cX7_makePoint 31 = .ok (.ireturn, 1) := by decide +kernel
set_option maxRecDepth 20000 in
theorem ggX7_undoToPoint_X5_count : GoodIn wsX7_undoToPoint wsX5_count := goodIn_r _ [7, 8, 36, 37] (by decide +kernel) (by decide +kernel)
set_option maxRecDepth 20000 in
theorem gX7_undoToPoint_X5_count : GoodIn wsX7_undoToPoint (wsV RX7 235 RX5 yX5_count wsX5_count) := goodIn_app (goodIn_of _ (by decide +kernel)) ggX7_undoToPoint_X5_count
set_option maxRecDepth 20000 in
theorem ggX7_undoToPoint_X5_cutTo : GoodIn wsX7_undoToPoint wsX5_cutTo := goodIn_r _ [12, 8, 36, 37] (by decide +kernel) (by decide +kernel)
set_option maxRecDepth 20000 in
theorem gX7_undoToPoint_X5_cutTo : GoodIn wsX7_undoToPoint (wsV RX7 255 RX5 yX5_cutTo wsX5_cutTo) := goodIn_app (goodIn_of _ (by decide +kernel)) ggX7_undoToPoint_X5_cutTo
set_option maxRecDepth 20000 in
theorem ggX7_undoToPoint_X5_changesAt : GoodIn wsX7_undoToPoint wsX5_changesAt := goodIn_r _ [16, 17, 36, 37] (by decide +kernel) (by decide +kernel)
set_option maxRecDepth 20000 in
theorem gX7_undoToPoint_X5_changesAt : GoodIn wsX7_undoToPoint (wsV RX7 260 RX5 yX5_changesAt wsX5_changesAt) := goodIn_app (goodIn_of _ (by decide +kernel)) ggX7_undoToPoint_X5_changesAt
set_option maxRecDepth 20000 in
theorem ggX7_undoToPoint_X4_undoTo : GoodIn wsX7_undoToPoint wsX4_undoTo := goodIn_r _ [22, 23, 24, 25, 26, 27, 21, 28, 29, 38, 39, 40] (by decide +kernel) (by decide +kernel)
set_option maxRecDepth 20000 in
theorem gX7_undoToPoint_X4_undoTo : GoodIn wsX7_undoToPoint (wsV RX7 232 RX4 yX4_undoTo wsX4_undoTo) := goodIn_app (goodIn_of _ (by decide +kernel)) ggX7_undoToPoint_X4_undoTo
theorem dX7_undoToPoint_0 : decode cX7_undoToPoint 0 = .ok (.iload_n 1, 1) := by decide +kernel
theorem dX7_undoToPoint_1 : decode cX7_undoToPoint 1 = .ok (.ifCond .lt 14, 3) := by decide +kernel
theorem dX7_undoToPoint_4 : decode cX7_undoToPoint 4 = .ok (.iload_n 1, 1) := by decide +kernel
theorem dX7_undoToPoint_5 : decode cX7_undoToPoint 5 = .ok (.aload_n 0, 1) := by decide +kernel
theorem dX7_undoToPoint_6 : decode cX7_undoToPoint 6 = .ok (.getfield 44, 3) := by decide +kernel
theorem dX7_undoToPoint_9 : decode cX7_undoToPoint 9 = .ok (.invokevirtual 235, 3) := by decide +kernel
theorem dX7_undoToPoint_12 : decode cX7_undoToPoint 12 = .ok (.if_icmp .lt 6, 3) := by decide +kernel
theorem dX7_undoToPoint_15 : decode cX7_undoToPoint 15 = .ok (.bipush (-3), 2) := by decide +kernel
theorem dX7_undoToPoint_17 : decode cX7_undoToPoint 17 = .ok (.ireturn, 1) := by decide +kernel
theorem dX7_undoToPoint_18 : decode cX7_undoToPoint 18 = .ok (.aload_n 0, 1) := by decide +kernel
theorem dX7_undoToPoint_19 : decode cX7_undoToPoint 19 = .ok (.getfield 44, 3) := by decide +kernel
theorem dX7_undoToPoint_22 : decode cX7_undoToPoint 22 = .ok (.iload_n 1, 1) := by decide +kernel
theorem dX7_undoToPoint_23 : decode cX7_undoToPoint 23 = .ok (.iconst 1, 1) := by decide +kernel
theorem dX7_undoToPoint_24 : decode cX7_undoToPoint 24 = .ok (.iadd, 1) := by decide +kernel
theorem dX7_undoToPoint_25 : decode cX7_undoToPoint 25 = .ok (.invokevirtual 255, 3) := by decide +kernel
theorem dX7_undoToPoint_28 : decode cX7_undoToPoint 28 = .ok (.aload_n 0, 1) := by decide +kernel
theorem dX7_undoToPoint_29 : decode cX7_undoToPoint 29 = .ok (.getfield 12, 3) := by decide +kernel
theorem dX7_undoToPoint_32 : decode cX7_undoToPoint 32 = .ok (.aload_n 0, 1) := by decide +kernel
theorem dX7_undoToPoint_33 : decode cX7_undoToPoint 33 = .ok (.getfield 44, 3) := by decide +kernel
theorem dX7_undoToPoint_36 : decode cX7_undoToPoint 36 = .ok (.iload_n 1, 1) := by decide +kernel
theorem dX7_undoToPoint_37 : decode cX7_undoToPoint 37 = .ok (.invokevirtual 260, 3) := by decide +kernel
theorem dX7_undoToPoint_40 : decode cX7_undoToPoint 40 = .ok (.invokevirtual 232, 3) := by decide +kernel
theorem dX7_undoToPoint_43 : decode cX7_undoToPoint 43 = .ok (.ireturn, 1) := by decide +kernel
set_option maxRecDepth 20000 in
theorem ggX7_partOf_X0_parentOf : GoodIn wsX7_partOf wsX0_parentOf := goodIn_r _ [6, 7, 46, 47, 48, 49] (by decide +kernel) (by decide +kernel)
set_option maxRecDepth 20000 in
theorem gX7_partOf_X0_parentOf : GoodIn wsX7_partOf (wsV RX7 115 RX0 yX0_parentOf wsX0_parentOf) := goodIn_app (goodIn_of _ (by decide +kernel)) ggX7_partOf_X0_parentOf
set_option maxRecDepth 20000 in
theorem ggX7_partOf_X0_actionOf : GoodIn wsX7_partOf wsX0_actionOf := goodIn_r _ [11, 12, 46, 47, 48, 49] (by decide +kernel) (by decide +kernel)
set_option maxRecDepth 20000 in
theorem gX7_partOf_X0_actionOf : GoodIn wsX7_partOf (wsV RX7 269 RX0 yX0_actionOf wsX0_actionOf) := goodIn_app (goodIn_of _ (by decide +kernel)) ggX7_partOf_X0_actionOf
set_option maxRecDepth 20000 in
theorem ggX7_partOf_X0_isDeferred : GoodIn wsX7_partOf wsX0_isDeferred := goodIn_r _ [16, 17, 46, 47, 48, 49] (by decide +kernel) (by decide +kernel)
set_option maxRecDepth 20000 in
theorem gX7_partOf_X0_isDeferred : GoodIn wsX7_partOf (wsV RX7 112 RX0 yX0_isDeferred wsX0_isDeferred) := goodIn_app (goodIn_of _ (by decide +kernel)) ggX7_partOf_X0_isDeferred
set_option maxRecDepth 20000 in
theorem ggX7_partOf_X0_countViolations : GoodIn wsX7_partOf wsX0_countViolations := goodIn_r _ [21, 22, 23, 24, 25, 26, 27, 28, 29, 30, 31, 32, 33, 34, 35, 36, 37, 38, 39, 46, 47, 48, 49, 50, 51, 52] (by decide +kernel) (by decide +kernel)
set_option maxRecDepth 20000 in
theorem gX7_partOf_X0_countViolations : GoodIn wsX7_partOf (wsV RX7 92 RX0 yX0_countViolations wsX0_countViolations) := goodIn_app (goodIn_of _ (by decide +kernel)) ggX7_partOf_X0_countViolations
theorem dX7_partOf_0 : decode cX7_partOf 0 = .ok (.iload_n 2, 1) := by decide +kernel
theorem dX7_partOf_1 : decode cX7_partOf 1 = .ok (.tableswitch 62 0 2 #[27, 36, 45], 27) := by decide +kernel
theorem dX7_partOf_28 : decode cX7_partOf 28 = .ok (.aload_n 0, 1) := by decide +kernel
theorem dX7_partOf_29 : decode cX7_partOf 29 = .ok (.getfield 21, 3) := by decide +kernel
theorem dX7_partOf_32 : decode cX7_partOf 32 = .ok (.iload_n 1, 1) := by decide +kernel
theorem dX7_partOf_33 : decode cX7_partOf 33 = .ok (.invokevirtual 115, 3) := by decide +kernel
theorem dX7_partOf_36 : decode cX7_partOf 36 = .ok (.ireturn, 1) := by decide +kernel
theorem dX7_partOf_37 : decode cX7_partOf 37 = .ok (.aload_n 0, 1) := by decide +kernel
theorem dX7_partOf_38 : decode cX7_partOf 38 = .ok (.getfield 21, 3) := by decide +kernel
theorem dX7_partOf_41 : decode cX7_partOf 41 = .ok (.iload_n 1, 1) := by decide +kernel
theorem dX7_partOf_42 : decode cX7_partOf 42 = .ok (.invokevirtual 269, 3) := by decide +kernel
theorem dX7_partOf_45 : decode cX7_partOf 45 = .ok (.ireturn, 1) := by decide +kernel
theorem dX7_partOf_46 : decode cX7_partOf 46 = .ok (.aload_n 0, 1) := by decide +kernel
theorem dX7_partOf_47 : decode cX7_partOf 47 = .ok (.getfield 21, 3) := by decide +kernel
theorem dX7_partOf_50 : decode cX7_partOf 50 = .ok (.iload_n 1, 1) := by decide +kernel
theorem dX7_partOf_51 : decode cX7_partOf 51 = .ok (.invokevirtual 112, 3) := by decide +kernel
theorem dX7_partOf_54 : decode cX7_partOf 54 = .ok (.ifCond .eq 7, 3) := by decide +kernel
theorem dX7_partOf_57 : decode cX7_partOf 57 = .ok (.iconst 1, 1) := by decide +kernel
theorem dX7_partOf_58 : decode cX7_partOf 58 = .ok (.goto 4, 3) := by decide +kernel
theorem dX7_partOf_61 : decode cX7_partOf 61 = .ok (.iconst 0, 1) := by decide +kernel
theorem dX7_partOf_62 : decode cX7_partOf 62 = .ok (.ireturn, 1) := by decide +kernel
theorem dX7_partOf_63 : decode cX7_partOf 63 = .ok (.aload_n 0, 1) := by decide +kernel
theorem dX7_partOf_64 : decode cX7_partOf 64 = .ok (.getfield 21, 3) := by decide +kernel
theorem dX7_partOf_67 : decode cX7_partOf 67 = .ok (.iload_n 1, 1) := by decide +kernel
theorem dX7_partOf_68 : decode cX7_partOf 68 = .ok (.aload_n 0, 1) := by decide +kernel
theorem dX7_partOf_69 : decode cX7_partOf 69 = .ok (.getfield 21, 3) := by decide +kernel
theorem dX7_partOf_72 : decode cX7_partOf 72 = .ok (.iload_n 1, 1) := by decide +kernel
theorem dX7_partOf_73 : decode cX7_partOf 73 = .ok (.invokevirtual 115, 3) := by decide +kernel
theorem dX7_partOf_76 : decode cX7_partOf 76 = .ok (.invokevirtual 92, 3) := by decide +kernel
theorem dX7_partOf_79 : decode cX7_partOf 79 = .ok (.ireturn, 1) := by decide +kernel
theorem dX7_isTable_0 : decode cX7_isTable 0 = .ok (.iload_n 0, 1) := by decide +kernel
theorem dX7_isTable_1 : decode cX7_isTable 1 = .ok (.ifCond .lt 12, 3) := by decide +kernel
theorem dX7_isTable_4 : decode cX7_isTable 4 = .ok (.iload_n 0, 1) := by decide +kernel
theorem dX7_isTable_5 : decode cX7_isTable 5 = .ok (.iconst 4, 1) := by decide +kernel
theorem dX7_isTable_6 : decode cX7_isTable 6 = .ok (.if_icmp .ge 7, 3) := by decide +kernel
theorem dX7_isTable_9 : decode cX7_isTable 9 = .ok (.iconst 1, 1) := by decide +kernel
theorem dX7_isTable_10 : decode cX7_isTable 10 = .ok (.goto 4, 3) := by decide +kernel
theorem dX7_isTable_13 : decode cX7_isTable 13 = .ok (.iconst 0, 1) := by decide +kernel
theorem dX7_isTable_14 : decode cX7_isTable 14 = .ok (.ireturn, 1) := by decide +kernel
theorem dX7_isColumn_0 : decode cX7_isColumn 0 = .ok (.iload_n 0, 1) := by decide +kernel
theorem dX7_isColumn_1 : decode cX7_isColumn 1 = .ok (.ifCond .lt 12, 3) := by decide +kernel
theorem dX7_isColumn_4 : decode cX7_isColumn 4 = .ok (.iload_n 0, 1) := by decide +kernel
theorem dX7_isColumn_5 : decode cX7_isColumn 5 = .ok (.iconst 2, 1) := by decide +kernel
theorem dX7_isColumn_6 : decode cX7_isColumn 6 = .ok (.if_icmp .ge 7, 3) := by decide +kernel
theorem dX7_isColumn_9 : decode cX7_isColumn 9 = .ok (.iconst 1, 1) := by decide +kernel
theorem dX7_isColumn_10 : decode cX7_isColumn 10 = .ok (.goto 4, 3) := by decide +kernel
theorem dX7_isColumn_13 : decode cX7_isColumn 13 = .ok (.iconst 0, 1) := by decide +kernel
theorem dX7_isColumn_14 : decode cX7_isColumn 14 = .ok (.ireturn, 1) := by decide +kernel
theorem dX7_isKey_0 : decode cX7_isKey 0 = .ok (.iload_n 0, 1) := by decide +kernel
theorem dX7_isKey_1 : decode cX7_isKey 1 = .ok (.ifCond .lt 13, 3) := by decide +kernel
theorem dX7_isKey_4 : decode cX7_isKey 4 = .ok (.iload_n 0, 1) := by decide +kernel
theorem dX7_isKey_5 : decode cX7_isKey 5 = .ok (.bipush 20, 2) := by decide +kernel
theorem dX7_isKey_7 : decode cX7_isKey 7 = .ok (.if_icmp .ge 7, 3) := by decide +kernel
theorem dX7_isKey_10 : decode cX7_isKey 10 = .ok (.iconst 1, 1) := by decide +kernel
theorem dX7_isKey_11 : decode cX7_isKey 11 = .ok (.goto 4, 3) := by decide +kernel
theorem dX7_isKey_14 : decode cX7_isKey 14 = .ok (.iconst 0, 1) := by decide +kernel
theorem dX7_isKey_15 : decode cX7_isKey 15 = .ok (.ireturn, 1) := by decide +kernel
set_option maxRecDepth 20000 in
theorem ggX7_isValue_X7_isKey : GoodIn wsX7_isValue wsX7_isKey := goodIn_r _ [4] (by decide +kernel) (by decide +kernel)
set_option maxRecDepth 20000 in
theorem gX7_isValue_X7_isKey : GoodIn wsX7_isValue (va_wsS RX7 126 yX7_isKey wsX7_isKey) := goodIn_app (goodIn_of _ (by decide +kernel)) ggX7_isValue_X7_isKey
theorem dX7_isValue_0 : decode cX7_isValue 0 = .ok (.iload_n 0, 1) := by decide +kernel
theorem dX7_isValue_1 : decode cX7_isValue 1 = .ok (.iconst (-1), 1) := by decide +kernel
theorem dX7_isValue_2 : decode cX7_isValue 2 = .ok (.if_icmp .eq 10, 3) := by decide +kernel
theorem dX7_isValue_5 : decode cX7_isValue 5 = .ok (.iload_n 0, 1) := by decide +kernel
theorem dX7_isValue_6 : decode cX7_isValue 6 = .ok (.invokestatic 126, 3) := by decide +kernel
theorem dX7_isValue_9 : decode cX7_isValue 9 = .ok (.ifCond .eq 7, 3) := by decide +kernel
theorem dX7_isValue_12 : decode cX7_isValue 12 = .ok (.iconst 1, 1) := by decide +kernel
theorem dX7_isValue_13 : decode cX7_isValue 13 = .ok (.goto 4, 3) := by decide +kernel
theorem dX7_isValue_16 : decode cX7_isValue 16 = .ok (.iconst 0, 1) := by decide +kernel
theorem dX7_isValue_17 : decode cX7_isValue 17 = .ok (.ireturn, 1) := by decide +kernel
theorem dX7_rowNumber_0 : decode cX7_rowNumber 0 = .ok (.iload_n 0, 1) := by decide +kernel
theorem dX7_rowNumber_1 : decode cX7_rowNumber 1 = .ok (.bipush 20, 2) := by decide +kernel
theorem dX7_rowNumber_3 : decode cX7_rowNumber 3 = .ok (.imul, 1) := by decide +kernel
theorem dX7_rowNumber_4 : decode cX7_rowNumber 4 = .ok (.iload_n 1, 1) := by decide +kernel
theorem dX7_rowNumber_5 : decode cX7_rowNumber 5 = .ok (.iadd, 1) := by decide +kernel
theorem dX7_rowNumber_6 : decode cX7_rowNumber 6 = .ok (.ireturn, 1) := by decide +kernel
theorem dX7_tableOfRow_0 : decode cX7_tableOfRow 0 = .ok (.iload_n 0, 1) := by decide +kernel
theorem dX7_tableOfRow_1 : decode cX7_tableOfRow 1 = .ok (.bipush 20, 2) := by decide +kernel
theorem dX7_tableOfRow_3 : decode cX7_tableOfRow 3 = .ok (.idiv, 1) := by decide +kernel
theorem dX7_tableOfRow_4 : decode cX7_tableOfRow 4 = .ok (.ireturn, 1) := by decide +kernel
theorem dX7_constraintNumber_0 : decode cX7_constraintNumber 0 = .ok (.iload_n 0, 1) := by decide +kernel
theorem dX7_constraintNumber_1 : decode cX7_constraintNumber 1 = .ok (.iconst 2, 1) := by decide +kernel
theorem dX7_constraintNumber_2 : decode cX7_constraintNumber 2 = .ok (.imul, 1) := by decide +kernel
theorem dX7_constraintNumber_3 : decode cX7_constraintNumber 3 = .ok (.iload_n 1, 1) := by decide +kernel
theorem dX7_constraintNumber_4 : decode cX7_constraintNumber 4 = .ok (.iadd, 1) := by decide +kernel
theorem dX7_constraintNumber_5 : decode cX7_constraintNumber 5 = .ok (.ireturn, 1) := by decide +kernel
theorem dX7_tableOfConstraint_0 : decode cX7_tableOfConstraint 0 = .ok (.iload_n 0, 1) := by decide +kernel
theorem dX7_tableOfConstraint_1 : decode cX7_tableOfConstraint 1 = .ok (.iconst 2, 1) := by decide +kernel
theorem dX7_tableOfConstraint_2 : decode cX7_tableOfConstraint 2 = .ok (.idiv, 1) := by decide +kernel
theorem dX7_tableOfConstraint_3 : decode cX7_tableOfConstraint 3 = .ok (.ireturn, 1) := by decide +kernel
theorem dX7_columnOfConstraint_0 : decode cX7_columnOfConstraint 0 = .ok (.iload_n 0, 1) := by decide +kernel
theorem dX7_columnOfConstraint_1 : decode cX7_columnOfConstraint 1 = .ok (.iconst 2, 1) := by decide +kernel
theorem dX7_columnOfConstraint_2 : decode cX7_columnOfConstraint 2 = .ok (.irem, 1) := by decide +kernel
theorem dX7_columnOfConstraint_3 : decode cX7_columnOfConstraint 3 = .ok (.ireturn, 1) := by decide +kernel
theorem dX7_refusalBecauseOf_0 : decode cX7_refusalBecauseOf 0 = .ok (.bipush (-10), 2) := by decide +kernel
theorem dX7_refusalBecauseOf_2 : decode cX7_refusalBecauseOf 2 = .ok (.iload_n 0, 1) := by decide +kernel
theorem dX7_refusalBecauseOf_3 : decode cX7_refusalBecauseOf 3 = .ok (.isub, 1) := by decide +kernel
theorem dX7_refusalBecauseOf_4 : decode cX7_refusalBecauseOf 4 = .ok (.ireturn, 1) := by decide +kernel
