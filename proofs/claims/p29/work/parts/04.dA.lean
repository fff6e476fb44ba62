abbrev vwCl : List vw_C := [(RX0, TX0, 4), (RX1, TX1, 3), (RX2, TX2, 3), (RX3, TX3, 3), (RX4, TX4, 3), (RX5, TX5, 2), (RX6, TX6, 6), (RX7, TX7, 6)]
theorem dX0_init_0 : decode cX0_init 0 = .ok (.aload_n 0, 1) := by decide +kernel
theorem dX0_init_1 : decode cX0_init 1 = .ok (.invokespecial 3, 3) := by decide +kernel
theorem dX0_init_4 : decode cX0_init 4 = .ok (.aload_n 0, 1) := by decide +kernel
theorem dX0_init_5 : decode cX0_init 5 = .ok (.bipush 8, 2) := by decide +kernel
theorem dX0_init_7 : decode cX0_init 7 = .ok (.newarray .int, 2) := by decide +kernel
theorem dX0_init_9 : decode cX0_init 9 = .ok (.putfield 9, 3) := by decide +kernel
theorem dX0_init_12 : decode cX0_init 12 = .ok (.aload_n 0, 1) := by decide +kernel
theorem dX0_init_13 : decode cX0_init 13 = .ok (.bipush 8, 2) := by decide +kernel
theorem dX0_init_15 : decode cX0_init 15 = .ok (.newarray .int, 2) := by decide +kernel
theorem dX0_init_17 : decode cX0_init 17 = .ok (.putfield 15, 3) := by decide +kernel
theorem dX0_init_20 : decode cX0_init 20 = .ok (.aload_n 0, 1) := by decide +kernel
theorem dX0_init_21 : decode cX0_init 21 = .ok (.bipush 8, 2) := by decide +kernel
theorem dX0_init_23 : decode cX0_init 23 = .ok (.newarray .boolean, 2) := by decide +kernel
theorem dX0_init_25 : decode cX0_init 25 = .ok (.putfield 18, 3) := by decide +kernel
theorem dX0_init_28 : decode cX0_init 28 = .ok (.aload_n 0, 1) := by decide +kernel
theorem dX0_init_29 : decode cX0_init 29 = .ok (.aload_n 1, 1) := by decide +kernel
theorem dX0_init_30 : decode cX0_init 30 = .ok (.putfield 22, 3) := by decide +kernel
theorem dX0_init_33 : decode cX0_init 33 = .ok (.iconst 0, 1) := by decide +kernel
theorem dX0_init_34 : decode cX0_init 34 = .ok (.istore_n 2, 1) := by decide +kernel
theorem dX0_init_35 : decode cX0_init 35 = .ok (.iload_n 2, 1) := by decide +kernel
theorem dX0_init_36 : decode cX0_init 36 = .ok (.bipush 8, 2) := by decide +kernel
theorem dX0_init_38 : decode cX0_init 38 = .ok (.if_icmp .ge 17, 3) := by decide +kernel
theorem dX0_init_41 : decode cX0_init 41 = .ok (.aload_n 0, 1) := by decide +kernel
theorem dX0_init_42 : decode cX0_init 42 = .ok (.getfield 9, 3) := by decide +kernel
theorem dX0_init_45 : decode cX0_init 45 = .ok (.iload_n 2, 1) := by decide +kernel
theorem dX0_init_46 : decode cX0_init 46 = .ok (.bipush (-2), 2) := by decide +kernel
theorem dX0_init_48 : decode cX0_init 48 = .ok (.iastore, 1) := by decide +kernel
theorem dX0_init_49 : decode cX0_init 49 = .ok (.iinc 2 1, 3) := by decide +kernel
theorem dX0_init_52 : decode cX0_init 52 = .ok (.goto (-17), 3) := by decide +kernel
theorem dX0_init_55 : decode cX0_init 55 = .ok (.return_, 1) := by decide +kernel
set_option maxRecDepth 20000 in
theorem ggX0_isDefined_X0_parentOf : GoodIn wsX0_isDefined wsX0_parentOf := goodIn_r _ [5, 6, 7, 8, 9, 10] (by decide +kernel) (by decide +kernel)
set_option maxRecDepth 20000 in
theorem gX0_isDefined_X0_parentOf : GoodIn wsX0_isDefined (wsV RX0 26 RX0 yX0_parentOf wsX0_parentOf) := goodIn_app (goodIn_of _ (by decide +kernel)) ggX0_isDefined_X0_parentOf
theorem dX0_isDefined_0 : decode cX0_isDefined 0 = .ok (.aload_n 0, 1) := by decide +kernel
theorem dX0_isDefined_1 : decode cX0_isDefined 1 = .ok (.iload_n 1, 1) := by decide +kernel
theorem dX0_isDefined_2 : decode cX0_isDefined 2 = .ok (.invokevirtual 26, 3) := by decide +kernel
theorem dX0_isDefined_5 : decode cX0_isDefined 5 = .ok (.bipush (-2), 2) := by decide +kernel
theorem dX0_isDefined_7 : decode cX0_isDefined 7 = .ok (.if_icmp .eq 7, 3) := by decide +kernel
theorem dX0_isDefined_10 : decode cX0_isDefined 10 = .ok (.iconst 1, 1) := by decide +kernel
theorem dX0_isDefined_11 : decode cX0_isDefined 11 = .ok (.goto 4, 3) := by decide +kernel
theorem dX0_isDefined_14 : decode cX0_isDefined 14 = .ok (.iconst 0, 1) := by decide +kernel
theorem dX0_isDefined_15 : decode cX0_isDefined 15 = .ok (.ireturn, 1) := by decide +kernel
theorem dX0_parentOf_0 : decode cX0_parentOf 0 = .ok (.iload_n 1, 1) := by decide +kernel
theorem dX0_parentOf_1 : decode cX0_parentOf 1 = .ok (.ifCond .lt 18, 3) := by decide +kernel
theorem dX0_parentOf_4 : decode cX0_parentOf 4 = .ok (.iload_n 1, 1) := by decide +kernel
theorem dX0_parentOf_5 : decode cX0_parentOf 5 = .ok (.bipush 8, 2) := by decide +kernel
theorem dX0_parentOf_7 : decode cX0_parentOf 7 = .ok (.if_icmp .ge 12, 3) := by decide +kernel
theorem dX0_parentOf_10 : decode cX0_parentOf 10 = .ok (.aload_n 0, 1) := by decide +kernel
theorem dX0_parentOf_11 : decode cX0_parentOf 11 = .ok (.getfield 9, 3) := by decide +kernel
theorem dX0_parentOf_14 : decode cX0_parentOf 14 = .ok (.iload_n 1, 1) := by decide +kernel
theorem dX0_parentOf_15 : decode cX0_parentOf 15 = .ok (.iaload, 1) := by decide +kernel
theorem dX0_parentOf_16 : decode cX0_parentOf 16 = .ok (.goto 5, 3) := by decide +kernel
theorem dX0_parentOf_19 : decode cX0_parentOf 19 = .ok (.bipush (-2), 2) := by decide +kernel
theorem dX0_parentOf_21 : decode cX0_parentOf 21 = .ok (.ireturn, 1) := by decide +kernel
theorem dX0_actionOf_0 : decode cX0_actionOf 0 = .ok (.iload_n 1, 1) := by decide +kernel
theorem dX0_actionOf_1 : decode cX0_actionOf 1 = .ok (.ifCond .lt 18, 3) := by decide +kernel
theorem dX0_actionOf_4 : decode cX0_actionOf 4 = .ok (.iload_n 1, 1) := by decide +kernel
theorem dX0_actionOf_5 : decode cX0_actionOf 5 = .ok (.bipush 8, 2) := by decide +kernel
theorem dX0_actionOf_7 : decode cX0_actionOf 7 = .ok (.if_icmp .ge 12, 3) := by decide +kernel
theorem dX0_actionOf_10 : decode cX0_actionOf 10 = .ok (.aload_n 0, 1) := by decide +kernel
theorem dX0_actionOf_11 : decode cX0_actionOf 11 = .ok (.getfield 15, 3) := by decide +kernel
theorem dX0_actionOf_14 : decode cX0_actionOf 14 = .ok (.iload_n 1, 1) := by decide +kernel
theorem dX0_actionOf_15 : decode cX0_actionOf 15 = .ok (.iaload, 1) := by decide +kernel
theorem dX0_actionOf_16 : decode cX0_actionOf 16 = .ok (.goto 4, 3) := by decide +kernel
theorem dX0_actionOf_19 : decode cX0_actionOf 19 = .ok (.iconst 1, 1) := by decide +kernel
theorem dX0_actionOf_20 : decode cX0_actionOf 20 = .ok (.ireturn, 1) := by decide +kernel
theorem dX0_isDeferred_0 : decode cX0_isDeferred 0 = .ok (.iload_n 1, 1) := by decide +kernel
theorem dX0_isDeferred_1 : decode cX0_isDeferred 1 = .ok (.ifCond .lt 22, 3) := by decide +kernel
theorem dX0_isDeferred_4 : decode cX0_isDeferred 4 = .ok (.iload_n 1, 1) := by decide +kernel
theorem dX0_isDeferred_5 : decode cX0_isDeferred 5 = .ok (.bipush 8, 2) := by decide +kernel
theorem dX0_isDeferred_7 : decode cX0_isDeferred 7 = .ok (.if_icmp .ge 16, 3) := by decide +kernel
theorem dX0_isDeferred_10 : decode cX0_isDeferred 10 = .ok (.aload_n 0, 1) := by decide +kernel
theorem dX0_isDeferred_11 : decode cX0_isDeferred 11 = .ok (.getfield 18, 3) := by decide +kernel
theorem dX0_isDeferred_14 : decode cX0_isDeferred 14 = .ok (.iload_n 1, 1) := by decide +kernel
theorem dX0_isDeferred_15 : decode cX0_isDeferred 15 = .ok (.baload, 1) := by decide +kernel
theorem dX0_isDeferred_16 : decode cX0_isDeferred 16 = .ok (.ifCond .eq 7, 3) := by decide +kernel
theorem dX0_isDeferred_19 : decode cX0_isDeferred 19 = .ok (.iconst 1, 1) := by decide +kernel
theorem dX0_isDeferred_20 : decode cX0_isDeferred 20 = .ok (.goto 4, 3) := by decide +kernel
theorem dX0_isDeferred_23 : decode cX0_isDeferred 23 = .ok (.iconst 0, 1) := by decide +kernel
theorem dX0_isDeferred_24 : decode cX0_isDeferred 24 = .ok (.ireturn, 1) := by decide +kernel
set_option maxRecDepth 20000 in
theorem ggX0_count_X0_isDefined : GoodIn wsX0_count wsX0_isDefined := goodIn_r _ [5, 6, 7, 8, 4, 9, 10, 11, 12, 13, 14] (by decide +kernel) (by decide +kernel)
set_option maxRecDepth 20000 in
theorem gX0_count_X0_isDefined : GoodIn wsX0_count (wsV RX0 30 RX0 yX0_isDefined wsX0_isDefined) := goodIn_app (goodIn_of _ (by decide +kernel)) ggX0_count_X0_isDefined
theorem dX0_count_0 : decode cX0_count 0 = .ok (.iconst 0, 1) := by decide +kernel
theorem dX0_count_1 : decode cX0_count 1 = .ok (.istore_n 1, 1) := by decide +kernel
theorem dX0_count_2 : decode cX0_count 2 = .ok (.iconst 0, 1) := by decide +kernel
theorem dX0_count_3 : decode cX0_count 3 = .ok (.istore_n 2, 1) := by decide +kernel
theorem dX0_count_4 : decode cX0_count 4 = .ok (.iload_n 2, 1) := by decide +kernel
theorem dX0_count_5 : decode cX0_count 5 = .ok (.bipush 8, 2) := by decide +kernel
theorem dX0_count_7 : decode cX0_count 7 = .ok (.if_icmp .ge 20, 3) := by decide +kernel
theorem dX0_count_10 : decode cX0_count 10 = .ok (.aload_n 0, 1) := by decide +kernel
theorem dX0_count_11 : decode cX0_count 11 = .ok (.iload_n 2, 1) := by decide +kernel
theorem dX0_count_12 : decode cX0_count 12 = .ok (.invokevirtual 30, 3) := by decide +kernel
theorem dX0_count_15 : decode cX0_count 15 = .ok (.ifCond .eq 6, 3) := by decide +kernel
theorem dX0_count_18 : decode cX0_count 18 = .ok (.iinc 1 1, 3) := by decide +kernel
theorem dX0_count_21 : decode cX0_count 21 = .ok (.iinc 2 1, 3) := by decide +kernel
theorem dX0_count_24 : decode cX0_count 24 = .ok (.goto (-20), 3) := by decide +kernel
theorem dX0_count_27 : decode cX0_count 27 = .ok (.iload_n 1, 1) := by decide +kernel
theorem dX0_count_28 : decode cX0_count 28 = .ok (.ireturn, 1) := by decide +kernel
theorem dX0_put_0 : decode cX0_put 0 = .ok (.iload_n 1, 1) := by decide +kernel
theorem dX0_put_1 : decode cX0_put 1 = .ok (.ifCond .lt 31, 3) := by decide +kernel
theorem dX0_put_4 : decode cX0_put 4 = .ok (.iload_n 1, 1) := by decide +kernel
theorem dX0_put_5 : decode cX0_put 5 = .ok (.bipush 8, 2) := by decide +kernel
theorem dX0_put_7 : decode cX0_put 7 = .ok (.if_icmp .ge 25, 3) := by decide +kernel
theorem dX0_put_10 : decode cX0_put 10 = .ok (.aload_n 0, 1) := by decide +kernel
theorem dX0_put_11 : decode cX0_put 11 = .ok (.getfield 9, 3) := by decide +kernel
theorem dX0_put_14 : decode cX0_put 14 = .ok (.iload_n 1, 1) := by decide +kernel
theorem dX0_put_15 : decode cX0_put 15 = .ok (.iload_n 2, 1) := by decide +kernel
theorem dX0_put_16 : decode cX0_put 16 = .ok (.iastore, 1) := by decide +kernel
theorem dX0_put_17 : decode cX0_put 17 = .ok (.aload_n 0, 1) := by decide +kernel
theorem dX0_put_18 : decode cX0_put 18 = .ok (.getfield 15, 3) := by decide +kernel
theorem dX0_put_21 : decode cX0_put 21 = .ok (.iload_n 1, 1) := by decide +kernel
theorem dX0_put_22 : decode cX0_put 22 = .ok (.iload_n 3, 1) := by decide +kernel
theorem dX0_put_23 : decode cX0_put 23 = .ok (.iastore, 1) := by decide +kernel
theorem dX0_put_24 : decode cX0_put 24 = .ok (.aload_n 0, 1) := by decide +kernel
theorem dX0_put_25 : decode cX0_put 25 = .ok (.getfield 18, 3) := by decide +kernel
theorem dX0_put_28 : decode cX0_put 28 = .ok (.iload_n 1, 1) := by decide +kernel
theorem dX0_put_29 : decode cX0_put 29 = .ok (.iload 4, 2) := by decide +kernel
theorem dX0_put_31 : decode cX0_put 31 = .ok (.bastore, 1) := by decide +kernel
theorem dX0_put_32 : decode cX0_put 32 = .ok (.return_, 1) := by decide +kernel
theorem dX0_putMode_0 : decode cX0_putMode 0 = .ok (.iload_n 1, 1) := by decide +kernel
theorem dX0_putMode_1 : decode cX0_putMode 1 = .ok (.ifCond .lt 16, 3) := by decide +kernel
theorem dX0_putMode_4 : decode cX0_putMode 4 = .ok (.iload_n 1, 1) := by decide +kernel
theorem dX0_putMode_5 : decode cX0_putMode 5 = .ok (.bipush 8, 2) := by decide +kernel
theorem dX0_putMode_7 : decode cX0_putMode 7 = .ok (.if_icmp .ge 10, 3) := by decide +kernel
theorem dX0_putMode_10 : decode cX0_putMode 10 = .ok (.aload_n 0, 1) := by decide +kernel
theorem dX0_putMode_11 : decode cX0_putMode 11 = .ok (.getfield 18, 3) := by decide +kernel
theorem dX0_putMode_14 : decode cX0_putMode 14 = .ok (.iload_n 1, 1) := by decide +kernel
theorem dX0_putMode_15 : decode cX0_putMode 15 = .ok (.iload_n 2, 1) := by decide +kernel
theorem dX0_putMode_16 : decode cX0_putMode 16 = .ok (.bastore, 1) := by decide +kernel
theorem dX0_putMode_17 : decode cX0_putMode 17 = .ok (.return_, 1) := by decide +kernel
set_option maxRecDepth 20000 in
theorem ggX0_remove_X0_put : GoodIn wsX0_remove wsX0_put := goodIn_r _ [5, 6, 7, 8, 9, 10, 11, 12] (by decide +kernel) (by decide +kernel)
set_option maxRecDepth 20000 in
theorem gX0_remove_X0_put : GoodIn wsX0_remove (wsV RX0 34 RX0 yX0_put wsX0_put) := goodIn_app (goodIn_of _ (by decide +kernel)) ggX0_remove_X0_put
theorem dX0_remove_0 : decode cX0_remove 0 = .ok (.aload_n 0, 1) := by decide +kernel
theorem dX0_remove_1 : decode cX0_remove 1 = .ok (.iload_n 1, 1) := by decide +kernel
theorem dX0_remove_2 : decode cX0_remove 2 = .ok (.bipush (-2), 2) := by decide +kernel
theorem dX0_remove_4 : decode cX0_remove 4 = .ok (.iconst 1, 1) := by decide +kernel
theorem dX0_remove_5 : decode cX0_remove 5 = .ok (.iconst 0, 1) := by decide +kernel
theorem dX0_remove_6 : decode cX0_remove 6 = .ok (.invokevirtual 34, 3) := by decide +kernel
theorem dX0_remove_9 : decode cX0_remove 9 = .ok (.return_, 1) := by decide +kernel
set_option maxRecDepth 20000 in
theorem ggX0_targetOf_X0_parentOf : GoodIn wsX0_targetOf wsX0_parentOf := goodIn_r _ [6, 7, 19, 20, 21, 22] (by decide +kernel) (by decide +kernel)
set_option maxRecDepth 20000 in
theorem gX0_targetOf_X0_parentOf : GoodIn wsX0_targetOf (wsV RX0 26 RX0 yX0_parentOf wsX0_parentOf) := goodIn_app (goodIn_of _ (by decide +kernel)) ggX0_targetOf_X0_parentOf
set_option maxRecDepth 20000 in
theorem ggX0_targetOf_X7_columnOfConstraint : GoodIn wsX0_targetOf wsX7_columnOfConstraint := goodIn_r _ [10] (by decide +kernel) (by decide +kernel)
set_option maxRecDepth 20000 in
theorem gX0_targetOf_X7_columnOfConstraint_n38 : GoodIn wsX0_targetOf (wsX7_columnOfConstraint) := ggX0_targetOf_X7_columnOfConstraint
set_option maxRecDepth 20000 in
theorem ggX0_targetOf_X4_valueOf : GoodIn wsX0_targetOf wsX4_valueOf := goodIn_r _ [15, 16, 23, 24, 25] (by decide +kernel) (by decide +kernel)
set_option maxRecDepth 20000 in
theorem gX0_targetOf_X4_valueOf : GoodIn wsX0_targetOf (wsV RX0 41 RX4 yX4_valueOf wsX4_valueOf) := goodIn_app (goodIn_of _ (by decide +kernel)) ggX0_targetOf_X4_valueOf
set_option maxRecDepth 20000 in
theorem ggX0_targetOf_X7_rowNumber : GoodIn wsX0_targetOf wsX7_rowNumber := goodIn_r _ [18] (by decide +kernel) (by decide +kernel)
set_option maxRecDepth 20000 in
theorem gX0_targetOf_X7_rowNumber_n47 : GoodIn wsX0_targetOf (wsX7_rowNumber) := ggX0_targetOf_X7_rowNumber
theorem dX0_targetOf_0 : decode cX0_targetOf 0 = .ok (.aload_n 0, 1) := by decide +kernel
theorem dX0_targetOf_1 : decode cX0_targetOf 1 = .ok (.iload_n 1, 1) := by decide +kernel
theorem dX0_targetOf_2 : decode cX0_targetOf 2 = .ok (.invokevirtual 26, 3) := by decide +kernel
theorem dX0_targetOf_5 : decode cX0_targetOf 5 = .ok (.istore_n 3, 1) := by decide +kernel
theorem dX0_targetOf_6 : decode cX0_targetOf 6 = .ok (.aload_n 0, 1) := by decide +kernel
theorem dX0_targetOf_7 : decode cX0_targetOf 7 = .ok (.getfield 22, 3) := by decide +kernel
theorem dX0_targetOf_10 : decode cX0_targetOf 10 = .ok (.iload_n 2, 1) := by decide +kernel
theorem dX0_targetOf_11 : decode cX0_targetOf 11 = .ok (.iload_n 1, 1) := by decide +kernel
theorem dX0_targetOf_12 : decode cX0_targetOf 12 = .ok (.invokestatic 38, 3) := by decide +kernel
theorem dX0_targetOf_15 : decode cX0_targetOf 15 = .ok (.invokevirtual 41, 3) := by decide +kernel
theorem dX0_targetOf_18 : decode cX0_targetOf 18 = .ok (.istore 4, 2) := by decide +kernel
theorem dX0_targetOf_20 : decode cX0_targetOf 20 = .ok (.iload_n 3, 1) := by decide +kernel
theorem dX0_targetOf_21 : decode cX0_targetOf 21 = .ok (.bipush (-2), 2) := by decide +kernel
theorem dX0_targetOf_23 : decode cX0_targetOf 23 = .ok (.if_icmp .eq 8, 3) := by decide +kernel
theorem dX0_targetOf_26 : decode cX0_targetOf 26 = .ok (.iload 4, 2) := by decide +kernel
theorem dX0_targetOf_28 : decode cX0_targetOf 28 = .ok (.ifCond .ge 8, 3) := by decide +kernel
theorem dX0_targetOf_31 : decode cX0_targetOf 31 = .ok (.bipush (-2), 2) := by decide +kernel
theorem dX0_targetOf_33 : decode cX0_targetOf 33 = .ok (.goto 9, 3) := by decide +kernel
theorem dX0_targetOf_36 : decode cX0_targetOf 36 = .ok (.iload_n 3, 1) := by decide +kernel
theorem dX0_targetOf_37 : decode cX0_targetOf 37 = .ok (.iload 4, 2) := by decide +kernel
theorem dX0_targetOf_39 : decode cX0_targetOf 39 = .ok (.invokestatic 47, 3) := by decide +kernel
theorem dX0_targetOf_42 : decode cX0_targetOf 42 = .ok (.ireturn, 1) := by decide +kernel
set_option maxRecDepth 20000 in
theorem ggX0_countViolations_X7_tableOfConstraint : GoodIn wsX0_countViolations wsX7_tableOfConstraint := goodIn_r _ [4] (by decide +kernel) (by decide +kernel)
set_option maxRecDepth 20000 in
theorem gX0_countViolations_X7_tableOfConstraint_n50 : GoodIn wsX0_countViolations (wsX7_tableOfConstraint) := ggX0_countViolations_X7_tableOfConstraint
set_option maxRecDepth 20000 in
theorem ggX0_countViolations_X7_rowNumber : GoodIn wsX0_countViolations wsX7_rowNumber := goodIn_r _ [6] (by decide +kernel) (by decide +kernel)
set_option maxRecDepth 20000 in
theorem gX0_countViolations_X7_rowNumber_n47 : GoodIn wsX0_countViolations (wsX7_rowNumber) := ggX0_countViolations_X7_rowNumber
set_option maxRecDepth 20000 in
theorem ggX0_countViolations_X7_columnOfConstraint : GoodIn wsX0_countViolations wsX7_columnOfConstraint := goodIn_r _ [8] (by decide +kernel) (by decide +kernel)
set_option maxRecDepth 20000 in
theorem gX0_countViolations_X7_columnOfConstraint_n38 : GoodIn wsX0_countViolations (wsX7_columnOfConstraint) := ggX0_countViolations_X7_columnOfConstraint
set_option maxRecDepth 20000 in
theorem ggX0_countViolations_X4_valueOf : GoodIn wsX0_countViolations wsX4_valueOf := goodIn_r _ [13, 14, 23, 24, 25] (by decide +kernel) (by decide +kernel)
set_option maxRecDepth 20000 in
theorem gX0_countViolations_X4_valueOf : GoodIn wsX0_countViolations (wsV RX0 41 RX4 yX4_valueOf wsX4_valueOf) := goodIn_app (goodIn_of _ (by decide +kernel)) ggX0_countViolations_X4_valueOf
set_option maxRecDepth 20000 in
theorem ggX0_countViolations_X4_has : GoodIn wsX0_countViolations wsX4_has := goodIn_r _ [18, 14, 23, 24, 25] (by decide +kernel) (by decide +kernel)
set_option maxRecDepth 20000 in
theorem gX0_countViolations_X4_has : GoodIn wsX0_countViolations (wsV RX0 53 RX4 yX4_has wsX4_has) := goodIn_app (goodIn_of _ (by decide +kernel)) ggX0_countViolations_X4_has
theorem dX0_countViolations_0 : decode cX0_countViolations 0 = .ok (.iload_n 2, 1) := by decide +kernel
theorem dX0_countViolations_1 : decode cX0_countViolations 1 = .ok (.bipush (-2), 2) := by decide +kernel
theorem dX0_countViolations_3 : decode cX0_countViolations 3 = .ok (.if_icmp .ne 5, 3) := by decide +kernel
theorem dX0_countViolations_6 : decode cX0_countViolations 6 = .ok (.iconst 0, 1) := by decide +kernel
theorem dX0_countViolations_7 : decode cX0_countViolations 7 = .ok (.ireturn, 1) := by decide +kernel
theorem dX0_countViolations_8 : decode cX0_countViolations 8 = .ok (.iconst 0, 1) := by decide +kernel
theorem dX0_countViolations_9 : decode cX0_countViolations 9 = .ok (.istore_n 3, 1) := by decide +kernel
theorem dX0_countViolations_10 : decode cX0_countViolations 10 = .ok (.iconst 0, 1) := by decide +kernel
theorem dX0_countViolations_11 : decode cX0_countViolations 11 = .ok (.istore 4, 2) := by decide +kernel
theorem dX0_countViolations_13 : decode cX0_countViolations 13 = .ok (.iload 4, 2) := by decide +kernel
theorem dX0_countViolations_15 : decode cX0_countViolations 15 = .ok (.bipush 20, 2) := by decide +kernel
theorem dX0_countViolations_17 : decode cX0_countViolations 17 = .ok (.if_icmp .ge 59, 3) := by decide +kernel
theorem dX0_countViolations_20 : decode cX0_countViolations 20 = .ok (.iload_n 1, 1) := by decide +kernel
theorem dX0_countViolations_21 : decode cX0_countViolations 21 = .ok (.invokestatic 50, 3) := by decide +kernel
theorem dX0_countViolations_24 : decode cX0_countViolations 24 = .ok (.iload 4, 2) := by decide +kernel
theorem dX0_countViolations_26 : decode cX0_countViolations 26 = .ok (.invokestatic 47, 3) := by decide +kernel
theorem dX0_countViolations_29 : decode cX0_countViolations 29 = .ok (.istore 5, 2) := by decide +kernel
theorem dX0_countViolations_31 : decode cX0_countViolations 31 = .ok (.aload_n 0, 1) := by decide +kernel
theorem dX0_countViolations_32 : decode cX0_countViolations 32 = .ok (.getfield 22, 3) := by decide +kernel
theorem dX0_countViolations_35 : decode cX0_countViolations 35 = .ok (.iload 5, 2) := by decide +kernel
theorem dX0_countViolations_37 : decode cX0_countViolations 37 = .ok (.iload_n 1, 1) := by decide +kernel
theorem dX0_countViolations_38 : decode cX0_countViolations 38 = .ok (.invokestatic 38, 3) := by decide +kernel
theorem dX0_countViolations_41 : decode cX0_countViolations 41 = .ok (.invokevirtual 41, 3) := by decide +kernel
theorem dX0_countViolations_44 : decode cX0_countViolations 44 = .ok (.istore 6, 2) := by decide +kernel
theorem dX0_countViolations_46 : decode cX0_countViolations 46 = .ok (.iload 6, 2) := by decide +kernel
theorem dX0_countViolations_48 : decode cX0_countViolations 48 = .ok (.ifCond .lt 22, 3) := by decide +kernel
theorem dX0_countViolations_51 : decode cX0_countViolations 51 = .ok (.aload_n 0, 1) := by decide +kernel
theorem dX0_countViolations_52 : decode cX0_countViolations 52 = .ok (.getfield 22, 3) := by decide +kernel
theorem dX0_countViolations_55 : decode cX0_countViolations 55 = .ok (.iload_n 2, 1) := by decide +kernel
theorem dX0_countViolations_56 : decode cX0_countViolations 56 = .ok (.iload 6, 2) := by decide +kernel
theorem dX0_countViolations_58 : decode cX0_countViolations 58 = .ok (.invokestatic 47, 3) := by decide +kernel
theorem dX0_countViolations_61 : decode cX0_countViolations 61 = .ok (.invokevirtual 53, 3) := by decide +kernel
theorem dX0_countViolations_64 : decode cX0_countViolations 64 = .ok (.ifCond .ne 6, 3) := by decide +kernel
theorem dX0_countViolations_67 : decode cX0_countViolations 67 = .ok (.iinc 3 1, 3) := by decide +kernel
theorem dX0_countViolations_70 : decode cX0_countViolations 70 = .ok (.iinc 4 1, 3) := by decide +kernel
theorem dX0_countViolations_73 : decode cX0_countViolations 73 = .ok (.goto (-60), 3) := by decide +kernel
theorem dX0_countViolations_76 : decode cX0_countViolations 76 = .ok (.iload_n 3, 1) := by decide +kernel
theorem dX0_countViolations_77 : decode cX0_countViolations 77 = .ok (.ireturn, 1) := by decide +kernel
set_option maxRecDepth 20000 in
theorem ggX0_firstRefusal_X0_isDeferred : GoodIn wsX0_firstRefusal wsX0_isDeferred := goodIn_r _ [5, 6, 36, 37, 38, 39] (by decide +kernel) (by decide +kernel)
set_option maxRecDepth 20000 in
theorem gX0_firstRefusal_X0_isDeferred : GoodIn wsX0_firstRefusal (wsV RX0 56 RX0 yX0_isDeferred wsX0_isDeferred) := goodIn_app (goodIn_of _ (by decide +kernel)) ggX0_firstRefusal_X0_isDeferred
set_option maxRecDepth 20000 in
theorem ggX0_firstRefusal_X0_parentOf : GoodIn wsX0_firstRefusal wsX0_parentOf := goodIn_r _ [10, 11, 36, 37, 38, 39] (by decide +kernel) (by decide +kernel)
set_option maxRecDepth 20000 in
theorem gX0_firstRefusal_X0_parentOf : GoodIn wsX0_firstRefusal (wsV RX0 26 RX0 yX0_parentOf wsX0_parentOf) := goodIn_app (goodIn_of _ (by decide +kernel)) ggX0_firstRefusal_X0_parentOf
set_option maxRecDepth 20000 in
theorem ggX0_firstRefusal_X0_countViolations : GoodIn wsX0_firstRefusal wsX0_countViolations := goodIn_r _ [15, 16, 17, 18, 19, 20, 21, 22, 23, 24, 25, 26, 27, 28, 29, 30, 31, 32, 33, 36, 37, 38, 39, 40, 41, 42] (by decide +kernel) (by decide +kernel)
set_option maxRecDepth 20000 in
theorem gX0_firstRefusal_X0_countViolations : GoodIn wsX0_firstRefusal (wsV RX0 59 RX0 yX0_countViolations wsX0_countViolations) := goodIn_app (goodIn_of _ (by decide +kernel)) ggX0_firstRefusal_X0_countViolations
set_option maxRecDepth 20000 in
theorem ggX0_firstRefusal_X7_refusalBecauseOf : GoodIn wsX0_firstRefusal wsX7_refusalBecauseOf := goodIn_r _ [35] (by decide +kernel) (by decide +kernel)
set_option maxRecDepth 20000 in
theorem gX0_firstRefusal_X7_refusalBecauseOf_n62 : GoodIn wsX0_firstRefusal (wsX7_refusalBecauseOf) := ggX0_firstRefusal_X7_refusalBecauseOf
theorem dX0_firstRefusal_0 : decode cX0_firstRefusal 0 = .ok (.iconst 0, 1) := by decide +kernel
theorem dX0_firstRefusal_1 : decode cX0_firstRefusal 1 = .ok (.istore_n 2, 1) := by decide +kernel
theorem dX0_firstRefusal_2 : decode cX0_firstRefusal 2 = .ok (.iload_n 2, 1) := by decide +kernel
theorem dX0_firstRefusal_3 : decode cX0_firstRefusal 3 = .ok (.bipush 8, 2) := by decide +kernel
theorem dX0_firstRefusal_5 : decode cX0_firstRefusal 5 = .ok (.if_icmp .ge 49, 3) := by decide +kernel
theorem dX0_firstRefusal_8 : decode cX0_firstRefusal 8 = .ok (.iload_n 1, 1) := by decide +kernel
theorem dX0_firstRefusal_9 : decode cX0_firstRefusal 9 = .ok (.ifCond .ne 11, 3) := by decide +kernel
theorem dX0_firstRefusal_12 : decode cX0_firstRefusal 12 = .ok (.aload_n 0, 1) := by decide +kernel
theorem dX0_firstRefusal_13 : decode cX0_firstRefusal 13 = .ok (.iload_n 2, 1) := by decide +kernel
theorem dX0_firstRefusal_14 : decode cX0_firstRefusal 14 = .ok (.invokevirtual 56, 3) := by decide +kernel
theorem dX0_firstRefusal_17 : decode cX0_firstRefusal 17 = .ok (.ifCond .ne 7, 3) := by decide +kernel
theorem dX0_firstRefusal_20 : decode cX0_firstRefusal 20 = .ok (.iconst 1, 1) := by decide +kernel
theorem dX0_firstRefusal_21 : decode cX0_firstRefusal 21 = .ok (.goto 4, 3) := by decide +kernel
theorem dX0_firstRefusal_24 : decode cX0_firstRefusal 24 = .ok (.iconst 0, 1) := by decide +kernel
theorem dX0_firstRefusal_25 : decode cX0_firstRefusal 25 = .ok (.istore_n 3, 1) := by decide +kernel
theorem dX0_firstRefusal_26 : decode cX0_firstRefusal 26 = .ok (.iload_n 3, 1) := by decide +kernel
theorem dX0_firstRefusal_27 : decode cX0_firstRefusal 27 = .ok (.ifCond .eq 21, 3) := by decide +kernel
theorem dX0_firstRefusal_30 : decode cX0_firstRefusal 30 = .ok (.aload_n 0, 1) := by decide +kernel
theorem dX0_firstRefusal_31 : decode cX0_firstRefusal 31 = .ok (.iload_n 2, 1) := by decide +kernel
theorem dX0_firstRefusal_32 : decode cX0_firstRefusal 32 = .ok (.aload_n 0, 1) := by decide +kernel
theorem dX0_firstRefusal_33 : decode cX0_firstRefusal 33 = .ok (.iload_n 2, 1) := by decide +kernel
theorem dX0_firstRefusal_34 : decode cX0_firstRefusal 34 = .ok (.invokevirtual 26, 3) := by decide +kernel
theorem dX0_firstRefusal_37 : decode cX0_firstRefusal 37 = .ok (.invokevirtual 59, 3) := by decide +kernel
theorem dX0_firstRefusal_40 : decode cX0_firstRefusal 40 = .ok (.ifCond .le 8, 3) := by decide +kernel
theorem dX0_firstRefusal_43 : decode cX0_firstRefusal 43 = .ok (.iload_n 2, 1) := by decide +kernel
theorem dX0_firstRefusal_44 : decode cX0_firstRefusal 44 = .ok (.invokestatic 62, 3) := by decide +kernel
theorem dX0_firstRefusal_47 : decode cX0_firstRefusal 47 = .ok (.ireturn, 1) := by decide +kernel
theorem dX0_firstRefusal_48 : decode cX0_firstRefusal 48 = .ok (.iinc 2 1, 3) := by decide +kernel
theorem dX0_firstRefusal_51 : decode cX0_firstRefusal 51 = .ok (.goto (-49), 3) := by decide +kernel
theorem dX0_firstRefusal_54 : decode cX0_firstRefusal 54 = .ok (.iconst 0, 1) := by decide +kernel
theorem dX0_firstRefusal_55 : decode cX0_firstRefusal 55 = .ok (.ireturn, 1) := by decide +kernel
set_option maxRecDepth 20000 in
theorem ggX1_init_X3_init : GoodIn wsX1_init wsX3_init := goodIn_r _ [11, 12, 2, 3, 13, 14, 15, 16, 17, 18, 19, 20] (by decide +kernel) (by decide +kernel)
set_option maxRecDepth 20000 in
theorem gX1_init_X3_init_n11 : GoodIn wsX1_init (wsX3_init) := ggX1_init_X3_init
theorem dX1_init_0 : decode cX1_init 0 = .ok (.aload_n 0, 1) := by decide +kernel
theorem dX1_init_1 : decode cX1_init 1 = .ok (.invokespecial 3, 3) := by decide +kernel
theorem dX1_init_4 : decode cX1_init 4 = .ok (.aload_n 0, 1) := by decide +kernel
theorem dX1_init_5 : decode cX1_init 5 = .ok (.new 9, 3) := by decide +kernel
theorem dX1_init_8 : decode cX1_init 8 = .ok (.dup, 1) := by decide +kernel
theorem dX1_init_9 : decode cX1_init 9 = .ok (.invokespecial 11, 3) := by decide +kernel
theorem dX1_init_12 : decode cX1_init 12 = .ok (.putfield 12, 3) := by decide +kernel
theorem dX1_init_15 : decode cX1_init 15 = .ok (.aload_n 0, 1) := by decide +kernel
theorem dX1_init_16 : decode cX1_init 16 = .ok (.aload_n 1, 1) := by decide +kernel
theorem dX1_init_17 : decode cX1_init 17 = .ok (.putfield 18, 3) := by decide +kernel
theorem dX1_init_20 : decode cX1_init 20 = .ok (.aload_n 0, 1) := by decide +kernel
theorem dX1_init_21 : decode cX1_init 21 = .ok (.aload_n 2, 1) := by decide +kernel
theorem dX1_init_22 : decode cX1_init 22 = .ok (.putfield 22, 3) := by decide +kernel
theorem dX1_init_25 : decode cX1_init 25 = .ok (.return_, 1) := by decide +kernel
set_option maxRecDepth 20000 in
theorem ggX1_run_X3_clear : GoodIn wsX1_run wsX3_clear := goodIn_r _ [7, 8, 9, 78, 79, 80] (by decide +kernel) (by decide +kernel)
set_option maxRecDepth 20000 in
theorem gX1_run_X3_clear : GoodIn wsX1_run (wsV RX1 26 RX3 yX3_clear wsX3_clear) := goodIn_app (goodIn_of _ (by decide +kernel)) ggX1_run_X3_clear
set_option maxRecDepth 20000 in
theorem ggX1_run_X3_add : GoodIn wsX1_run wsX3_add := goodIn_r _ [13, 9, 8, 14, 78, 79, 80] (by decide +kernel) (by decide +kernel)
set_option maxRecDepth 20000 in
theorem gX1_run_X3_add : GoodIn wsX1_run (wsV RX1 29 RX3 yX3_add wsX3_add) := goodIn_app (goodIn_of _ (by decide +kernel)) ggX1_run_X3_add
set_option maxRecDepth 20000 in
theorem ggX1_run_X3_length : GoodIn wsX1_run wsX3_length := goodIn_r _ [18, 8, 78, 79, 80] (by decide +kernel) (by decide +kernel)
set_option maxRecDepth 20000 in
theorem gX1_run_X3_length : GoodIn wsX1_run (wsV RX1 33 RX3 yX3_length wsX3_length) := goodIn_app (goodIn_of _ (by decide +kernel)) ggX1_run_X3_length
set_option maxRecDepth 20000 in
theorem ggX1_run_X3_rowAt : GoodIn wsX1_run wsX3_rowAt := goodIn_r _ [22, 8, 14, 78, 79, 80] (by decide +kernel) (by decide +kernel)
set_option maxRecDepth 20000 in
theorem gX1_run_X3_rowAt : GoodIn wsX1_run (wsV RX1 37 RX3 yX3_rowAt wsX3_rowAt) := goodIn_app (goodIn_of _ (by decide +kernel)) ggX1_run_X3_rowAt
set_option maxRecDepth 20000 in
theorem ggX1_run_X4_erase : GoodIn wsX1_run wsX4_erase := goodIn_r _ [27, 28, 29, 30, 26, 31, 32, 33, 34, 81, 82, 83] (by decide +kernel) (by decide +kernel)
set_option maxRecDepth 20000 in
theorem gX1_run_X4_erase : GoodIn wsX1_run (wsV RX1 41 RX4 yX4_erase wsX4_erase) := goodIn_app (goodIn_of _ (by decide +kernel)) ggX1_run_X4_erase
set_option maxRecDepth 20000 in
theorem ggX1_run_X1_treatReferences : GoodIn wsX1_run wsX1_treatReferences := goodIn_r _ [39, 40, 1, 2, 41, 42, 43, 44, 45, 46, 47, 48, 49, 50, 51, 52, 53, 54, 55, 56, 57, 58, 59, 60, 61, 62, 63, 64, 65, 66, 26, 67, 34, 10, 11, 12, 6, 13, 9, 8, 14, 68, 69, 70, 71, 72, 28, 29, 30, 31, 32, 33, 75, 76, 77, 84, 85, 86, 87, 81, 82, 83, 78, 79, 80] (by decide +kernel) (by decide +kernel)
set_option maxRecDepth 20000 in
theorem gX1_run_X1_treatReferences : GoodIn wsX1_run (wsV RX1 46 RX1 yX1_treatReferences wsX1_treatReferences) := goodIn_app (goodIn_of _ (by decide +kernel)) ggX1_run_X1_treatReferences
set_option maxRecDepth 20000 in
theorem ggX1_run_X7_refusalBecauseOf : GoodIn wsX1_run wsX7_refusalBecauseOf := goodIn_r _ [74] (by decide +kernel) (by decide +kernel)
set_option maxRecDepth 20000 in
theorem gX1_run_X7_refusalBecauseOf_n50 : GoodIn wsX1_run (wsX7_refusalBecauseOf) := ggX1_run_X7_refusalBecauseOf
theorem dX1_run_0 : decode cX1_run 0 = .ok (.aload_n 0, 1) := by decide +kernel
theorem dX1_run_1 : decode cX1_run 1 = .ok (.getfield 12, 3) := by decide +kernel
theorem dX1_run_4 : decode cX1_run 4 = .ok (.invokevirtual 26, 3) := by decide +kernel
theorem dX1_run_7 : decode cX1_run 7 = .ok (.aload_n 0, 1) := by decide +kernel
theorem dX1_run_8 : decode cX1_run 8 = .ok (.getfield 12, 3) := by decide +kernel
theorem dX1_run_11 : decode cX1_run 11 = .ok (.iload_n 1, 1) := by decide +kernel
theorem dX1_run_12 : decode cX1_run 12 = .ok (.invokevirtual 29, 3) := by decide +kernel
theorem dX1_run_15 : decode cX1_run 15 = .ok (.iconst 0, 1) := by decide +kernel
theorem dX1_run_16 : decode cX1_run 16 = .ok (.istore_n 2, 1) := by decide +kernel
theorem dX1_run_17 : decode cX1_run 17 = .ok (.iload_n 2, 1) := by decide +kernel
theorem dX1_run_18 : decode cX1_run 18 = .ok (.aload_n 0, 1) := by decide +kernel
theorem dX1_run_19 : decode cX1_run 19 = .ok (.getfield 12, 3) := by decide +kernel
theorem dX1_run_22 : decode cX1_run 22 = .ok (.invokevirtual 33, 3) := by decide +kernel
theorem dX1_run_25 : decode cX1_run 25 = .ok (.if_icmp .ge 64, 3) := by decide +kernel
theorem dX1_run_28 : decode cX1_run 28 = .ok (.iload_n 2, 1) := by decide +kernel
theorem dX1_run_29 : decode cX1_run 29 = .ok (.bipush 80, 2) := by decide +kernel
theorem dX1_run_31 : decode cX1_run 31 = .ok (.if_icmp .ge 58, 3) := by decide +kernel
theorem dX1_run_34 : decode cX1_run 34 = .ok (.aload_n 0, 1) := by decide +kernel
theorem dX1_run_35 : decode cX1_run 35 = .ok (.getfield 12, 3) := by decide +kernel
theorem dX1_run_38 : decode cX1_run 38 = .ok (.iload_n 2, 1) := by decide +kernel
theorem dX1_run_39 : decode cX1_run 39 = .ok (.invokevirtual 37, 3) := by decide +kernel
theorem dX1_run_42 : decode cX1_run 42 = .ok (.istore_n 3, 1) := by decide +kernel
theorem dX1_run_43 : decode cX1_run 43 = .ok (.aload_n 0, 1) := by decide +kernel
theorem dX1_run_44 : decode cX1_run 44 = .ok (.getfield 18, 3) := by decide +kernel
theorem dX1_run_47 : decode cX1_run 47 = .ok (.iload_n 3, 1) := by decide +kernel
theorem dX1_run_48 : decode cX1_run 48 = .ok (.invokevirtual 41, 3) := by decide +kernel
theorem dX1_run_51 : decode cX1_run 51 = .ok (.iconst 0, 1) := by decide +kernel
theorem dX1_run_52 : decode cX1_run 52 = .ok (.istore 4, 2) := by decide +kernel
theorem dX1_run_54 : decode cX1_run 54 = .ok (.iload 4, 2) := by decide +kernel
theorem dX1_run_56 : decode cX1_run 56 = .ok (.bipush 8, 2) := by decide +kernel
theorem dX1_run_58 : decode cX1_run 58 = .ok (.if_icmp .ge 25, 3) := by decide +kernel
theorem dX1_run_61 : decode cX1_run 61 = .ok (.aload_n 0, 1) := by decide +kernel
theorem dX1_run_62 : decode cX1_run 62 = .ok (.iload 4, 2) := by decide +kernel
theorem dX1_run_64 : decode cX1_run 64 = .ok (.iload_n 3, 1) := by decide +kernel
theorem dX1_run_65 : decode cX1_run 65 = .ok (.invokevirtual 46, 3) := by decide +kernel
theorem dX1_run_68 : decode cX1_run 68 = .ok (.ifCond .ne 9, 3) := by decide +kernel
theorem dX1_run_71 : decode cX1_run 71 = .ok (.iload 4, 2) := by decide +kernel
theorem dX1_run_73 : decode cX1_run 73 = .ok (.invokestatic 50, 3) := by decide +kernel
theorem dX1_run_76 : decode cX1_run 76 = .ok (.ireturn, 1) := by decide +kernel
theorem dX1_run_77 : decode cX1_run 77 = .ok (.iinc 4 1, 3) := by decide +kernel
theorem dX1_run_80 : decode cX1_run 80 = .ok (.goto (-26), 3) := by decide +kernel
theorem dX1_run_83 : decode cX1_run 83 = .ok (.iinc 2 1, 3) := by decide +kernel
theorem dX1_run_86 : decode cX1_run 86 = .ok (.goto (-69), 3) := by decide +kernel
theorem dX1_run_89 : decode cX1_run 89 = .ok (.aload_n 0, 1) := by decide +kernel
theorem dX1_run_90 : decode cX1_run 90 = .ok (.getfield 12, 3) := by decide +kernel
theorem dX1_run_93 : decode cX1_run 93 = .ok (.invokevirtual 33, 3) := by decide +kernel
theorem dX1_run_96 : decode cX1_run 96 = .ok (.ireturn, 1) := by decide +kernel
set_option maxRecDepth 20000 in
theorem ggX1_treatReferences_X0_actionOf : GoodIn wsX1_treatReferences wsX0_actionOf := goodIn_r _ [8, 9, 55, 56, 57, 58] (by decide +kernel) (by decide +kernel)
set_option maxRecDepth 20000 in
theorem gX1_treatReferences_X0_actionOf : GoodIn wsX1_treatReferences (wsV RX1 53 RX0 yX0_actionOf wsX0_actionOf) := goodIn_app (goodIn_of _ (by decide +kernel)) ggX1_treatReferences_X0_actionOf
set_option maxRecDepth 20000 in
theorem ggX1_treatReferences_X7_tableOfConstraint : GoodIn wsX1_treatReferences wsX7_tableOfConstraint := goodIn_r _ [12] (by decide +kernel) (by decide +kernel)
set_option maxRecDepth 20000 in
theorem gX1_treatReferences_X7_tableOfConstraint_n58 : GoodIn wsX1_treatReferences (wsX7_tableOfConstraint) := ggX1_treatReferences_X7_tableOfConstraint
set_option maxRecDepth 20000 in
theorem ggX1_treatReferences_X7_rowNumber : GoodIn wsX1_treatReferences wsX7_rowNumber := goodIn_r _ [14] (by decide +kernel) (by decide +kernel)
set_option maxRecDepth 20000 in
theorem gX1_treatReferences_X7_rowNumber_n61 : GoodIn wsX1_treatReferences (wsX7_rowNumber) := ggX1_treatReferences_X7_rowNumber
set_option maxRecDepth 20000 in
theorem ggX1_treatReferences_X0_targetOf : GoodIn wsX1_treatReferences wsX0_targetOf := goodIn_r _ [18, 19, 20, 21, 22, 7, 23, 24, 25, 11, 26, 27, 28, 29, 30, 31, 32, 13, 14, 55, 56, 57, 58, 59, 60, 61] (by decide +kernel) (by decide +kernel)
set_option maxRecDepth 20000 in
theorem gX1_treatReferences_X0_targetOf : GoodIn wsX1_treatReferences (wsV RX1 65 RX0 yX0_targetOf wsX0_targetOf) := goodIn_app (goodIn_of _ (by decide +kernel)) ggX1_treatReferences_X0_targetOf
set_option maxRecDepth 20000 in
theorem ggX1_treatReferences_X3_add : GoodIn wsX1_treatReferences wsX3_add := goodIn_r _ [37, 38, 39, 40, 62, 63, 64] (by decide +kernel) (by decide +kernel)
set_option maxRecDepth 20000 in
theorem gX1_treatReferences_X3_add : GoodIn wsX1_treatReferences (wsV RX1 29 RX3 yX3_add wsX3_add) := goodIn_app (goodIn_of _ (by decide +kernel)) ggX1_treatReferences_X3_add
set_option maxRecDepth 20000 in
theorem ggX1_treatReferences_X7_columnOfConstraint : GoodIn wsX1_treatReferences wsX7_columnOfConstraint := goodIn_r _ [26] (by decide +kernel) (by decide +kernel)
set_option maxRecDepth 20000 in
theorem gX1_treatReferences_X7_columnOfConstraint_n68 : GoodIn wsX1_treatReferences (wsX7_columnOfConstraint) := ggX1_treatReferences_X7_columnOfConstraint
set_option maxRecDepth 20000 in
theorem ggX1_treatReferences_X4_writeColumn : GoodIn wsX1_treatReferences wsX4_writeColumn := goodIn_r _ [44, 45, 28, 29, 30, 31, 32, 46, 47, 48, 49, 50, 51, 59, 60, 61] (by decide +kernel) (by decide +kernel)
set_option maxRecDepth 20000 in
theorem gX1_treatReferences_X4_writeColumn : GoodIn wsX1_treatReferences (wsV RX1 71 RX4 yX4_writeColumn wsX4_writeColumn) := goodIn_app (goodIn_of _ (by decide +kernel)) ggX1_treatReferences_X4_writeColumn
theorem dX1_treatReferences_0 : decode cX1_treatReferences 0 = .ok (.aload_n 0, 1) := by decide +kernel
theorem dX1_treatReferences_1 : decode cX1_treatReferences 1 = .ok (.getfield 22, 3) := by decide +kernel
theorem dX1_treatReferences_4 : decode cX1_treatReferences 4 = .ok (.iload_n 1, 1) := by decide +kernel
theorem dX1_treatReferences_5 : decode cX1_treatReferences 5 = .ok (.invokevirtual 53, 3) := by decide +kernel
theorem dX1_treatReferences_8 : decode cX1_treatReferences 8 = .ok (.istore_n 3, 1) := by decide +kernel
theorem dX1_treatReferences_9 : decode cX1_treatReferences 9 = .ok (.iconst 0, 1) := by decide +kernel
theorem dX1_treatReferences_10 : decode cX1_treatReferences 10 = .ok (.istore 4, 2) := by decide +kernel
theorem dX1_treatReferences_12 : decode cX1_treatReferences 12 = .ok (.iload 4, 2) := by decide +kernel
theorem dX1_treatReferences_14 : decode cX1_treatReferences 14 = .ok (.bipush 20, 2) := by decide +kernel
theorem dX1_treatReferences_16 : decode cX1_treatReferences 16 = .ok (.if_icmp .ge 73, 3) := by decide +kernel
theorem dX1_treatReferences_19 : decode cX1_treatReferences 19 = .ok (.iload_n 1, 1) := by decide +kernel
theorem dX1_treatReferences_20 : decode cX1_treatReferences 20 = .ok (.invokestatic 58, 3) := by decide +kernel
theorem dX1_treatReferences_23 : decode cX1_treatReferences 23 = .ok (.iload 4, 2) := by decide +kernel
theorem dX1_treatReferences_25 : decode cX1_treatReferences 25 = .ok (.invokestatic 61, 3) := by decide +kernel
theorem dX1_treatReferences_28 : decode cX1_treatReferences 28 = .ok (.istore 5, 2) := by decide +kernel
theorem dX1_treatReferences_30 : decode cX1_treatReferences 30 = .ok (.aload_n 0, 1) := by decide +kernel
theorem dX1_treatReferences_31 : decode cX1_treatReferences 31 = .ok (.getfield 22, 3) := by decide +kernel
theorem dX1_treatReferences_34 : decode cX1_treatReferences 34 = .ok (.iload_n 1, 1) := by decide +kernel
theorem dX1_treatReferences_35 : decode cX1_treatReferences 35 = .ok (.iload 5, 2) := by decide +kernel
theorem dX1_treatReferences_37 : decode cX1_treatReferences 37 = .ok (.invokevirtual 65, 3) := by decide +kernel
theorem dX1_treatReferences_40 : decode cX1_treatReferences 40 = .ok (.iload_n 2, 1) := by decide +kernel
theorem dX1_treatReferences_41 : decode cX1_treatReferences 41 = .ok (.if_icmp .ne 42, 3) := by decide +kernel
theorem dX1_treatReferences_44 : decode cX1_treatReferences 44 = .ok (.iload_n 3, 1) := by decide +kernel
theorem dX1_treatReferences_45 : decode cX1_treatReferences 45 = .ok (.ifCond .ne 5, 3) := by decide +kernel
theorem dX1_treatReferences_48 : decode cX1_treatReferences 48 = .ok (.iconst 0, 1) := by decide +kernel
theorem dX1_treatReferences_49 : decode cX1_treatReferences 49 = .ok (.ireturn, 1) := by decide +kernel
theorem dX1_treatReferences_50 : decode cX1_treatReferences 50 = .ok (.iload_n 3, 1) := by decide +kernel
theorem dX1_treatReferences_51 : decode cX1_treatReferences 51 = .ok (.iconst 2, 1) := by decide +kernel
theorem dX1_treatReferences_52 : decode cX1_treatReferences 52 = .ok (.if_icmp .ne 12, 3) := by decide +kernel
theorem dX1_treatReferences_55 : decode cX1_treatReferences 55 = .ok (.aload_n 0, 1) := by decide +kernel
theorem dX1_treatReferences_56 : decode cX1_treatReferences 56 = .ok (.getfield 12, 3) := by decide +kernel
theorem dX1_treatReferences_59 : decode cX1_treatReferences 59 = .ok (.iload 5, 2) := by decide +kernel
theorem dX1_treatReferences_61 : decode cX1_treatReferences 61 = .ok (.invokevirtual 29, 3) := by decide +kernel
theorem dX1_treatReferences_64 : decode cX1_treatReferences 64 = .ok (.iload_n 3, 1) := by decide +kernel
theorem dX1_treatReferences_65 : decode cX1_treatReferences 65 = .ok (.iconst 3, 1) := by decide +kernel
theorem dX1_treatReferences_66 : decode cX1_treatReferences 66 = .ok (.if_icmp .ne 17, 3) := by decide +kernel
theorem dX1_treatReferences_69 : decode cX1_treatReferences 69 = .ok (.aload_n 0, 1) := by decide +kernel
theorem dX1_treatReferences_70 : decode cX1_treatReferences 70 = .ok (.getfield 18, 3) := by decide +kernel
theorem dX1_treatReferences_73 : decode cX1_treatReferences 73 = .ok (.iload 5, 2) := by decide +kernel
theorem dX1_treatReferences_75 : decode cX1_treatReferences 75 = .ok (.iload_n 1, 1) := by decide +kernel
theorem dX1_treatReferences_76 : decode cX1_treatReferences 76 = .ok (.invokestatic 68, 3) := by decide +kernel
theorem dX1_treatReferences_79 : decode cX1_treatReferences 79 = .ok (.iconst (-1), 1) := by decide +kernel
theorem dX1_treatReferences_80 : decode cX1_treatReferences 80 = .ok (.invokevirtual 71, 3) := by decide +kernel
theorem dX1_treatReferences_83 : decode cX1_treatReferences 83 = .ok (.iinc 4 1, 3) := by decide +kernel
theorem dX1_treatReferences_86 : decode cX1_treatReferences 86 = .ok (.goto (-74), 3) := by decide +kernel
theorem dX1_treatReferences_89 : decode cX1_treatReferences 89 = .ok (.iconst 1, 1) := by decide +kernel
theorem dX1_treatReferences_90 : decode cX1_treatReferences 90 = .ok (.ireturn, 1) := by decide +kernel
set_option maxRecDepth 20000 in
theorem ggX2_init_X3_init : GoodIn wsX2_init wsX3_init := goodIn_r _ [11, 12, 2, 3, 13, 14, 15, 16, 17, 18, 19, 20] (by decide +kernel) (by decide +kernel)
set_option maxRecDepth 20000 in
theorem gX2_init_X3_init_n11 : GoodIn wsX2_init (wsX3_init) := ggX2_init_X3_init
theorem dX2_init_0 : decode cX2_init 0 = .ok (.aload_n 0, 1) := by decide +kernel
theorem dX2_init_1 : decode cX2_init 1 = .ok (.invokespecial 3, 3) := by decide +kernel
theorem dX2_init_4 : decode cX2_init 4 = .ok (.aload_n 0, 1) := by decide +kernel
theorem dX2_init_5 : decode cX2_init 5 = .ok (.new 9, 3) := by decide +kernel
theorem dX2_init_8 : decode cX2_init 8 = .ok (.dup, 1) := by decide +kernel
theorem dX2_init_9 : decode cX2_init 9 = .ok (.invokespecial 11, 3) := by decide +kernel
theorem dX2_init_12 : decode cX2_init 12 = .ok (.putfield 12, 3) := by decide +kernel
theorem dX2_init_15 : decode cX2_init 15 = .ok (.aload_n 0, 1) := by decide +kernel
theorem dX2_init_16 : decode cX2_init 16 = .ok (.aload_n 1, 1) := by decide +kernel
theorem dX2_init_17 : decode cX2_init 17 = .ok (.putfield 18, 3) := by decide +kernel
theorem dX2_init_20 : decode cX2_init 20 = .ok (.aload_n 0, 1) := by decide +kernel
theorem dX2_init_21 : decode cX2_init 21 = .ok (.aload_n 2, 1) := by decide +kernel
theorem dX2_init_22 : decode cX2_init 22 = .ok (.putfield 22, 3) := by decide +kernel
theorem dX2_init_25 : decode cX2_init 25 = .ok (.return_, 1) := by decide +kernel
set_option maxRecDepth 20000 in
theorem ggX2_countTo_X7_tableOfConstraint : GoodIn wsX2_countTo wsX7_tableOfConstraint := goodIn_r _ [4] (by decide +kernel) (by decide +kernel)
set_option maxRecDepth 20000 in
theorem gX2_countTo_X7_tableOfConstraint_n26 : GoodIn wsX2_countTo (wsX7_tableOfConstraint) := ggX2_countTo_X7_tableOfConstraint
set_option maxRecDepth 20000 in
theorem ggX2_countTo_X7_rowNumber : GoodIn wsX2_countTo wsX7_rowNumber := goodIn_r _ [6] (by decide +kernel) (by decide +kernel)
set_option maxRecDepth 20000 in
theorem gX2_countTo_X7_rowNumber_n30 : GoodIn wsX2_countTo (wsX7_rowNumber) := ggX2_countTo_X7_rowNumber
set_option maxRecDepth 20000 in
theorem ggX2_countTo_X0_targetOf : GoodIn wsX2_countTo wsX0_targetOf := goodIn_r _ [11, 12, 13, 14, 15, 10, 16, 17, 18, 3, 19, 20, 21, 22, 23, 24, 25, 5, 6, 29, 30, 31, 32, 33, 34, 35] (by decide +kernel) (by decide +kernel)
set_option maxRecDepth 20000 in
theorem gX2_countTo_X0_targetOf : GoodIn wsX2_countTo (wsV RX2 34 RX0 yX0_targetOf wsX0_targetOf) := goodIn_app (goodIn_of _ (by decide +kernel)) ggX2_countTo_X0_targetOf
theorem dX2_countTo_0 : decode cX2_countTo 0 = .ok (.iconst 0, 1) := by decide +kernel
theorem dX2_countTo_1 : decode cX2_countTo 1 = .ok (.istore_n 2, 1) := by decide +kernel
theorem dX2_countTo_2 : decode cX2_countTo 2 = .ok (.iconst 0, 1) := by decide +kernel
theorem dX2_countTo_3 : decode cX2_countTo 3 = .ok (.istore_n 3, 1) := by decide +kernel
theorem dX2_countTo_4 : decode cX2_countTo 4 = .ok (.iload_n 3, 1) := by decide +kernel
theorem dX2_countTo_5 : decode cX2_countTo 5 = .ok (.bipush 8, 2) := by decide +kernel
theorem dX2_countTo_7 : decode cX2_countTo 7 = .ok (.if_icmp .ge 53, 3) := by decide +kernel
theorem dX2_countTo_10 : decode cX2_countTo 10 = .ok (.iconst 0, 1) := by decide +kernel
theorem dX2_countTo_11 : decode cX2_countTo 11 = .ok (.istore 4, 2) := by decide +kernel
theorem dX2_countTo_13 : decode cX2_countTo 13 = .ok (.iload 4, 2) := by decide +kernel
theorem dX2_countTo_15 : decode cX2_countTo 15 = .ok (.bipush 20, 2) := by decide +kernel
theorem dX2_countTo_17 : decode cX2_countTo 17 = .ok (.if_icmp .ge 37, 3) := by decide +kernel
theorem dX2_countTo_20 : decode cX2_countTo 20 = .ok (.iload_n 3, 1) := by decide +kernel
theorem dX2_countTo_21 : decode cX2_countTo 21 = .ok (.invokestatic 26, 3) := by decide +kernel
theorem dX2_countTo_24 : decode cX2_countTo 24 = .ok (.iload 4, 2) := by decide +kernel
theorem dX2_countTo_26 : decode cX2_countTo 26 = .ok (.invokestatic 30, 3) := by decide +kernel
theorem dX2_countTo_29 : decode cX2_countTo 29 = .ok (.istore 5, 2) := by decide +kernel
theorem dX2_countTo_31 : decode cX2_countTo 31 = .ok (.aload_n 0, 1) := by decide +kernel
theorem dX2_countTo_32 : decode cX2_countTo 32 = .ok (.getfield 22, 3) := by decide +kernel
theorem dX2_countTo_35 : decode cX2_countTo 35 = .ok (.iload_n 3, 1) := by decide +kernel
theorem dX2_countTo_36 : decode cX2_countTo 36 = .ok (.iload 5, 2) := by decide +kernel
theorem dX2_countTo_38 : decode cX2_countTo 38 = .ok (.invokevirtual 34, 3) := by decide +kernel
theorem dX2_countTo_41 : decode cX2_countTo 41 = .ok (.iload_n 1, 1) := by decide +kernel
theorem dX2_countTo_42 : decode cX2_countTo 42 = .ok (.if_icmp .ne 6, 3) := by decide +kernel
theorem dX2_countTo_45 : decode cX2_countTo 45 = .ok (.iinc 2 1, 3) := by decide +kernel
theorem dX2_countTo_48 : decode cX2_countTo 48 = .ok (.iinc 4 1, 3) := by decide +kernel
theorem dX2_countTo_51 : decode cX2_countTo 51 = .ok (.goto (-38), 3) := by decide +kernel
theorem dX2_countTo_54 : decode cX2_countTo 54 = .ok (.iinc 3 1, 3) := by decide +kernel
theorem dX2_countTo_57 : decode cX2_countTo 57 = .ok (.goto (-53), 3) := by decide +kernel
theorem dX2_countTo_60 : decode cX2_countTo 60 = .ok (.iload_n 2, 1) := by decide +kernel
theorem dX2_countTo_61 : decode cX2_countTo 61 = .ok (.ireturn, 1) := by decide +kernel
set_option maxRecDepth 20000 in
theorem ggX2_countAncestors_X3_clear : GoodIn wsX2_countAncestors wsX3_clear := goodIn_r _ [6, 7, 8, 62, 63, 64] (by decide +kernel) (by decide +kernel)
set_option maxRecDepth 20000 in
theorem gX2_countAncestors_X3_clear : GoodIn wsX2_countAncestors (wsV RX2 39 RX3 yX3_clear wsX3_clear) := goodIn_app (goodIn_of _ (by decide +kernel)) ggX2_countAncestors_X3_clear
set_option maxRecDepth 20000 in
theorem ggX2_countAncestors_X2_findTargets : GoodIn wsX2_countAncestors wsX2_findTargets := goodIn_r _ [13, 14, 15, 1, 16, 17, 18, 19, 20, 21, 22, 23, 24, 25, 26, 27, 28, 29, 30, 31, 32, 33, 34, 35, 36, 37, 38, 39, 40, 41, 42, 43, 44, 45, 46, 47, 48, 5, 49, 8, 7, 50, 59, 60, 61, 65, 66, 67, 68, 69, 70, 71, 62, 63, 64] (by decide +kernel) (by decide +kernel)
set_option maxRecDepth 20000 in
theorem gX2_countAncestors_X2_findTargets : GoodIn wsX2_countAncestors (wsV RX2 42 RX2 yX2_findTargets wsX2_findTargets) := goodIn_app (goodIn_of _ (by decide +kernel)) ggX2_countAncestors_X2_findTargets
set_option maxRecDepth 20000 in
theorem ggX2_countAncestors_X3_length : GoodIn wsX2_countAncestors wsX3_length := goodIn_r _ [54, 7, 62, 63, 64] (by decide +kernel) (by decide +kernel)
set_option maxRecDepth 20000 in
theorem gX2_countAncestors_X3_length : GoodIn wsX2_countAncestors (wsV RX2 46 RX3 yX3_length wsX3_length) := goodIn_app (goodIn_of _ (by decide +kernel)) ggX2_countAncestors_X3_length
set_option maxRecDepth 20000 in
theorem ggX2_countAncestors_X3_rowAt : GoodIn wsX2_countAncestors wsX3_rowAt := goodIn_r _ [58, 7, 50, 62, 63, 64] (by decide +kernel) (by decide +kernel)
set_option maxRecDepth 20000 in
theorem gX2_countAncestors_X3_rowAt : GoodIn wsX2_countAncestors (wsV RX2 50 RX3 yX3_rowAt wsX3_rowAt) := goodIn_app (goodIn_of _ (by decide +kernel)) ggX2_countAncestors_X3_rowAt
theorem dX2_countAncestors_0 : decode cX2_countAncestors 0 = .ok (.aload_n 0, 1) := by decide +kernel
theorem dX2_countAncestors_1 : decode cX2_countAncestors 1 = .ok (.getfield 12, 3) := by decide +kernel
theorem dX2_countAncestors_4 : decode cX2_countAncestors 4 = .ok (.invokevirtual 39, 3) := by decide +kernel
theorem dX2_countAncestors_7 : decode cX2_countAncestors 7 = .ok (.aload_n 0, 1) := by decide +kernel
theorem dX2_countAncestors_8 : decode cX2_countAncestors 8 = .ok (.iload_n 1, 1) := by decide +kernel
theorem dX2_countAncestors_9 : decode cX2_countAncestors 9 = .ok (.invokevirtual 42, 3) := by decide +kernel
theorem dX2_countAncestors_12 : decode cX2_countAncestors 12 = .ok (.iconst 0, 1) := by decide +kernel
theorem dX2_countAncestors_13 : decode cX2_countAncestors 13 = .ok (.istore_n 2, 1) := by decide +kernel
theorem dX2_countAncestors_14 : decode cX2_countAncestors 14 = .ok (.iload_n 2, 1) := by decide +kernel
theorem dX2_countAncestors_15 : decode cX2_countAncestors 15 = .ok (.aload_n 0, 1) := by decide +kernel
theorem dX2_countAncestors_16 : decode cX2_countAncestors 16 = .ok (.getfield 12, 3) := by decide +kernel
theorem dX2_countAncestors_19 : decode cX2_countAncestors 19 = .ok (.invokevirtual 46, 3) := by decide +kernel
theorem dX2_countAncestors_22 : decode cX2_countAncestors 22 = .ok (.if_icmp .ge 27, 3) := by decide +kernel
theorem dX2_countAncestors_25 : decode cX2_countAncestors 25 = .ok (.iload_n 2, 1) := by decide +kernel
theorem dX2_countAncestors_26 : decode cX2_countAncestors 26 = .ok (.bipush 80, 2) := by decide +kernel
theorem dX2_countAncestors_28 : decode cX2_countAncestors 28 = .ok (.if_icmp .ge 21, 3) := by decide +kernel
theorem dX2_countAncestors_31 : decode cX2_countAncestors 31 = .ok (.aload_n 0, 1) := by decide +kernel
theorem dX2_countAncestors_32 : decode cX2_countAncestors 32 = .ok (.aload_n 0, 1) := by decide +kernel
theorem dX2_countAncestors_33 : decode cX2_countAncestors 33 = .ok (.getfield 12, 3) := by decide +kernel
theorem dX2_countAncestors_36 : decode cX2_countAncestors 36 = .ok (.iload_n 2, 1) := by decide +kernel
theorem dX2_countAncestors_37 : decode cX2_countAncestors 37 = .ok (.invokevirtual 50, 3) := by decide +kernel
theorem dX2_countAncestors_40 : decode cX2_countAncestors 40 = .ok (.invokevirtual 42, 3) := by decide +kernel
theorem dX2_countAncestors_43 : decode cX2_countAncestors 43 = .ok (.iinc 2 1, 3) := by decide +kernel
theorem dX2_countAncestors_46 : decode cX2_countAncestors 46 = .ok (.goto (-32), 3) := by decide +kernel
theorem dX2_countAncestors_49 : decode cX2_countAncestors 49 = .ok (.aload_n 0, 1) := by decide +kernel
theorem dX2_countAncestors_50 : decode cX2_countAncestors 50 = .ok (.getfield 12, 3) := by decide +kernel
theorem dX2_countAncestors_53 : decode cX2_countAncestors 53 = .ok (.invokevirtual 46, 3) := by decide +kernel
theorem dX2_countAncestors_56 : decode cX2_countAncestors 56 = .ok (.ireturn, 1) := by decide +kernel
set_option maxRecDepth 20000 in
theorem ggX2_findTargets_X7_tableOfRow : GoodIn wsX2_findTargets wsX7_tableOfRow := goodIn_r _ [6] (by decide +kernel) (by decide +kernel)
set_option maxRecDepth 20000 in
theorem gX2_findTargets_X7_tableOfRow_n53 : GoodIn wsX2_findTargets (wsX7_tableOfRow) := ggX2_findTargets_X7_tableOfRow
set_option maxRecDepth 20000 in
theorem ggX2_findTargets_X7_constraintNumber : GoodIn wsX2_findTargets wsX7_constraintNumber := goodIn_r _ [8] (by decide +kernel) (by decide +kernel)
set_option maxRecDepth 20000 in
theorem gX2_findTargets_X7_constraintNumber_n56 : GoodIn wsX2_findTargets (wsX7_constraintNumber) := ggX2_findTargets_X7_constraintNumber
set_option maxRecDepth 20000 in
theorem ggX2_findTargets_X0_targetOf : GoodIn wsX2_findTargets wsX0_targetOf := goodIn_r _ [13, 14, 15, 16, 17, 12, 18, 19, 20, 5, 21, 22, 23, 24, 25, 26, 27, 28, 29, 45, 46, 47, 48, 49, 50, 51] (by decide +kernel) (by decide +kernel)
set_option maxRecDepth 20000 in
theorem gX2_findTargets_X0_targetOf : GoodIn wsX2_findTargets (wsV RX2 34 RX0 yX0_targetOf wsX0_targetOf) := goodIn_app (goodIn_of _ (by decide +kernel)) ggX2_findTargets_X0_targetOf
set_option maxRecDepth 20000 in
theorem ggX2_findTargets_X4_has : GoodIn wsX2_findTargets wsX4_has := goodIn_r _ [33, 27, 49, 50, 51] (by decide +kernel) (by decide +kernel)
set_option maxRecDepth 20000 in
theorem gX2_findTargets_X4_has : GoodIn wsX2_findTargets (wsV RX2 59 RX4 yX4_has wsX4_has) := goodIn_app (goodIn_of _ (by decide +kernel)) ggX2_findTargets_X4_has
set_option maxRecDepth 20000 in
theorem ggX2_findTargets_X3_add : GoodIn wsX2_findTargets wsX3_add := goodIn_r _ [38, 39, 40, 41, 52, 53, 54] (by decide +kernel) (by decide +kernel)
set_option maxRecDepth 20000 in
theorem gX2_findTargets_X3_add : GoodIn wsX2_findTargets (wsV RX2 65 RX3 yX3_add wsX3_add) := goodIn_app (goodIn_of _ (by decide +kernel)) ggX2_findTargets_X3_add
theorem dX2_findTargets_0 : decode cX2_findTargets 0 = .ok (.iconst 0, 1) := by decide +kernel
theorem dX2_findTargets_1 : decode cX2_findTargets 1 = .ok (.istore_n 2, 1) := by decide +kernel
theorem dX2_findTargets_2 : decode cX2_findTargets 2 = .ok (.iload_n 2, 1) := by decide +kernel
theorem dX2_findTargets_3 : decode cX2_findTargets 3 = .ok (.iconst 2, 1) := by decide +kernel
theorem dX2_findTargets_4 : decode cX2_findTargets 4 = .ok (.if_icmp .ge 50, 3) := by decide +kernel
theorem dX2_findTargets_7 : decode cX2_findTargets 7 = .ok (.iload_n 1, 1) := by decide +kernel
theorem dX2_findTargets_8 : decode cX2_findTargets 8 = .ok (.invokestatic 53, 3) := by decide +kernel
theorem dX2_findTargets_11 : decode cX2_findTargets 11 = .ok (.iload_n 2, 1) := by decide +kernel
theorem dX2_findTargets_12 : decode cX2_findTargets 12 = .ok (.invokestatic 56, 3) := by decide +kernel
theorem dX2_findTargets_15 : decode cX2_findTargets 15 = .ok (.istore_n 3, 1) := by decide +kernel
theorem dX2_findTargets_16 : decode cX2_findTargets 16 = .ok (.aload_n 0, 1) := by decide +kernel
theorem dX2_findTargets_17 : decode cX2_findTargets 17 = .ok (.getfield 22, 3) := by decide +kernel
theorem dX2_findTargets_20 : decode cX2_findTargets 20 = .ok (.iload_n 3, 1) := by decide +kernel
theorem dX2_findTargets_21 : decode cX2_findTargets 21 = .ok (.iload_n 1, 1) := by decide +kernel
theorem dX2_findTargets_22 : decode cX2_findTargets 22 = .ok (.invokevirtual 34, 3) := by decide +kernel
theorem dX2_findTargets_25 : decode cX2_findTargets 25 = .ok (.istore 4, 2) := by decide +kernel
theorem dX2_findTargets_27 : decode cX2_findTargets 27 = .ok (.aload_n 0, 1) := by decide +kernel
theorem dX2_findTargets_28 : decode cX2_findTargets 28 = .ok (.getfield 18, 3) := by decide +kernel
theorem dX2_findTargets_31 : decode cX2_findTargets 31 = .ok (.iload 4, 2) := by decide +kernel
theorem dX2_findTargets_33 : decode cX2_findTargets 33 = .ok (.invokevirtual 59, 3) := by decide +kernel
theorem dX2_findTargets_36 : decode cX2_findTargets 36 = .ok (.ifCond .eq 12, 3) := by decide +kernel
theorem dX2_findTargets_39 : decode cX2_findTargets 39 = .ok (.aload_n 0, 1) := by decide +kernel
theorem dX2_findTargets_40 : decode cX2_findTargets 40 = .ok (.getfield 12, 3) := by decide +kernel
theorem dX2_findTargets_43 : decode cX2_findTargets 43 = .ok (.iload 4, 2) := by decide +kernel
theorem dX2_findTargets_45 : decode cX2_findTargets 45 = .ok (.invokevirtual 65, 3) := by decide +kernel
theorem dX2_findTargets_48 : decode cX2_findTargets 48 = .ok (.iinc 2 1, 3) := by decide +kernel
theorem dX2_findTargets_51 : decode cX2_findTargets 51 = .ok (.goto (-49), 3) := by decide +kernel
theorem dX2_findTargets_54 : decode cX2_findTargets 54 = .ok (.return_, 1) := by decide +kernel
theorem dX3_init_0 : decode cX3_init 0 = .ok (.aload_n 0, 1) := by decide +kernel
theorem dX3_init_1 : decode cX3_init 1 = .ok (.invokespecial 3, 3) := by decide +kernel
theorem dX3_init_4 : decode cX3_init 4 = .ok (.aload_n 0, 1) := by decide +kernel
theorem dX3_init_5 : decode cX3_init 5 = .ok (.bipush 80, 2) := by decide +kernel
theorem dX3_init_7 : decode cX3_init 7 = .ok (.newarray .int, 2) := by decide +kernel
theorem dX3_init_9 : decode cX3_init 9 = .ok (.putfield 9, 3) := by decide +kernel
theorem dX3_init_12 : decode cX3_init 12 = .ok (.aload_n 0, 1) := by decide +kernel
theorem dX3_init_13 : decode cX3_init 13 = .ok (.bipush 80, 2) := by decide +kernel
theorem dX3_init_15 : decode cX3_init 15 = .ok (.newarray .boolean, 2) := by decide +kernel
theorem dX3_init_17 : decode cX3_init 17 = .ok (.putfield 15, 3) := by decide +kernel
theorem dX3_init_20 : decode cX3_init 20 = .ok (.aload_n 0, 1) := by decide +kernel
theorem dX3_init_21 : decode cX3_init 21 = .ok (.iconst 0, 1) := by decide +kernel
theorem dX3_init_22 : decode cX3_init 22 = .ok (.putfield 19, 3) := by decide +kernel
theorem dX3_init_25 : decode cX3_init 25 = .ok (.return_, 1) := by decide +kernel
theorem dX3_clear_0 : decode cX3_clear 0 = .ok (.aload_n 0, 1) := by decide +kernel
theorem dX3_clear_1 : decode cX3_clear 1 = .ok (.iconst 0, 1) := by decide +kernel
theorem dX3_clear_2 : decode cX3_clear 2 = .ok (.putfield 19, 3) := by decide +kernel
theorem dX3_clear_5 : decode cX3_clear 5 = .ok (.iconst 0, 1) := by decide +kernel
theorem dX3_clear_6 : decode cX3_clear 6 = .ok (.istore_n 1, 1) := by decide +kernel
theorem dX3_clear_7 : decode cX3_clear 7 = .ok (.iload_n 1, 1) := by decide +kernel
theorem dX3_clear_8 : decode cX3_clear 8 = .ok (.bipush 80, 2) := by decide +kernel
theorem dX3_clear_10 : decode cX3_clear 10 = .ok (.if_icmp .ge 16, 3) := by decide +kernel
theorem dX3_clear_13 : decode cX3_clear 13 = .ok (.aload_n 0, 1) := by decide +kernel
theorem dX3_clear_14 : decode cX3_clear 14 = .ok (.getfield 15, 3) := by decide +kernel
theorem dX3_clear_17 : decode cX3_clear 17 = .ok (.iload_n 1, 1) := by decide +kernel
theorem dX3_clear_18 : decode cX3_clear 18 = .ok (.iconst 0, 1) := by decide +kernel
theorem dX3_clear_19 : decode cX3_clear 19 = .ok (.bastore, 1) := by decide +kernel
theorem dX3_clear_20 : decode cX3_clear 20 = .ok (.iinc 1 1, 3) := by decide +kernel
theorem dX3_clear_23 : decode cX3_clear 23 = .ok (.goto (-16), 3) := by decide +kernel
theorem dX3_clear_26 : decode cX3_clear 26 = .ok (.return_, 1) := by decide +kernel
theorem dX3_add_0 : decode cX3_add 0 = .ok (.iload_n 1, 1) := by decide +kernel
theorem dX3_add_1 : decode cX3_add 1 = .ok (.ifCond .lt 54, 3) := by decide +kernel
theorem dX3_add_4 : decode cX3_add 4 = .ok (.iload_n 1, 1) := by decide +kernel
theorem dX3_add_5 : decode cX3_add 5 = .ok (.bipush 80, 2) := by decide +kernel
theorem dX3_add_7 : decode cX3_add 7 = .ok (.if_icmp .ge 48, 3) := by decide +kernel
theorem dX3_add_10 : decode cX3_add 10 = .ok (.aload_n 0, 1) := by decide +kernel
theorem dX3_add_11 : decode cX3_add 11 = .ok (.getfield 15, 3) := by decide +kernel
theorem dX3_add_14 : decode cX3_add 14 = .ok (.iload_n 1, 1) := by decide +kernel
theorem dX3_add_15 : decode cX3_add 15 = .ok (.baload, 1) := by decide +kernel
theorem dX3_add_16 : decode cX3_add 16 = .ok (.ifCond .ne 39, 3) := by decide +kernel
theorem dX3_add_19 : decode cX3_add 19 = .ok (.aload_n 0, 1) := by decide +kernel
theorem dX3_add_20 : decode cX3_add 20 = .ok (.getfield 19, 3) := by decide +kernel
theorem dX3_add_23 : decode cX3_add 23 = .ok (.bipush 80, 2) := by decide +kernel
theorem dX3_add_25 : decode cX3_add 25 = .ok (.if_icmp .ge 30, 3) := by decide +kernel
theorem dX3_add_28 : decode cX3_add 28 = .ok (.aload_n 0, 1) := by decide +kernel
theorem dX3_add_29 : decode cX3_add 29 = .ok (.getfield 15, 3) := by decide +kernel
theorem dX3_add_32 : decode cX3_add 32 = .ok (.iload_n 1, 1) := by decide +kernel
theorem dX3_add_33 : decode cX3_add 33 = .ok (.iconst 1, 1) := by decide +kernel
theorem dX3_add_34 : decode cX3_add 34 = .ok (.bastore, 1) := by decide +kernel
theorem dX3_add_35 : decode cX3_add 35 = .ok (.aload_n 0, 1) := by decide +kernel
theorem dX3_add_36 : decode cX3_add 36 = .ok (.getfield 9, 3) := by decide +kernel
theorem dX3_add_39 : decode cX3_add 39 = .ok (.aload_n 0, 1) := by decide +kernel
theorem dX3_add_40 : decode cX3_add 40 = .ok (.getfield 19, 3) := by decide +kernel
theorem dX3_add_43 : decode cX3_add 43 = .ok (.iload_n 1, 1) := by decide +kernel
theorem dX3_add_44 : decode cX3_add 44 = .ok (.iastore, 1) := by decide +kernel
theorem dX3_add_45 : decode cX3_add 45 = .ok (.aload_n 0, 1) := by decide +kernel
theorem dX3_add_46 : decode cX3_add 46 = .ok (.dup, 1) := by decide +kernel
theorem dX3_add_47 : decode cX3_add 47 = .ok (.getfield 19, 3) := by decide +kernel
theorem dX3_add_50 : decode cX3_add 50 = .ok (.iconst 1, 1) := by decide +kernel
theorem dX3_add_51 : decode cX3_add 51 = .ok (.iadd, 1) := by decide +kernel
theorem dX3_add_52 : decode cX3_add 52 = .ok (.putfield 19, 3) := by decide +kernel
theorem dX3_add_55 : decode cX3_add 55 = .ok (.return_, 1) := by decide +kernel
theorem dX3_length_0 : decode cX3_length 0 = .ok (.aload_n 0, 1) := by decide +kernel
theorem dX3_length_1 : decode cX3_length 1 = .ok (.getfield 19, 3) := by decide +kernel
theorem dX3_length_4 : decode cX3_length 4 = .ok (.ireturn, 1) := by decide +kernel
theorem dX3_rowAt_0 : decode cX3_rowAt 0 = .ok (.iload_n 1, 1) := by decide +kernel
theorem dX3_rowAt_1 : decode cX3_rowAt 1 = .ok (.ifCond .lt 26, 3) := by decide +kernel
theorem dX3_rowAt_4 : decode cX3_rowAt 4 = .ok (.iload_n 1, 1) := by decide +kernel
theorem dX3_rowAt_5 : decode cX3_rowAt 5 = .ok (.aload_n 0, 1) := by decide +kernel
theorem dX3_rowAt_6 : decode cX3_rowAt 6 = .ok (.getfield 19, 3) := by decide +kernel
theorem dX3_rowAt_9 : decode cX3_rowAt 9 = .ok (.if_icmp .ge 18, 3) := by decide +kernel
theorem dX3_rowAt_12 : decode cX3_rowAt 12 = .ok (.iload_n 1, 1) := by decide +kernel
theorem dX3_rowAt_13 : decode cX3_rowAt 13 = .ok (.bipush 80, 2) := by decide +kernel
theorem dX3_rowAt_15 : decode cX3_rowAt 15 = .ok (.if_icmp .ge 12, 3) := by decide +kernel
theorem dX3_rowAt_18 : decode cX3_rowAt 18 = .ok (.aload_n 0, 1) := by decide +kernel
theorem dX3_rowAt_19 : decode cX3_rowAt 19 = .ok (.getfield 9, 3) := by decide +kernel
theorem dX3_rowAt_22 : decode cX3_rowAt 22 = .ok (.iload_n 1, 1) := by decide +kernel
theorem dX3_rowAt_23 : decode cX3_rowAt 23 = .ok (.iaload, 1) := by decide +kernel
theorem dX3_rowAt_24 : decode cX3_rowAt 24 = .ok (.goto 5, 3) := by decide +kernel
theorem dX3_rowAt_27 : decode cX3_rowAt 27 = .ok (.bipush (-2), 2) := by decide +kernel
theorem dX3_rowAt_29 : decode cX3_rowAt 29 = .ok (.ireturn, 1) := by decide +kernel
theorem dX4_init_0 : decode cX4_init 0 = .ok (.aload_n 0, 1) := by decide +kernel
theorem dX4_init_1 : decode cX4_init 1 = .ok (.invokespecial 3, 3) := by decide +kernel
theorem dX4_init_4 : decode cX4_init 4 = .ok (.aload_n 0, 1) := by decide +kernel
theorem dX4_init_5 : decode cX4_init 5 = .ok (.sipush 160, 3) := by decide +kernel
theorem dX4_init_8 : decode cX4_init 8 = .ok (.newarray .int, 2) := by decide +kernel
theorem dX4_init_10 : decode cX4_init 10 = .ok (.putfield 9, 3) := by decide +kernel
theorem dX4_init_13 : decode cX4_init 13 = .ok (.aload_n 0, 1) := by decide +kernel
theorem dX4_init_14 : decode cX4_init 14 = .ok (.sipush 240, 3) := by decide +kernel
theorem dX4_init_17 : decode cX4_init 17 = .ok (.newarray .int, 2) := by decide +kernel
theorem dX4_init_19 : decode cX4_init 19 = .ok (.putfield 15, 3) := by decide +kernel
theorem dX4_init_22 : decode cX4_init 22 = .ok (.aload_n 0, 1) := by decide +kernel
theorem dX4_init_23 : decode cX4_init 23 = .ok (.iconst 0, 1) := by decide +kernel
theorem dX4_init_24 : decode cX4_init 24 = .ok (.putfield 18, 3) := by decide +kernel
theorem dX4_init_27 : decode cX4_init 27 = .ok (.iconst 0, 1) := by decide +kernel
theorem dX4_init_28 : decode cX4_init 28 = .ok (.istore_n 1, 1) := by decide +kernel
theorem dX4_init_29 : decode cX4_init 29 = .ok (.iload_n 1, 1) := by decide +kernel
theorem dX4_init_30 : decode cX4_init 30 = .ok (.aload_n 0, 1) := by decide +kernel
theorem dX4_init_31 : decode cX4_init 31 = .ok (.getfield 9, 3) := by decide +kernel
theorem dX4_init_34 : decode cX4_init 34 = .ok (.arraylength, 1) := by decide +kernel
theorem dX4_init_35 : decode cX4_init 35 = .ok (.if_icmp .ge 17, 3) := by decide +kernel
theorem dX4_init_38 : decode cX4_init 38 = .ok (.aload_n 0, 1) := by decide +kernel
theorem dX4_init_39 : decode cX4_init 39 = .ok (.getfield 9, 3) := by decide +kernel
theorem dX4_init_42 : decode cX4_init 42 = .ok (.iload_n 1, 1) := by decide +kernel
theorem dX4_init_43 : decode cX4_init 43 = .ok (.bipush (-2), 2) := by decide +kernel
theorem dX4_init_45 : decode cX4_init 45 = .ok (.iastore, 1) := by decide +kernel
theorem dX4_init_46 : decode cX4_init 46 = .ok (.iinc 1 1, 3) := by decide +kernel
theorem dX4_init_49 : decode cX4_init 49 = .ok (.goto (-20), 3) := by decide +kernel
theorem dX4_init_52 : decode cX4_init 52 = .ok (.return_, 1) := by decide +kernel
theorem dX4_changeCount_0 : decode cX4_changeCount 0 = .ok (.aload_n 0, 1) := by decide +kernel
theorem dX4_changeCount_1 : decode cX4_changeCount 1 = .ok (.getfield 18, 3) := by decide +kernel
theorem dX4_changeCount_4 : decode cX4_changeCount 4 = .ok (.ireturn, 1) := by decide +kernel
theorem dX4_has_0 : decode cX4_has 0 = .ok (.iload_n 1, 1) := by decide +kernel
theorem dX4_has_1 : decode cX4_has 1 = .ok (.ifCond .lt 26, 3) := by decide +kernel
theorem dX4_has_4 : decode cX4_has 4 = .ok (.iload_n 1, 1) := by decide +kernel
theorem dX4_has_5 : decode cX4_has 5 = .ok (.bipush 80, 2) := by decide +kernel
theorem dX4_has_7 : decode cX4_has 7 = .ok (.if_icmp .ge 20, 3) := by decide +kernel
theorem dX4_has_10 : decode cX4_has 10 = .ok (.aload_n 0, 1) := by decide +kernel
theorem dX4_has_11 : decode cX4_has 11 = .ok (.getfield 9, 3) := by decide +kernel
theorem dX4_has_14 : decode cX4_has 14 = .ok (.iload_n 1, 1) := by decide +kernel
theorem dX4_has_15 : decode cX4_has 15 = .ok (.iconst 2, 1) := by decide +kernel
theorem dX4_has_16 : decode cX4_has 16 = .ok (.imul, 1) := by decide +kernel
theorem dX4_has_17 : decode cX4_has 17 = .ok (.iaload, 1) := by decide +kernel
theorem dX4_has_18 : decode cX4_has 18 = .ok (.bipush (-2), 2) := by decide +kernel
theorem dX4_has_20 : decode cX4_has 20 = .ok (.if_icmp .eq 7, 3) := by decide +kernel
theorem dX4_has_23 : decode cX4_has 23 = .ok (.iconst 1, 1) := by decide +kernel
theorem dX4_has_24 : decode cX4_has 24 = .ok (.goto 4, 3) := by decide +kernel
theorem dX4_has_27 : decode cX4_has 27 = .ok (.iconst 0, 1) := by decide +kernel
theorem dX4_has_28 : decode cX4_has 28 = .ok (.ireturn, 1) := by decide +kernel
theorem dX4_valueOf_0 : decode cX4_valueOf 0 = .ok (.iload_n 1, 1) := by decide +kernel
theorem dX4_valueOf_1 : decode cX4_valueOf 1 = .ok (.ifCond .lt 18, 3) := by decide +kernel
theorem dX4_valueOf_4 : decode cX4_valueOf 4 = .ok (.iload_n 1, 1) := by decide +kernel
theorem dX4_valueOf_5 : decode cX4_valueOf 5 = .ok (.bipush 80, 2) := by decide +kernel
theorem dX4_valueOf_7 : decode cX4_valueOf 7 = .ok (.if_icmp .ge 12, 3) := by decide +kernel
theorem dX4_valueOf_10 : decode cX4_valueOf 10 = .ok (.iload_n 2, 1) := by decide +kernel
theorem dX4_valueOf_11 : decode cX4_valueOf 11 = .ok (.ifCond .lt 8, 3) := by decide +kernel
theorem dX4_valueOf_14 : decode cX4_valueOf 14 = .ok (.iload_n 2, 1) := by decide +kernel
theorem dX4_valueOf_15 : decode cX4_valueOf 15 = .ok (.iconst 2, 1) := by decide +kernel
theorem dX4_valueOf_16 : decode cX4_valueOf 16 = .ok (.if_icmp .lt 6, 3) := by decide +kernel
theorem dX4_valueOf_19 : decode cX4_valueOf 19 = .ok (.bipush (-2), 2) := by decide +kernel
theorem dX4_valueOf_21 : decode cX4_valueOf 21 = .ok (.ireturn, 1) := by decide +kernel
theorem dX4_valueOf_22 : decode cX4_valueOf 22 = .ok (.aload_n 0, 1) := by decide +kernel
theorem dX4_valueOf_23 : decode cX4_valueOf 23 = .ok (.getfield 9, 3) := by decide +kernel
theorem dX4_valueOf_26 : decode cX4_valueOf 26 = .ok (.iload_n 1, 1) := by decide +kernel
theorem dX4_valueOf_27 : decode cX4_valueOf 27 = .ok (.iconst 2, 1) := by decide +kernel
theorem dX4_valueOf_28 : decode cX4_valueOf 28 = .ok (.imul, 1) := by decide +kernel
theorem dX4_valueOf_29 : decode cX4_valueOf 29 = .ok (.iload_n 2, 1) := by decide +kernel
theorem dX4_valueOf_30 : decode cX4_valueOf 30 = .ok (.iadd, 1) := by decide +kernel
theorem dX4_valueOf_31 : decode cX4_valueOf 31 = .ok (.iaload, 1) := by decide +kernel
theorem dX4_valueOf_32 : decode cX4_valueOf 32 = .ok (.ireturn, 1) := by decide +kernel
set_option maxRecDepth 20000 in
theorem ggX4_countIn_X7_rowNumber : GoodIn wsX4_countIn wsX7_rowNumber := goodIn_r _ [3] (by decide +kernel) (by decide +kernel)
set_option maxRecDepth 20000 in
theorem gX4_countIn_X7_rowNumber_n22 : GoodIn wsX4_countIn (wsX7_rowNumber) := ggX4_countIn_X7_rowNumber
set_option maxRecDepth 20000 in
theorem ggX4_countIn_X4_has : GoodIn wsX4_countIn wsX4_has := goodIn_r _ [8, 9, 10, 11, 12] (by decide +kernel) (by decide +kernel)
set_option maxRecDepth 20000 in
theorem gX4_countIn_X4_has : GoodIn wsX4_countIn (wsV RX4 26 RX4 yX4_has wsX4_has) := goodIn_app (goodIn_of _ (by decide +kernel)) ggX4_countIn_X4_has
theorem dX4_countIn_0 : decode cX4_countIn 0 = .ok (.iconst 0, 1) := by decide +kernel
theorem dX4_countIn_1 : decode cX4_countIn 1 = .ok (.istore_n 2, 1) := by decide +kernel
theorem dX4_countIn_2 : decode cX4_countIn 2 = .ok (.iconst 0, 1) := by decide +kernel
theorem dX4_countIn_3 : decode cX4_countIn 3 = .ok (.istore_n 3, 1) := by decide +kernel
theorem dX4_countIn_4 : decode cX4_countIn 4 = .ok (.iload_n 3, 1) := by decide +kernel
theorem dX4_countIn_5 : decode cX4_countIn 5 = .ok (.bipush 20, 2) := by decide +kernel
theorem dX4_countIn_7 : decode cX4_countIn 7 = .ok (.if_icmp .ge 24, 3) := by decide +kernel
theorem dX4_countIn_10 : decode cX4_countIn 10 = .ok (.aload_n 0, 1) := by decide +kernel
theorem dX4_countIn_11 : decode cX4_countIn 11 = .ok (.iload_n 1, 1) := by decide +kernel
theorem dX4_countIn_12 : decode cX4_countIn 12 = .ok (.iload_n 3, 1) := by decide +kernel
theorem dX4_countIn_13 : decode cX4_countIn 13 = .ok (.invokestatic 22, 3) := by decide +kernel
theorem dX4_countIn_16 : decode cX4_countIn 16 = .ok (.invokevirtual 26, 3) := by decide +kernel
theorem dX4_countIn_19 : decode cX4_countIn 19 = .ok (.ifCond .eq 6, 3) := by decide +kernel
theorem dX4_countIn_22 : decode cX4_countIn 22 = .ok (.iinc 2 1, 3) := by decide +kernel
theorem dX4_countIn_25 : decode cX4_countIn 25 = .ok (.iinc 3 1, 3) := by decide +kernel
theorem dX4_countIn_28 : decode cX4_countIn 28 = .ok (.goto (-24), 3) := by decide +kernel
theorem dX4_countIn_31 : decode cX4_countIn 31 = .ok (.iload_n 2, 1) := by decide +kernel
theorem dX4_countIn_32 : decode cX4_countIn 32 = .ok (.ireturn, 1) := by decide +kernel
set_option maxRecDepth 20000 in
theorem ggX4_beginStatement_J7_copyOf_59c91 : GoodIn wsX4_beginStatement wsJ7_copyOf_59c91 := goodIn_r _ [7, 8, 9, 10, 11, 12, 13, 14, 15, 16, 17, 18, 19, 20, 21, 22] (by decide +kernel) (by decide +kernel)
set_option maxRecDepth 20000 in
theorem gX4_beginStatement_J7_copyOf_59c91 : GoodIn wsX4_beginStatement (va_wsS RX4 31 yJ7_copyOf_59c91 wsJ7_copyOf_59c91) := goodIn_app (goodIn_of _ (by decide +kernel)) ggX4_beginStatement_J7_copyOf_59c91
theorem dX4_beginStatement_0 : decode cX4_beginStatement 0 = .ok (.aload_n 0, 1) := by decide +kernel
theorem dX4_beginStatement_1 : decode cX4_beginStatement 1 = .ok (.getfield 15, 3) := by decide +kernel
theorem dX4_beginStatement_4 : decode cX4_beginStatement 4 = .ok (.arraylength, 1) := by decide +kernel
theorem dX4_beginStatement_5 : decode cX4_beginStatement 5 = .ok (.aload_n 0, 1) := by decide +kernel
theorem dX4_beginStatement_6 : decode cX4_beginStatement 6 = .ok (.getfield 18, 3) := by decide +kernel
theorem dX4_beginStatement_9 : decode cX4_beginStatement 9 = .ok (.isub, 1) := by decide +kernel
theorem dX4_beginStatement_10 : decode cX4_beginStatement 10 = .ok (.istore_n 1, 1) := by decide +kernel
theorem dX4_beginStatement_11 : decode cX4_beginStatement 11 = .ok (.iload_n 1, 1) := by decide +kernel
theorem dX4_beginStatement_12 : decode cX4_beginStatement 12 = .ok (.sipush 240, 3) := by decide +kernel
theorem dX4_beginStatement_15 : decode cX4_beginStatement 15 = .ok (.if_icmp .ge 31, 3) := by decide +kernel
theorem dX4_beginStatement_18 : decode cX4_beginStatement 18 = .ok (.aload_n 0, 1) := by decide +kernel
theorem dX4_beginStatement_19 : decode cX4_beginStatement 19 = .ok (.getfield 15, 3) := by decide +kernel
theorem dX4_beginStatement_22 : decode cX4_beginStatement 22 = .ok (.arraylength, 1) := by decide +kernel
theorem dX4_beginStatement_23 : decode cX4_beginStatement 23 = .ok (.ldc 30, 2) := by decide +kernel
theorem dX4_beginStatement_25 : decode cX4_beginStatement 25 = .ok (.if_icmp .ge 21, 3) := by decide +kernel
theorem dX4_beginStatement_28 : decode cX4_beginStatement 28 = .ok (.aload_n 0, 1) := by decide +kernel
theorem dX4_beginStatement_29 : decode cX4_beginStatement 29 = .ok (.aload_n 0, 1) := by decide +kernel
theorem dX4_beginStatement_30 : decode cX4_beginStatement 30 = .ok (.getfield 15, 3) := by decide +kernel
theorem dX4_beginStatement_33 : decode cX4_beginStatement 33 = .ok (.iconst 2, 1) := by decide +kernel
theorem dX4_beginStatement_34 : decode cX4_beginStatement 34 = .ok (.aload_n 0, 1) := by decide +kernel
theorem dX4_beginStatement_35 : decode cX4_beginStatement 35 = .ok (.getfield 15, 3) := by decide +kernel
theorem dX4_beginStatement_38 : decode cX4_beginStatement 38 = .ok (.arraylength, 1) := by decide +kernel
theorem dX4_beginStatement_39 : decode cX4_beginStatement 39 = .ok (.imul, 1) := by decide +kernel
theorem dX4_beginStatement_40 : decode cX4_beginStatement 40 = .ok (.invokestatic 31, 3) := by decide +kernel
theorem dX4_beginStatement_43 : decode cX4_beginStatement 43 = .ok (.putfield 15, 3) := by decide +kernel
theorem dX4_beginStatement_46 : decode cX4_beginStatement 46 = .ok (.aload_n 0, 1) := by decide +kernel
theorem dX4_beginStatement_47 : decode cX4_beginStatement 47 = .ok (.getfield 18, 3) := by decide +kernel
theorem dX4_beginStatement_50 : decode cX4_beginStatement 50 = .ok (.ireturn, 1) := by decide +kernel
theorem dX4_write_0 : decode cX4_write 0 = .ok (.iload_n 1, 1) := by decide +kernel
theorem dX4_write_1 : decode cX4_write 1 = .ok (.ifCond .lt 28, 3) := by decide +kernel
theorem dX4_write_4 : decode cX4_write 4 = .ok (.iload_n 1, 1) := by decide +kernel
theorem dX4_write_5 : decode cX4_write 5 = .ok (.bipush 80, 2) := by decide +kernel
theorem dX4_write_7 : decode cX4_write 7 = .ok (.if_icmp .ge 22, 3) := by decide +kernel
theorem dX4_write_10 : decode cX4_write 10 = .ok (.aload_n 0, 1) := by decide +kernel
theorem dX4_write_11 : decode cX4_write 11 = .ok (.getfield 18, 3) := by decide +kernel
theorem dX4_write_14 : decode cX4_write 14 = .ok (.ifCond .lt 15, 3) := by decide +kernel
theorem dX4_write_17 : decode cX4_write 17 = .ok (.aload_n 0, 1) := by decide +kernel
theorem dX4_write_18 : decode cX4_write 18 = .ok (.getfield 18, 3) := by decide +kernel
theorem dX4_write_21 : decode cX4_write 21 = .ok (.aload_n 0, 1) := by decide +kernel
theorem dX4_write_22 : decode cX4_write 22 = .ok (.getfield 15, 3) := by decide +kernel
theorem dX4_write_25 : decode cX4_write 25 = .ok (.arraylength, 1) := by decide +kernel
theorem dX4_write_26 : decode cX4_write 26 = .ok (.if_icmp .lt 4, 3) := by decide +kernel
theorem dX4_write_29 : decode cX4_write 29 = .ok (.return_, 1) := by decide +kernel
theorem dX4_write_30 : decode cX4_write 30 = .ok (.iload_n 1, 1) := by decide +kernel
theorem dX4_write_31 : decode cX4_write 31 = .ok (.iconst 2, 1) := by decide +kernel
theorem dX4_write_32 : decode cX4_write 32 = .ok (.imul, 1) := by decide +kernel
theorem dX4_write_33 : decode cX4_write 33 = .ok (.istore 4, 2) := by decide +kernel
theorem dX4_write_35 : decode cX4_write 35 = .ok (.aload_n 0, 1) := by decide +kernel
theorem dX4_write_36 : decode cX4_write 36 = .ok (.getfield 9, 3) := by decide +kernel
theorem dX4_write_39 : decode cX4_write 39 = .ok (.iload 4, 2) := by decide +kernel
theorem dX4_write_41 : decode cX4_write 41 = .ok (.iaload, 1) := by decide +kernel
theorem dX4_write_42 : decode cX4_write 42 = .ok (.bipush (-2), 2) := by decide +kernel
theorem dX4_write_44 : decode cX4_write 44 = .ok (.isub, 1) := by decide +kernel
theorem dX4_write_45 : decode cX4_write 45 = .ok (.istore 5, 2) := by decide +kernel
theorem dX4_write_47 : decode cX4_write 47 = .ok (.aload_n 0, 1) := by decide +kernel
theorem dX4_write_48 : decode cX4_write 48 = .ok (.getfield 9, 3) := by decide +kernel
theorem dX4_write_51 : decode cX4_write 51 = .ok (.iload 4, 2) := by decide +kernel
theorem dX4_write_53 : decode cX4_write 53 = .ok (.iconst 1, 1) := by decide +kernel
theorem dX4_write_54 : decode cX4_write 54 = .ok (.iadd, 1) := by decide +kernel
theorem dX4_write_55 : decode cX4_write 55 = .ok (.iaload, 1) := by decide +kernel
theorem dX4_write_56 : decode cX4_write 56 = .ok (.bipush (-2), 2) := by decide +kernel
theorem dX4_write_58 : decode cX4_write 58 = .ok (.isub, 1) := by decide +kernel
theorem dX4_write_59 : decode cX4_write 59 = .ok (.istore 6, 2) := by decide +kernel
theorem dX4_write_61 : decode cX4_write 61 = .ok (.aload_n 0, 1) := by decide +kernel
theorem dX4_write_62 : decode cX4_write 62 = .ok (.getfield 15, 3) := by decide +kernel
theorem dX4_write_65 : decode cX4_write 65 = .ok (.aload_n 0, 1) := by decide +kernel
theorem dX4_write_66 : decode cX4_write 66 = .ok (.getfield 18, 3) := by decide +kernel
theorem dX4_write_69 : decode cX4_write 69 = .ok (.iload_n 1, 1) := by decide +kernel
theorem dX4_write_70 : decode cX4_write 70 = .ok (.bipush 10, 2) := by decide +kernel
theorem dX4_write_72 : decode cX4_write 72 = .ok (.ishl, 1) := by decide +kernel
theorem dX4_write_73 : decode cX4_write 73 = .ok (.iload 5, 2) := by decide +kernel
theorem dX4_write_75 : decode cX4_write 75 = .ok (.iconst 5, 1) := by decide +kernel
theorem dX4_write_76 : decode cX4_write 76 = .ok (.ishl, 1) := by decide +kernel
theorem dX4_write_77 : decode cX4_write 77 = .ok (.ior, 1) := by decide +kernel
theorem dX4_write_78 : decode cX4_write 78 = .ok (.iload 6, 2) := by decide +kernel
theorem dX4_write_80 : decode cX4_write 80 = .ok (.ior, 1) := by decide +kernel
theorem dX4_write_81 : decode cX4_write 81 = .ok (.iastore, 1) := by decide +kernel
theorem dX4_write_82 : decode cX4_write 82 = .ok (.aload_n 0, 1) := by decide +kernel
theorem dX4_write_83 : decode cX4_write 83 = .ok (.dup, 1) := by decide +kernel
theorem dX4_write_84 : decode cX4_write 84 = .ok (.getfield 18, 3) := by decide +kernel
theorem dX4_write_87 : decode cX4_write 87 = .ok (.iconst 1, 1) := by decide +kernel
theorem dX4_write_88 : decode cX4_write 88 = .ok (.iadd, 1) := by decide +kernel
theorem dX4_write_89 : decode cX4_write 89 = .ok (.putfield 18, 3) := by decide +kernel
theorem dX4_write_92 : decode cX4_write 92 = .ok (.aload_n 0, 1) := by decide +kernel
theorem dX4_write_93 : decode cX4_write 93 = .ok (.getfield 9, 3) := by decide +kernel
theorem dX4_write_96 : decode cX4_write 96 = .ok (.iload 4, 2) := by decide +kernel
theorem dX4_write_98 : decode cX4_write 98 = .ok (.iload_n 2, 1) := by decide +kernel
theorem dX4_write_99 : decode cX4_write 99 = .ok (.iastore, 1) := by decide +kernel
theorem dX4_write_100 : decode cX4_write 100 = .ok (.aload_n 0, 1) := by decide +kernel
theorem dX4_write_101 : decode cX4_write 101 = .ok (.getfield 9, 3) := by decide +kernel
theorem dX4_write_104 : decode cX4_write 104 = .ok (.iload 4, 2) := by decide +kernel
theorem dX4_write_106 : decode cX4_write 106 = .ok (.iconst 1, 1) := by decide +kernel
theorem dX4_write_107 : decode cX4_write 107 = .ok (.iadd, 1) := by decide +kernel
theorem dX4_write_108 : decode cX4_write 108 = .ok (.iload_n 3, 1) := by decide +kernel
theorem dX4_write_109 : decode cX4_write 109 = .ok (.iastore, 1) := by decide +kernel
theorem dX4_write_110 : decode cX4_write 110 = .ok (.return_, 1) := by decide +kernel
set_option maxRecDepth 20000 in
theorem ggX4_writeColumn_X4_valueOf : GoodIn wsX4_writeColumn wsX4_valueOf := goodIn_r _ [5, 6, 13, 14, 15] (by decide +kernel) (by decide +kernel)
set_option maxRecDepth 20000 in
theorem gX4_writeColumn_X4_valueOf : GoodIn wsX4_writeColumn (wsV RX4 37 RX4 yX4_valueOf wsX4_valueOf) := goodIn_app (goodIn_of _ (by decide +kernel)) ggX4_writeColumn_X4_valueOf
set_option maxRecDepth 20000 in
theorem ggX4_writeColumn_X4_write : GoodIn wsX4_writeColumn wsX4_write := goodIn_r _ [10, 11, 12, 6, 13, 14, 15] (by decide +kernel) (by decide +kernel)
set_option maxRecDepth 20000 in
theorem gX4_writeColumn_X4_write : GoodIn wsX4_writeColumn (wsV RX4 40 RX4 yX4_write wsX4_write) := goodIn_app (goodIn_of _ (by decide +kernel)) ggX4_writeColumn_X4_write
theorem dX4_writeColumn_0 : decode cX4_writeColumn 0 = .ok (.iload_n 2, 1) := by decide +kernel
theorem dX4_writeColumn_1 : decode cX4_writeColumn 1 = .ok (.ifCond .ne 7, 3) := by decide +kernel
theorem dX4_writeColumn_4 : decode cX4_writeColumn 4 = .ok (.iload_n 3, 1) := by decide +kernel
theorem dX4_writeColumn_5 : decode cX4_writeColumn 5 = .ok (.goto 9, 3) := by decide +kernel
theorem dX4_writeColumn_8 : decode cX4_writeColumn 8 = .ok (.aload_n 0, 1) := by decide +kernel
theorem dX4_writeColumn_9 : decode cX4_writeColumn 9 = .ok (.iload_n 1, 1) := by decide +kernel
theorem dX4_writeColumn_10 : decode cX4_writeColumn 10 = .ok (.iconst 0, 1) := by decide +kernel
theorem dX4_writeColumn_11 : decode cX4_writeColumn 11 = .ok (.invokevirtual 37, 3) := by decide +kernel
theorem dX4_writeColumn_14 : decode cX4_writeColumn 14 = .ok (.istore 4, 2) := by decide +kernel
theorem dX4_writeColumn_16 : decode cX4_writeColumn 16 = .ok (.iload_n 2, 1) := by decide +kernel
theorem dX4_writeColumn_17 : decode cX4_writeColumn 17 = .ok (.iconst 1, 1) := by decide +kernel
theorem dX4_writeColumn_18 : decode cX4_writeColumn 18 = .ok (.if_icmp .ne 7, 3) := by decide +kernel
theorem dX4_writeColumn_21 : decode cX4_writeColumn 21 = .ok (.iload_n 3, 1) := by decide +kernel
theorem dX4_writeColumn_22 : decode cX4_writeColumn 22 = .ok (.goto 9, 3) := by decide +kernel
theorem dX4_writeColumn_25 : decode cX4_writeColumn 25 = .ok (.aload_n 0, 1) := by decide +kernel
theorem dX4_writeColumn_26 : decode cX4_writeColumn 26 = .ok (.iload_n 1, 1) := by decide +kernel
theorem dX4_writeColumn_27 : decode cX4_writeColumn 27 = .ok (.iconst 1, 1) := by decide +kernel
theorem dX4_writeColumn_28 : decode cX4_writeColumn 28 = .ok (.invokevirtual 37, 3) := by decide +kernel
theorem dX4_writeColumn_31 : decode cX4_writeColumn 31 = .ok (.istore 5, 2) := by decide +kernel
theorem dX4_writeColumn_33 : decode cX4_writeColumn 33 = .ok (.aload_n 0, 1) := by decide +kernel
theorem dX4_writeColumn_34 : decode cX4_writeColumn 34 = .ok (.iload_n 1, 1) := by decide +kernel
theorem dX4_writeColumn_35 : decode cX4_writeColumn 35 = .ok (.iload 4, 2) := by decide +kernel
theorem dX4_writeColumn_37 : decode cX4_writeColumn 37 = .ok (.iload 5, 2) := by decide +kernel
theorem dX4_writeColumn_39 : decode cX4_writeColumn 39 = .ok (.invokevirtual 40, 3) := by decide +kernel
theorem dX4_writeColumn_42 : decode cX4_writeColumn 42 = .ok (.return_, 1) := by decide +kernel
set_option maxRecDepth 20000 in
theorem ggX4_erase_X4_write : GoodIn wsX4_erase wsX4_write := goodIn_r _ [5, 6, 7, 8, 9, 10, 11] (by decide +kernel) (by decide +kernel)
set_option maxRecDepth 20000 in
theorem gX4_erase_X4_write : GoodIn wsX4_erase (wsV RX4 40 RX4 yX4_write wsX4_write) := goodIn_app (goodIn_of _ (by decide +kernel)) ggX4_erase_X4_write
theorem dX4_erase_0 : decode cX4_erase 0 = .ok (.aload_n 0, 1) := by decide +kernel
theorem dX4_erase_1 : decode cX4_erase 1 = .ok (.iload_n 1, 1) := by decide +kernel
theorem dX4_erase_2 : decode cX4_erase 2 = .ok (.bipush (-2), 2) := by decide +kernel
theorem dX4_erase_4 : decode cX4_erase 4 = .ok (.bipush (-2), 2) := by decide +kernel
theorem dX4_erase_6 : decode cX4_erase 6 = .ok (.invokevirtual 40, 3) := by decide +kernel
theorem dX4_erase_9 : decode cX4_erase 9 = .ok (.return_, 1) := by decide +kernel
set_option maxRecDepth 20000 in
theorem ggX4_undoTo_X4_restore : GoodIn wsX4_undoTo wsX4_restore := goodIn_r _ [7, 8, 9, 10, 11] (by decide +kernel) (by decide +kernel)
set_option maxRecDepth 20000 in
theorem gX4_undoTo_X4_restore : GoodIn wsX4_undoTo (wsV RX4 44 RX4 yX4_restore wsX4_restore) := goodIn_app (goodIn_of _ (by decide +kernel)) ggX4_undoTo_X4_restore
theorem dX4_undoTo_0 : decode cX4_undoTo 0 = .ok (.iconst 0, 1) := by decide +kernel
theorem dX4_undoTo_1 : decode cX4_undoTo 1 = .ok (.istore_n 2, 1) := by decide +kernel
theorem dX4_undoTo_2 : decode cX4_undoTo 2 = .ok (.aload_n 0, 1) := by decide +kernel
theorem dX4_undoTo_3 : decode cX4_undoTo 3 = .ok (.getfield 18, 3) := by decide +kernel
theorem dX4_undoTo_6 : decode cX4_undoTo 6 = .ok (.iload_n 1, 1) := by decide +kernel
theorem dX4_undoTo_7 : decode cX4_undoTo 7 = .ok (.if_icmp .le 51, 3) := by decide +kernel
theorem dX4_undoTo_10 : decode cX4_undoTo 10 = .ok (.aload_n 0, 1) := by decide +kernel
theorem dX4_undoTo_11 : decode cX4_undoTo 11 = .ok (.getfield 18, 3) := by decide +kernel
theorem dX4_undoTo_14 : decode cX4_undoTo 14 = .ok (.ifCond .le 44, 3) := by decide +kernel
theorem dX4_undoTo_17 : decode cX4_undoTo 17 = .ok (.aload_n 0, 1) := by decide +kernel
theorem dX4_undoTo_18 : decode cX4_undoTo 18 = .ok (.getfield 18, 3) := by decide +kernel
theorem dX4_undoTo_21 : decode cX4_undoTo 21 = .ok (.aload_n 0, 1) := by decide +kernel
theorem dX4_undoTo_22 : decode cX4_undoTo 22 = .ok (.getfield 15, 3) := by decide +kernel
theorem dX4_undoTo_25 : decode cX4_undoTo 25 = .ok (.arraylength, 1) := by decide +kernel
theorem dX4_undoTo_26 : decode cX4_undoTo 26 = .ok (.if_icmp .gt 32, 3) := by decide +kernel
theorem dX4_undoTo_29 : decode cX4_undoTo 29 = .ok (.aload_n 0, 1) := by decide +kernel
theorem dX4_undoTo_30 : decode cX4_undoTo 30 = .ok (.dup, 1) := by decide +kernel
theorem dX4_undoTo_31 : decode cX4_undoTo 31 = .ok (.getfield 18, 3) := by decide +kernel
theorem dX4_undoTo_34 : decode cX4_undoTo 34 = .ok (.iconst 1, 1) := by decide +kernel
theorem dX4_undoTo_35 : decode cX4_undoTo 35 = .ok (.isub, 1) := by decide +kernel
theorem dX4_undoTo_36 : decode cX4_undoTo 36 = .ok (.putfield 18, 3) := by decide +kernel
theorem dX4_undoTo_39 : decode cX4_undoTo 39 = .ok (.aload_n 0, 1) := by decide +kernel
theorem dX4_undoTo_40 : decode cX4_undoTo 40 = .ok (.aload_n 0, 1) := by decide +kernel
theorem dX4_undoTo_41 : decode cX4_undoTo 41 = .ok (.getfield 15, 3) := by decide +kernel
theorem dX4_undoTo_44 : decode cX4_undoTo 44 = .ok (.aload_n 0, 1) := by decide +kernel
theorem dX4_undoTo_45 : decode cX4_undoTo 45 = .ok (.getfield 18, 3) := by decide +kernel
theorem dX4_undoTo_48 : decode cX4_undoTo 48 = .ok (.iaload, 1) := by decide +kernel
theorem dX4_undoTo_49 : decode cX4_undoTo 49 = .ok (.invokevirtual 44, 3) := by decide +kernel
theorem dX4_undoTo_52 : decode cX4_undoTo 52 = .ok (.iinc 2 1, 3) := by decide +kernel
theorem dX4_undoTo_55 : decode cX4_undoTo 55 = .ok (.goto (-53), 3) := by decide +kernel
theorem dX4_undoTo_58 : decode cX4_undoTo 58 = .ok (.iload_n 2, 1) := by decide +kernel
theorem dX4_undoTo_59 : decode cX4_undoTo 59 = .ok (.ireturn, 1) := by decide +kernel
theorem dX4_forgetChanges_0 : decode cX4_forgetChanges 0 = .ok (.aload_n 0, 1) := by decide +kernel
theorem dX4_forgetChanges_1 : decode cX4_forgetChanges 1 = .ok (.iconst 0, 1) := by decide +kernel
theorem dX4_forgetChanges_2 : decode cX4_forgetChanges 2 = .ok (.putfield 18, 3) := by decide +kernel
theorem dX4_forgetChanges_5 : decode cX4_forgetChanges 5 = .ok (.return_, 1) := by decide +kernel
theorem dX4_restore_0 : decode cX4_restore 0 = .ok (.iload_n 1, 1) := by decide +kernel
theorem dX4_restore_1 : decode cX4_restore 1 = .ok (.bipush 10, 2) := by decide +kernel
theorem dX4_restore_3 : decode cX4_restore 3 = .ok (.ishr, 1) := by decide +kernel
theorem dX4_restore_4 : decode cX4_restore 4 = .ok (.istore_n 2, 1) := by decide +kernel
theorem dX4_restore_5 : decode cX4_restore 5 = .ok (.iload_n 2, 1) := by decide +kernel
theorem dX4_restore_6 : decode cX4_restore 6 = .ok (.ifCond .lt 43, 3) := by decide +kernel
theorem dX4_restore_9 : decode cX4_restore 9 = .ok (.iload_n 2, 1) := by decide +kernel
theorem dX4_restore_10 : decode cX4_restore 10 = .ok (.bipush 80, 2) := by decide +kernel
theorem dX4_restore_12 : decode cX4_restore 12 = .ok (.if_icmp .ge 37, 3) := by decide +kernel
theorem dX4_restore_15 : decode cX4_restore 15 = .ok (.aload_n 0, 1) := by decide +kernel
theorem dX4_restore_16 : decode cX4_restore 16 = .ok (.getfield 9, 3) := by decide +kernel
theorem dX4_restore_19 : decode cX4_restore 19 = .ok (.iload_n 2, 1) := by decide +kernel
theorem dX4_restore_20 : decode cX4_restore 20 = .ok (.iconst 2, 1) := by decide +kernel
theorem dX4_restore_21 : decode cX4_restore 21 = .ok (.imul, 1) := by decide +kernel
theorem dX4_restore_22 : decode cX4_restore 22 = .ok (.iload_n 1, 1) := by decide +kernel
theorem dX4_restore_23 : decode cX4_restore 23 = .ok (.iconst 5, 1) := by decide +kernel
theorem dX4_restore_24 : decode cX4_restore 24 = .ok (.ishr, 1) := by decide +kernel
theorem dX4_restore_25 : decode cX4_restore 25 = .ok (.bipush 31, 2) := by decide +kernel
theorem dX4_restore_27 : decode cX4_restore 27 = .ok (.iand, 1) := by decide +kernel
theorem dX4_restore_28 : decode cX4_restore 28 = .ok (.bipush (-2), 2) := by decide +kernel
theorem dX4_restore_30 : decode cX4_restore 30 = .ok (.iadd, 1) := by decide +kernel
theorem dX4_restore_31 : decode cX4_restore 31 = .ok (.iastore, 1) := by decide +kernel
theorem dX4_restore_32 : decode cX4_restore 32 = .ok (.aload_n 0, 1) := by decide +kernel
theorem dX4_restore_33 : decode cX4_restore 33 = .ok (.getfield 9, 3) := by decide +kernel
theorem dX4_restore_36 : decode cX4_restore 36 = .ok (.iload_n 2, 1) := by decide +kernel
theorem dX4_restore_37 : decode cX4_restore 37 = .ok (.iconst 2, 1) := by decide +kernel
theorem dX4_restore_38 : decode cX4_restore 38 = .ok (.imul, 1) := by decide +kernel
theorem dX4_restore_39 : decode cX4_restore 39 = .ok (.iconst 1, 1) := by decide +kernel
theorem dX4_restore_40 : decode cX4_restore 40 = .ok (.iadd, 1) := by decide +kernel
theorem dX4_restore_41 : decode cX4_restore 41 = .ok (.iload_n 1, 1) := by decide +kernel
theorem dX4_restore_42 : decode cX4_restore 42 = .ok (.bipush 31, 2) := by decide +kernel
theorem dX4_restore_44 : decode cX4_restore 44 = .ok (.iand, 1) := by decide +kernel
theorem dX4_restore_45 : decode cX4_restore 45 = .ok (.bipush (-2), 2) := by decide +kernel
theorem dX4_restore_47 : decode cX4_restore 47 = .ok (.iadd, 1) := by decide +kernel
theorem dX4_restore_48 : decode cX4_restore 48 = .ok (.iastore, 1) := by decide +kernel
theorem dX4_restore_49 : decode cX4_restore 49 = .ok (.return_, 1) := by decide +kernel
theorem dX5_init_0 : decode cX5_init 0 = .ok (.aload_n 0, 1) := by decide +kernel
theorem dX5_init_1 : decode cX5_init 1 = .ok (.invokespecial 3, 3) := by decide +kernel
theorem dX5_init_4 : decode cX5_init 4 = .ok (.aload_n 0, 1) := by decide +kernel
theorem dX5_init_5 : decode cX5_init 5 = .ok (.iconst 4, 1) := by decide +kernel
theorem dX5_init_6 : decode cX5_init 6 = .ok (.newarray .int, 2) := by decide +kernel
theorem dX5_init_8 : decode cX5_init 8 = .ok (.putfield 9, 3) := by decide +kernel
theorem dX5_init_11 : decode cX5_init 11 = .ok (.aload_n 0, 1) := by decide +kernel
theorem dX5_init_12 : decode cX5_init 12 = .ok (.iconst 0, 1) := by decide +kernel
theorem dX5_init_13 : decode cX5_init 13 = .ok (.putfield 15, 3) := by decide +kernel
theorem dX5_init_16 : decode cX5_init 16 = .ok (.return_, 1) := by decide +kernel
theorem dX5_count_0 : decode cX5_count 0 = .ok (.aload_n 0, 1) := by decide +kernel
theorem dX5_count_1 : decode cX5_count 1 = .ok (.getfield 15, 3) := by decide +kernel
theorem dX5_count_4 : decode cX5_count 4 = .ok (.ireturn, 1) := by decide +kernel
theorem dX5_add_0 : decode cX5_add 0 = .ok (.aload_n 0, 1) := by decide +kernel
theorem dX5_add_1 : decode cX5_add 1 = .ok (.getfield 15, 3) := by decide +kernel
theorem dX5_add_4 : decode cX5_add 4 = .ok (.iconst 4, 1) := by decide +kernel
theorem dX5_add_5 : decode cX5_add 5 = .ok (.if_icmp .ge 23, 3) := by decide +kernel
theorem dX5_add_8 : decode cX5_add 8 = .ok (.aload_n 0, 1) := by decide +kernel
theorem dX5_add_9 : decode cX5_add 9 = .ok (.getfield 9, 3) := by decide +kernel
theorem dX5_add_12 : decode cX5_add 12 = .ok (.aload_n 0, 1) := by decide +kernel
theorem dX5_add_13 : decode cX5_add 13 = .ok (.getfield 15, 3) := by decide +kernel
theorem dX5_add_16 : decode cX5_add 16 = .ok (.iload_n 1, 1) := by decide +kernel
theorem dX5_add_17 : decode cX5_add 17 = .ok (.iastore, 1) := by decide +kernel
theorem dX5_add_18 : decode cX5_add 18 = .ok (.aload_n 0, 1) := by decide +kernel
theorem dX5_add_19 : decode cX5_add 19 = .ok (.dup, 1) := by decide +kernel
theorem dX5_add_20 : decode cX5_add 20 = .ok (.getfield 15, 3) := by decide +kernel
theorem dX5_add_23 : decode cX5_add 23 = .ok (.iconst 1, 1) := by decide +kernel
theorem dX5_add_24 : decode cX5_add 24 = .ok (.iadd, 1) := by decide +kernel
theorem dX5_add_25 : decode cX5_add 25 = .ok (.putfield 15, 3) := by decide +kernel
theorem dX5_add_28 : decode cX5_add 28 = .ok (.return_, 1) := by decide +kernel
theorem dX5_changesAt_0 : decode cX5_changesAt 0 = .ok (.iload_n 1, 1) := by decide +kernel
theorem dX5_changesAt_1 : decode cX5_changesAt 1 = .ok (.ifCond .lt 17, 3) := by decide +kernel
theorem dX5_changesAt_4 : decode cX5_changesAt 4 = .ok (.iload_n 1, 1) := by decide +kernel
theorem dX5_changesAt_5 : decode cX5_changesAt 5 = .ok (.iconst 4, 1) := by decide +kernel
theorem dX5_changesAt_6 : decode cX5_changesAt 6 = .ok (.if_icmp .ge 12, 3) := by decide +kernel
theorem dX5_changesAt_9 : decode cX5_changesAt 9 = .ok (.aload_n 0, 1) := by decide +kernel
theorem dX5_changesAt_10 : decode cX5_changesAt 10 = .ok (.getfield 9, 3) := by decide +kernel
theorem dX5_changesAt_13 : decode cX5_changesAt 13 = .ok (.iload_n 1, 1) := by decide +kernel
theorem dX5_changesAt_14 : decode cX5_changesAt 14 = .ok (.iaload, 1) := by decide +kernel
theorem dX5_changesAt_15 : decode cX5_changesAt 15 = .ok (.goto 4, 3) := by decide +kernel
theorem dX5_changesAt_18 : decode cX5_changesAt 18 = .ok (.iconst 0, 1) := by decide +kernel
theorem dX5_changesAt_19 : decode cX5_changesAt 19 = .ok (.ireturn, 1) := by decide +kernel
theorem dX5_cutTo_0 : decode cX5_cutTo 0 = .ok (.aload_n 0, 1) := by decide +kernel
theorem dX5_cutTo_1 : decode cX5_cutTo 1 = .ok (.iload_n 1, 1) := by decide +kernel
theorem dX5_cutTo_2 : decode cX5_cutTo 2 = .ok (.putfield 15, 3) := by decide +kernel
theorem dX5_cutTo_5 : decode cX5_cutTo 5 = .ok (.return_, 1) := by decide +kernel
theorem dX6_init_0 : decode cX6_init 0 = .ok (.aload_n 0, 1) := by decide +kernel
theorem dX6_init_1 : decode cX6_init 1 = .ok (.invokespecial 3, 3) := by decide +kernel
theorem dX6_init_4 : decode cX6_init 4 = .ok (.aload_n 0, 1) := by decide +kernel
theorem dX6_init_5 : decode cX6_init 5 = .ok (.bipush 80, 2) := by decide +kernel
theorem dX6_init_7 : decode cX6_init 7 = .ok (.newarray .char, 2) := by decide +kernel
theorem dX6_init_9 : decode cX6_init 9 = .ok (.putfield 9, 3) := by decide +kernel
theorem dX6_init_12 : decode cX6_init 12 = .ok (.aload_n 0, 1) := by decide +kernel
theorem dX6_init_13 : decode cX6_init 13 = .ok (.iconst 0, 1) := by decide +kernel
theorem dX6_init_14 : decode cX6_init 14 = .ok (.putfield 15, 3) := by decide +kernel
theorem dX6_init_17 : decode cX6_init 17 = .ok (.aload_n 0, 1) := by decide +kernel
theorem dX6_init_18 : decode cX6_init 18 = .ok (.iconst 0, 1) := by decide +kernel
theorem dX6_init_19 : decode cX6_init 19 = .ok (.putfield 19, 3) := by decide +kernel
theorem dX6_init_22 : decode cX6_init 22 = .ok (.aload_n 0, 1) := by decide +kernel
theorem dX6_init_23 : decode cX6_init 23 = .ok (.iconst (-1), 1) := by decide +kernel
theorem dX6_init_24 : decode cX6_init 24 = .ok (.putfield 22, 3) := by decide +kernel
theorem dX6_init_27 : decode cX6_init 27 = .ok (.aload_n 0, 1) := by decide +kernel
theorem dX6_init_28 : decode cX6_init 28 = .ok (.iconst 4, 1) := by decide +kernel
theorem dX6_init_29 : decode cX6_init 29 = .ok (.newarray .int, 2) := by decide +kernel
theorem dX6_init_31 : decode cX6_init 31 = .ok (.putfield 25, 3) := by decide +kernel
theorem dX6_init_34 : decode cX6_init 34 = .ok (.aload_n 0, 1) := by decide +kernel
theorem dX6_init_35 : decode cX6_init 35 = .ok (.iconst 0, 1) := by decide +kernel
theorem dX6_init_36 : decode cX6_init 36 = .ok (.putfield 29, 3) := by decide +kernel
theorem dX6_init_39 : decode cX6_init 39 = .ok (.return_, 1) := by decide +kernel
