set_option maxRecDepth 20000 in
theorem ggX8_rollBackTo_X8_in : GoodIn wsX8_rollBackTo wsX8_in := goodIn_r _ [6] (by decide +kernel) (by decide +kernel)
set_option maxRecDepth 20000 in
theorem gX8_rollBackTo_X8_in : GoodIn wsX8_rollBackTo (va_wsS RX8 49 yX8_in wsX8_in) := goodIn_app (goodIn_of _ (by decide +kernel)) ggX8_rollBackTo_X8_in
set_option maxRecDepth 20000 in
theorem ggX8_rollBackTo_X8_goes : GoodIn wsX8_rollBackTo wsX8_goes := goodIn_r _ [10, 11, 20, 21, 22, 23, 24, 25, 26, 27, 28, 29, 30, 31, 32, 33, 34, 35, 36, 37, 38, 39] (by decide +kernel) (by decide +kernel)
set_option maxRecDepth 20000 in
theorem gX8_rollBackTo_X8_goes : GoodIn wsX8_rollBackTo (wsV RX8 88 RX8 yX8_goes wsX8_goes) := goodIn_app (goodIn_of _ (by decide +kernel)) ggX8_rollBackTo_X8_goes
set_option maxRecDepth 20000 in
theorem ggX8_rollBackTo_X8_undoes : GoodIn wsX8_rollBackTo wsX8_undoes := goodIn_r _ [15, 16, 17, 18, 19, 20, 21, 22, 23, 24, 25, 26, 27, 28, 29, 30, 31, 32, 33, 34, 35, 36, 37, 38, 39] (by decide +kernel) (by decide +kernel)
set_option maxRecDepth 20000 in
theorem gX8_rollBackTo_X8_undoes : GoodIn wsX8_rollBackTo (wsV RX8 78 RX8 yX8_undoes wsX8_undoes) := goodIn_app (goodIn_of _ (by decide +kernel)) ggX8_rollBackTo_X8_undoes
theorem dX8_rollBackTo_0 : decode cX8_rollBackTo 0 = .ok (.aload_n 0, 1) := by decide +kernel
theorem dX8_rollBackTo_1 : decode cX8_rollBackTo 1 = .ok (.iload_n 1, 1) := by decide +kernel
theorem dX8_rollBackTo_2 : decode cX8_rollBackTo 2 = .ok (.iconst 0, 1) := by decide +kernel
theorem dX8_rollBackTo_3 : decode cX8_rollBackTo 3 = .ok (.aload_n 0, 1) := by decide +kernel
theorem dX8_rollBackTo_4 : decode cX8_rollBackTo 4 = .ok (.getfield 136, 3) := by decide +kernel
theorem dX8_rollBackTo_7 : decode cX8_rollBackTo 7 = .ok (.iconst 1, 1) := by decide +kernel
theorem dX8_rollBackTo_8 : decode cX8_rollBackTo 8 = .ok (.isub, 1) := by decide +kernel
theorem dX8_rollBackTo_9 : decode cX8_rollBackTo 9 = .ok (.invokestatic 49, 3) := by decide +kernel
theorem dX8_rollBackTo_12 : decode cX8_rollBackTo 12 = .ok (.iconst 1, 1) := by decide +kernel
theorem dX8_rollBackTo_13 : decode cX8_rollBackTo 13 = .ok (.iconst 1, 1) := by decide +kernel
theorem dX8_rollBackTo_14 : decode cX8_rollBackTo 14 = .ok (.invokevirtual 88, 3) := by decide +kernel
theorem dX8_rollBackTo_17 : decode cX8_rollBackTo 17 = .ok (.ifCond .ne 5, 3) := by decide +kernel
theorem dX8_rollBackTo_20 : decode cX8_rollBackTo 20 = .ok (.iconst 0, 1) := by decide +kernel
theorem dX8_rollBackTo_21 : decode cX8_rollBackTo 21 = .ok (.ireturn, 1) := by decide +kernel
theorem dX8_rollBackTo_22 : decode cX8_rollBackTo 22 = .ok (.aload_n 0, 1) := by decide +kernel
theorem dX8_rollBackTo_23 : decode cX8_rollBackTo 23 = .ok (.iload_n 1, 1) := by decide +kernel
theorem dX8_rollBackTo_24 : decode cX8_rollBackTo 24 = .ok (.iconst 1, 1) := by decide +kernel
theorem dX8_rollBackTo_25 : decode cX8_rollBackTo 25 = .ok (.iadd, 1) := by decide +kernel
theorem dX8_rollBackTo_26 : decode cX8_rollBackTo 26 = .ok (.putfield 136, 3) := by decide +kernel
theorem dX8_rollBackTo_29 : decode cX8_rollBackTo 29 = .ok (.aload_n 0, 1) := by decide +kernel
theorem dX8_rollBackTo_30 : decode cX8_rollBackTo 30 = .ok (.aload_n 0, 1) := by decide +kernel
theorem dX8_rollBackTo_31 : decode cX8_rollBackTo 31 = .ok (.getfield 32, 3) := by decide +kernel
theorem dX8_rollBackTo_34 : decode cX8_rollBackTo 34 = .ok (.iload_n 1, 1) := by decide +kernel
theorem dX8_rollBackTo_35 : decode cX8_rollBackTo 35 = .ok (.iaload, 1) := by decide +kernel
theorem dX8_rollBackTo_36 : decode cX8_rollBackTo 36 = .ok (.invokevirtual 78, 3) := by decide +kernel
theorem dX8_rollBackTo_39 : decode cX8_rollBackTo 39 = .ok (.ireturn, 1) := by decide +kernel
set_option maxRecDepth 20000 in
theorem ggX8_appendText_X8_in : GoodIn wsX8_appendText wsX8_in := goodIn_r _ [6] (by decide +kernel) (by decide +kernel)
set_option maxRecDepth 20000 in
theorem gX8_appendText_X8_in : GoodIn wsX8_appendText (va_wsS RX8 49 yX8_in wsX8_in) := goodIn_app (goodIn_of _ (by decide +kernel)) ggX8_appendText_X8_in
set_option maxRecDepth 20000 in
theorem ggX8_appendText_X8_goes : GoodIn wsX8_appendText wsX8_goes := goodIn_r _ [10, 11, 12, 13, 14, 15, 16, 17, 18, 19, 20, 21, 22, 23, 24, 25, 26, 27, 28, 29, 30, 31] (by decide +kernel) (by decide +kernel)
set_option maxRecDepth 20000 in
theorem gX8_appendText_X8_goes : GoodIn wsX8_appendText (wsV RX8 88 RX8 yX8_goes wsX8_goes) := goodIn_app (goodIn_of _ (by decide +kernel)) ggX8_appendText_X8_goes
theorem dX8_appendText_0 : decode cX8_appendText 0 = .ok (.aload_n 0, 1) := by decide +kernel
theorem dX8_appendText_1 : decode cX8_appendText 1 = .ok (.iload_n 1, 1) := by decide +kernel
theorem dX8_appendText_2 : decode cX8_appendText 2 = .ok (.bipush 32, 2) := by decide +kernel
theorem dX8_appendText_4 : decode cX8_appendText 4 = .ok (.bipush 126, 2) := by decide +kernel
theorem dX8_appendText_6 : decode cX8_appendText 6 = .ok (.invokestatic 49, 3) := by decide +kernel
theorem dX8_appendText_9 : decode cX8_appendText 9 = .ok (.aload_n 0, 1) := by decide +kernel
theorem dX8_appendText_10 : decode cX8_appendText 10 = .ok (.getfield 139, 3) := by decide +kernel
theorem dX8_appendText_13 : decode cX8_appendText 13 = .ok (.bipush 80, 2) := by decide +kernel
theorem dX8_appendText_15 : decode cX8_appendText 15 = .ok (.if_icmp .ge 7, 3) := by decide +kernel
theorem dX8_appendText_18 : decode cX8_appendText 18 = .ok (.iconst 1, 1) := by decide +kernel
theorem dX8_appendText_19 : decode cX8_appendText 19 = .ok (.goto 4, 3) := by decide +kernel
theorem dX8_appendText_22 : decode cX8_appendText 22 = .ok (.iconst 0, 1) := by decide +kernel
theorem dX8_appendText_23 : decode cX8_appendText 23 = .ok (.iconst 1, 1) := by decide +kernel
theorem dX8_appendText_24 : decode cX8_appendText 24 = .ok (.invokevirtual 88, 3) := by decide +kernel
theorem dX8_appendText_27 : decode cX8_appendText 27 = .ok (.ifCond .ne 5, 3) := by decide +kernel
theorem dX8_appendText_30 : decode cX8_appendText 30 = .ok (.iconst 0, 1) := by decide +kernel
theorem dX8_appendText_31 : decode cX8_appendText 31 = .ok (.ireturn, 1) := by decide +kernel
theorem dX8_appendText_32 : decode cX8_appendText 32 = .ok (.aload_n 0, 1) := by decide +kernel
theorem dX8_appendText_33 : decode cX8_appendText 33 = .ok (.getfield 35, 3) := by decide +kernel
theorem dX8_appendText_36 : decode cX8_appendText 36 = .ok (.aload_n 0, 1) := by decide +kernel
theorem dX8_appendText_37 : decode cX8_appendText 37 = .ok (.getfield 139, 3) := by decide +kernel
theorem dX8_appendText_40 : decode cX8_appendText 40 = .ok (.iload_n 1, 1) := by decide +kernel
theorem dX8_appendText_41 : decode cX8_appendText 41 = .ok (.i2c, 1) := by decide +kernel
theorem dX8_appendText_42 : decode cX8_appendText 42 = .ok (.castore, 1) := by decide +kernel
theorem dX8_appendText_43 : decode cX8_appendText 43 = .ok (.aload_n 0, 1) := by decide +kernel
theorem dX8_appendText_44 : decode cX8_appendText 44 = .ok (.dup, 1) := by decide +kernel
theorem dX8_appendText_45 : decode cX8_appendText 45 = .ok (.getfield 139, 3) := by decide +kernel
theorem dX8_appendText_48 : decode cX8_appendText 48 = .ok (.iconst 1, 1) := by decide +kernel
theorem dX8_appendText_49 : decode cX8_appendText 49 = .ok (.iadd, 1) := by decide +kernel
theorem dX8_appendText_50 : decode cX8_appendText 50 = .ok (.putfield 139, 3) := by decide +kernel
theorem dX8_appendText_53 : decode cX8_appendText 53 = .ok (.aload_n 0, 1) := by decide +kernel
theorem dX8_appendText_54 : decode cX8_appendText 54 = .ok (.getfield 139, 3) := by decide +kernel
theorem dX8_appendText_57 : decode cX8_appendText 57 = .ok (.ireturn, 1) := by decide +kernel
theorem dX8_clearText_0 : decode cX8_clearText 0 = .ok (.aload_n 0, 1) := by decide +kernel
theorem dX8_clearText_1 : decode cX8_clearText 1 = .ok (.iconst 0, 1) := by decide +kernel
theorem dX8_clearText_2 : decode cX8_clearText 2 = .ok (.putfield 45, 3) := by decide +kernel
theorem dX8_clearText_5 : decode cX8_clearText 5 = .ok (.aload_n 0, 1) := by decide +kernel
theorem dX8_clearText_6 : decode cX8_clearText 6 = .ok (.getfield 139, 3) := by decide +kernel
theorem dX8_clearText_9 : decode cX8_clearText 9 = .ok (.istore_n 1, 1) := by decide +kernel
theorem dX8_clearText_10 : decode cX8_clearText 10 = .ok (.aload_n 0, 1) := by decide +kernel
theorem dX8_clearText_11 : decode cX8_clearText 11 = .ok (.iconst 0, 1) := by decide +kernel
theorem dX8_clearText_12 : decode cX8_clearText 12 = .ok (.putfield 139, 3) := by decide +kernel
theorem dX8_clearText_15 : decode cX8_clearText 15 = .ok (.iload_n 1, 1) := by decide +kernel
theorem dX8_clearText_16 : decode cX8_clearText 16 = .ok (.ireturn, 1) := by decide +kernel
set_option maxRecDepth 20000 in
theorem ggX8_isHere_X8_in : GoodIn wsX8_isHere wsX8_in := goodIn_r _ [7] (by decide +kernel) (by decide +kernel)
set_option maxRecDepth 20000 in
theorem gX8_isHere_X8_in : GoodIn wsX8_isHere (va_wsS RX8 49 yX8_in wsX8_in) := goodIn_app (goodIn_of _ (by decide +kernel)) ggX8_isHere_X8_in
theorem dX8_isHere_0 : decode cX8_isHere 0 = .ok (.aload_n 0, 1) := by decide +kernel
theorem dX8_isHere_1 : decode cX8_isHere 1 = .ok (.getfield 142, 3) := by decide +kernel
theorem dX8_isHere_4 : decode cX8_isHere 4 = .ok (.aload_n 0, 1) := by decide +kernel
theorem dX8_isHere_5 : decode cX8_isHere 5 = .ok (.getfield 139, 3) := by decide +kernel
theorem dX8_isHere_8 : decode cX8_isHere 8 = .ok (.if_icmp .ge 24, 3) := by decide +kernel
theorem dX8_isHere_11 : decode cX8_isHere 11 = .ok (.aload_n 0, 1) := by decide +kernel
theorem dX8_isHere_12 : decode cX8_isHere 12 = .ok (.getfield 35, 3) := by decide +kernel
theorem dX8_isHere_15 : decode cX8_isHere 15 = .ok (.aload_n 0, 1) := by decide +kernel
theorem dX8_isHere_16 : decode cX8_isHere 16 = .ok (.getfield 142, 3) := by decide +kernel
theorem dX8_isHere_19 : decode cX8_isHere 19 = .ok (.caload, 1) := by decide +kernel
theorem dX8_isHere_20 : decode cX8_isHere 20 = .ok (.iload_n 1, 1) := by decide +kernel
theorem dX8_isHere_21 : decode cX8_isHere 21 = .ok (.iload_n 2, 1) := by decide +kernel
theorem dX8_isHere_22 : decode cX8_isHere 22 = .ok (.invokestatic 49, 3) := by decide +kernel
theorem dX8_isHere_25 : decode cX8_isHere 25 = .ok (.ifCond .eq 7, 3) := by decide +kernel
theorem dX8_isHere_28 : decode cX8_isHere 28 = .ok (.iconst 1, 1) := by decide +kernel
theorem dX8_isHere_29 : decode cX8_isHere 29 = .ok (.goto 4, 3) := by decide +kernel
theorem dX8_isHere_32 : decode cX8_isHere 32 = .ok (.iconst 0, 1) := by decide +kernel
theorem dX8_isHere_33 : decode cX8_isHere 33 = .ok (.ireturn, 1) := by decide +kernel
set_option maxRecDepth 20000 in
theorem ggX8_takes_X8_isHere : GoodIn wsX8_takes wsX8_isHere := goodIn_r _ [6, 1, 7, 8, 9, 10, 5, 11, 12, 13, 14, 15, 16, 17, 18, 19, 20, 21, 22, 23, 24, 25, 26, 27, 28, 29, 30, 31] (by decide +kernel) (by decide +kernel)
set_option maxRecDepth 20000 in
theorem gX8_takes_X8_isHere : GoodIn wsX8_takes (wsV RX8 145 RX8 yX8_isHere wsX8_isHere) := goodIn_app (goodIn_of _ (by decide +kernel)) ggX8_takes_X8_isHere
theorem dX8_takes_0 : decode cX8_takes 0 = .ok (.aload_n 0, 1) := by decide +kernel
theorem dX8_takes_1 : decode cX8_takes 1 = .ok (.iload_n 1, 1) := by decide +kernel
theorem dX8_takes_2 : decode cX8_takes 2 = .ok (.iload_n 1, 1) := by decide +kernel
theorem dX8_takes_3 : decode cX8_takes 3 = .ok (.invokevirtual 145, 3) := by decide +kernel
theorem dX8_takes_6 : decode cX8_takes 6 = .ok (.istore_n 2, 1) := by decide +kernel
theorem dX8_takes_7 : decode cX8_takes 7 = .ok (.aload_n 0, 1) := by decide +kernel
theorem dX8_takes_8 : decode cX8_takes 8 = .ok (.dup, 1) := by decide +kernel
theorem dX8_takes_9 : decode cX8_takes 9 = .ok (.getfield 142, 3) := by decide +kernel
theorem dX8_takes_12 : decode cX8_takes 12 = .ok (.iload_n 2, 1) := by decide +kernel
theorem dX8_takes_13 : decode cX8_takes 13 = .ok (.ifCond .eq 7, 3) := by decide +kernel
theorem dX8_takes_16 : decode cX8_takes 16 = .ok (.iconst 1, 1) := by decide +kernel
theorem dX8_takes_17 : decode cX8_takes 17 = .ok (.goto 4, 3) := by decide +kernel
theorem dX8_takes_20 : decode cX8_takes 20 = .ok (.iconst 0, 1) := by decide +kernel
theorem dX8_takes_21 : decode cX8_takes 21 = .ok (.iadd, 1) := by decide +kernel
theorem dX8_takes_22 : decode cX8_takes 22 = .ok (.putfield 142, 3) := by decide +kernel
theorem dX8_takes_25 : decode cX8_takes 25 = .ok (.iload_n 2, 1) := by decide +kernel
theorem dX8_takes_26 : decode cX8_takes 26 = .ok (.ireturn, 1) := by decide +kernel
set_option maxRecDepth 20000 in
theorem ggX8_digit_X8_isHere : GoodIn wsX8_digit wsX8_isHere := goodIn_r _ [7, 2, 8, 1, 9, 10, 6, 11, 12, 13, 14, 15, 16, 17, 18, 19, 20, 21, 22, 23, 24, 25, 26, 27, 28, 29, 30, 31] (by decide +kernel) (by decide +kernel)
set_option maxRecDepth 20000 in
theorem gX8_digit_X8_isHere : GoodIn wsX8_digit (wsV RX8 145 RX8 yX8_isHere wsX8_isHere) := goodIn_app (goodIn_of _ (by decide +kernel)) ggX8_digit_X8_isHere
theorem dX8_digit_0 : decode cX8_digit 0 = .ok (.aload_n 0, 1) := by decide +kernel
theorem dX8_digit_1 : decode cX8_digit 1 = .ok (.bipush 48, 2) := by decide +kernel
theorem dX8_digit_3 : decode cX8_digit 3 = .ok (.iload_n 1, 1) := by decide +kernel
theorem dX8_digit_4 : decode cX8_digit 4 = .ok (.invokevirtual 145, 3) := by decide +kernel
theorem dX8_digit_7 : decode cX8_digit 7 = .ok (.ifCond .eq 18, 3) := by decide +kernel
theorem dX8_digit_10 : decode cX8_digit 10 = .ok (.aload_n 0, 1) := by decide +kernel
theorem dX8_digit_11 : decode cX8_digit 11 = .ok (.getfield 35, 3) := by decide +kernel
theorem dX8_digit_14 : decode cX8_digit 14 = .ok (.aload_n 0, 1) := by decide +kernel
theorem dX8_digit_15 : decode cX8_digit 15 = .ok (.getfield 142, 3) := by decide +kernel
theorem dX8_digit_18 : decode cX8_digit 18 = .ok (.caload, 1) := by decide +kernel
theorem dX8_digit_19 : decode cX8_digit 19 = .ok (.bipush 48, 2) := by decide +kernel
theorem dX8_digit_21 : decode cX8_digit 21 = .ok (.isub, 1) := by decide +kernel
theorem dX8_digit_22 : decode cX8_digit 22 = .ok (.goto 5, 3) := by decide +kernel
theorem dX8_digit_25 : decode cX8_digit 25 = .ok (.bipush (-2), 2) := by decide +kernel
theorem dX8_digit_27 : decode cX8_digit 27 = .ok (.istore_n 2, 1) := by decide +kernel
theorem dX8_digit_28 : decode cX8_digit 28 = .ok (.aload_n 0, 1) := by decide +kernel
theorem dX8_digit_29 : decode cX8_digit 29 = .ok (.dup, 1) := by decide +kernel
theorem dX8_digit_30 : decode cX8_digit 30 = .ok (.getfield 142, 3) := by decide +kernel
theorem dX8_digit_33 : decode cX8_digit 33 = .ok (.iload_n 2, 1) := by decide +kernel
theorem dX8_digit_34 : decode cX8_digit 34 = .ok (.bipush (-2), 2) := by decide +kernel
theorem dX8_digit_36 : decode cX8_digit 36 = .ok (.if_icmp .ne 7, 3) := by decide +kernel
theorem dX8_digit_39 : decode cX8_digit 39 = .ok (.iconst 0, 1) := by decide +kernel
theorem dX8_digit_40 : decode cX8_digit 40 = .ok (.goto 4, 3) := by decide +kernel
theorem dX8_digit_43 : decode cX8_digit 43 = .ok (.iconst 1, 1) := by decide +kernel
theorem dX8_digit_44 : decode cX8_digit 44 = .ok (.iadd, 1) := by decide +kernel
theorem dX8_digit_45 : decode cX8_digit 45 = .ok (.putfield 142, 3) := by decide +kernel
theorem dX8_digit_48 : decode cX8_digit 48 = .ok (.iload_n 2, 1) := by decide +kernel
theorem dX8_digit_49 : decode cX8_digit 49 = .ok (.ireturn, 1) := by decide +kernel
set_option maxRecDepth 20000 in
theorem ggX8_readsKey_X8_digit : GoodIn wsX8_readsKey wsX8_digit := goodIn_r _ [7, 1, 2, 8, 9, 10, 6, 11, 12, 13, 14, 15, 16, 17, 18, 19, 20, 21, 22, 23, 24, 25, 26, 27, 28, 29, 30, 31, 32, 33, 34, 35] (by decide +kernel) (by decide +kernel)
set_option maxRecDepth 20000 in
theorem gX8_readsKey_X8_digit : GoodIn wsX8_readsKey (wsV RX8 149 RX8 yX8_digit wsX8_digit) := goodIn_app (goodIn_of _ (by decide +kernel)) ggX8_readsKey_X8_digit
set_option maxRecDepth 20000 in
theorem ggX8_readsKey_X8_isHere : GoodIn wsX8_readsKey wsX8_isHere := goodIn_r _ [11, 2, 12, 1, 13, 14, 6, 15, 16, 17, 18, 19, 20, 21, 22, 23, 24, 25, 26, 27, 28, 29, 30, 31, 32, 33, 34, 35] (by decide +kernel) (by decide +kernel)
set_option maxRecDepth 20000 in
theorem gX8_readsKey_X8_isHere : GoodIn wsX8_readsKey (wsV RX8 145 RX8 yX8_isHere wsX8_isHere) := goodIn_app (goodIn_of _ (by decide +kernel)) ggX8_readsKey_X8_isHere
theorem dX8_readsKey_0 : decode cX8_readsKey 0 = .ok (.aload_n 0, 1) := by decide +kernel
theorem dX8_readsKey_1 : decode cX8_readsKey 1 = .ok (.bipush 57, 2) := by decide +kernel
theorem dX8_readsKey_3 : decode cX8_readsKey 3 = .ok (.invokevirtual 149, 3) := by decide +kernel
theorem dX8_readsKey_6 : decode cX8_readsKey 6 = .ok (.istore_n 1, 1) := by decide +kernel
theorem dX8_readsKey_7 : decode cX8_readsKey 7 = .ok (.iload_n 1, 1) := by decide +kernel
theorem dX8_readsKey_8 : decode cX8_readsKey 8 = .ok (.iconst 1, 1) := by decide +kernel
theorem dX8_readsKey_9 : decode cX8_readsKey 9 = .ok (.if_icmp .ne 40, 3) := by decide +kernel
theorem dX8_readsKey_12 : decode cX8_readsKey 12 = .ok (.aload_n 0, 1) := by decide +kernel
theorem dX8_readsKey_13 : decode cX8_readsKey 13 = .ok (.bipush 48, 2) := by decide +kernel
theorem dX8_readsKey_15 : decode cX8_readsKey 15 = .ok (.bipush 57, 2) := by decide +kernel
theorem dX8_readsKey_17 : decode cX8_readsKey 17 = .ok (.invokevirtual 145, 3) := by decide +kernel
theorem dX8_readsKey_20 : decode cX8_readsKey 20 = .ok (.ifCond .eq 29, 3) := by decide +kernel
theorem dX8_readsKey_23 : decode cX8_readsKey 23 = .ok (.bipush 10, 2) := by decide +kernel
theorem dX8_readsKey_25 : decode cX8_readsKey 25 = .ok (.aload_n 0, 1) := by decide +kernel
theorem dX8_readsKey_26 : decode cX8_readsKey 26 = .ok (.getfield 35, 3) := by decide +kernel
theorem dX8_readsKey_29 : decode cX8_readsKey 29 = .ok (.aload_n 0, 1) := by decide +kernel
theorem dX8_readsKey_30 : decode cX8_readsKey 30 = .ok (.getfield 142, 3) := by decide +kernel
theorem dX8_readsKey_33 : decode cX8_readsKey 33 = .ok (.caload, 1) := by decide +kernel
theorem dX8_readsKey_34 : decode cX8_readsKey 34 = .ok (.iadd, 1) := by decide +kernel
theorem dX8_readsKey_35 : decode cX8_readsKey 35 = .ok (.bipush 48, 2) := by decide +kernel
theorem dX8_readsKey_37 : decode cX8_readsKey 37 = .ok (.isub, 1) := by decide +kernel
theorem dX8_readsKey_38 : decode cX8_readsKey 38 = .ok (.istore_n 1, 1) := by decide +kernel
theorem dX8_readsKey_39 : decode cX8_readsKey 39 = .ok (.aload_n 0, 1) := by decide +kernel
theorem dX8_readsKey_40 : decode cX8_readsKey 40 = .ok (.dup, 1) := by decide +kernel
theorem dX8_readsKey_41 : decode cX8_readsKey 41 = .ok (.getfield 142, 3) := by decide +kernel
theorem dX8_readsKey_44 : decode cX8_readsKey 44 = .ok (.iconst 1, 1) := by decide +kernel
theorem dX8_readsKey_45 : decode cX8_readsKey 45 = .ok (.iadd, 1) := by decide +kernel
theorem dX8_readsKey_46 : decode cX8_readsKey 46 = .ok (.putfield 142, 3) := by decide +kernel
theorem dX8_readsKey_49 : decode cX8_readsKey 49 = .ok (.iload_n 1, 1) := by decide +kernel
theorem dX8_readsKey_50 : decode cX8_readsKey 50 = .ok (.ireturn, 1) := by decide +kernel
set_option maxRecDepth 20000 in
theorem ggX8_readsValue_X8_takes : GoodIn wsX8_readsValue wsX8_takes := goodIn_r _ [5, 6, 7, 8, 9, 4, 10, 11, 12, 13, 14, 15, 24, 25, 26, 27, 28, 29, 30, 31, 32, 33, 34, 35, 36, 37, 38, 39, 40, 41, 42, 43] (by decide +kernel) (by decide +kernel)
set_option maxRecDepth 20000 in
theorem gX8_readsValue_X8_takes : GoodIn wsX8_readsValue (wsV RX8 153 RX8 yX8_takes wsX8_takes) := goodIn_app (goodIn_of _ (by decide +kernel)) ggX8_readsValue_X8_takes
set_option maxRecDepth 20000 in
theorem ggX8_readsValue_X8_readsKey : GoodIn wsX8_readsValue wsX8_readsKey := goodIn_r _ [19, 12, 6, 20, 21, 22, 4, 23, 7, 8, 9, 10, 11, 13, 14, 15, 24, 25, 26, 27, 28, 29, 30, 31, 32, 33, 34, 35, 36, 37, 38, 39, 40, 41, 42, 43] (by decide +kernel) (by decide +kernel)
set_option maxRecDepth 20000 in
theorem gX8_readsValue_X8_readsKey : GoodIn wsX8_readsValue (wsV RX8 157 RX8 yX8_readsKey wsX8_readsKey) := goodIn_app (goodIn_of _ (by decide +kernel)) ggX8_readsValue_X8_readsKey
theorem dX8_readsValue_0 : decode cX8_readsValue 0 = .ok (.aload_n 0, 1) := by decide +kernel
theorem dX8_readsValue_1 : decode cX8_readsValue 1 = .ok (.bipush 110, 2) := by decide +kernel
theorem dX8_readsValue_3 : decode cX8_readsValue 3 = .ok (.invokevirtual 153, 3) := by decide +kernel
theorem dX8_readsValue_6 : decode cX8_readsValue 6 = .ok (.ifCond .eq 7, 3) := by decide +kernel
theorem dX8_readsValue_9 : decode cX8_readsValue 9 = .ok (.iconst (-1), 1) := by decide +kernel
theorem dX8_readsValue_10 : decode cX8_readsValue 10 = .ok (.goto 7, 3) := by decide +kernel
theorem dX8_readsValue_13 : decode cX8_readsValue 13 = .ok (.aload_n 0, 1) := by decide +kernel
theorem dX8_readsValue_14 : decode cX8_readsValue 14 = .ok (.invokevirtual 157, 3) := by decide +kernel
theorem dX8_readsValue_17 : decode cX8_readsValue 17 = .ok (.ireturn, 1) := by decide +kernel
set_option maxRecDepth 20000 in
theorem ggX8_readsRow_X8_digit : GoodIn wsX8_readsRow wsX8_digit := goodIn_r _ [7, 8, 9, 10, 11, 12, 6, 13, 14, 15, 16, 17, 26, 27, 28, 29, 30, 31, 32, 33, 34, 35, 36, 37, 38, 39, 40, 41, 42, 43, 44, 45] (by decide +kernel) (by decide +kernel)
set_option maxRecDepth 20000 in
theorem gX8_readsRow_X8_digit : GoodIn wsX8_readsRow (wsV RX8 149 RX8 yX8_digit wsX8_digit) := goodIn_app (goodIn_of _ (by decide +kernel)) ggX8_readsRow_X8_digit
set_option maxRecDepth 20000 in
theorem ggX8_readsRow_X8_takes : GoodIn wsX8_readsRow wsX8_takes := goodIn_r _ [21, 9, 10, 11, 12, 6, 13, 14, 8, 15, 16, 17, 26, 27, 28, 29, 30, 31, 32, 33, 34, 35, 36, 37, 38, 39, 40, 41, 42, 43, 44, 45] (by decide +kernel) (by decide +kernel)
set_option maxRecDepth 20000 in
theorem gX8_readsRow_X8_takes : GoodIn wsX8_readsRow (wsV RX8 153 RX8 yX8_takes wsX8_takes) := goodIn_app (goodIn_of _ (by decide +kernel)) ggX8_readsRow_X8_takes
set_option maxRecDepth 20000 in
theorem ggX8_readsRow_X8_readsKey : GoodIn wsX8_readsRow wsX8_readsKey := goodIn_r _ [25, 8, 9, 3, 4, 5, 6, 7, 10, 11, 12, 13, 14, 15, 16, 17, 26, 27, 28, 29, 30, 31, 32, 33, 34, 35, 36, 37, 38, 39, 40, 41, 42, 43, 44, 45] (by decide +kernel) (by decide +kernel)
set_option maxRecDepth 20000 in
theorem gX8_readsRow_X8_readsKey : GoodIn wsX8_readsRow (wsV RX8 157 RX8 yX8_readsKey wsX8_readsKey) := goodIn_app (goodIn_of _ (by decide +kernel)) ggX8_readsRow_X8_readsKey
theorem dX8_readsRow_0 : decode cX8_readsRow 0 = .ok (.aload_n 0, 1) := by decide +kernel
theorem dX8_readsRow_1 : decode cX8_readsRow 1 = .ok (.aload_n 0, 1) := by decide +kernel
theorem dX8_readsRow_2 : decode cX8_readsRow 2 = .ok (.bipush 51, 2) := by decide +kernel
theorem dX8_readsRow_4 : decode cX8_readsRow 4 = .ok (.invokevirtual 149, 3) := by decide +kernel
theorem dX8_readsRow_7 : decode cX8_readsRow 7 = .ok (.putfield 160, 3) := by decide +kernel
theorem dX8_readsRow_10 : decode cX8_readsRow 10 = .ok (.aload_n 0, 1) := by decide +kernel
theorem dX8_readsRow_11 : decode cX8_readsRow 11 = .ok (.aload_n 0, 1) := by decide +kernel
theorem dX8_readsRow_12 : decode cX8_readsRow 12 = .ok (.getfield 160, 3) := by decide +kernel
theorem dX8_readsRow_15 : decode cX8_readsRow 15 = .ok (.bipush (-2), 2) := by decide +kernel
theorem dX8_readsRow_17 : decode cX8_readsRow 17 = .ok (.if_icmp .eq 19, 3) := by decide +kernel
theorem dX8_readsRow_20 : decode cX8_readsRow 20 = .ok (.aload_n 0, 1) := by decide +kernel
theorem dX8_readsRow_21 : decode cX8_readsRow 21 = .ok (.bipush 44, 2) := by decide +kernel
theorem dX8_readsRow_23 : decode cX8_readsRow 23 = .ok (.invokevirtual 153, 3) := by decide +kernel
theorem dX8_readsRow_26 : decode cX8_readsRow 26 = .ok (.ifCond .eq 10, 3) := by decide +kernel
theorem dX8_readsRow_29 : decode cX8_readsRow 29 = .ok (.aload_n 0, 1) := by decide +kernel
theorem dX8_readsRow_30 : decode cX8_readsRow 30 = .ok (.invokevirtual 157, 3) := by decide +kernel
theorem dX8_readsRow_33 : decode cX8_readsRow 33 = .ok (.goto 5, 3) := by decide +kernel
theorem dX8_readsRow_36 : decode cX8_readsRow 36 = .ok (.bipush (-2), 2) := by decide +kernel
theorem dX8_readsRow_38 : decode cX8_readsRow 38 = .ok (.putfield 163, 3) := by decide +kernel
theorem dX8_readsRow_41 : decode cX8_readsRow 41 = .ok (.aload_n 0, 1) := by decide +kernel
theorem dX8_readsRow_42 : decode cX8_readsRow 42 = .ok (.getfield 163, 3) := by decide +kernel
theorem dX8_readsRow_45 : decode cX8_readsRow 45 = .ok (.bipush (-2), 2) := by decide +kernel
theorem dX8_readsRow_47 : decode cX8_readsRow 47 = .ok (.if_icmp .eq 7, 3) := by decide +kernel
theorem dX8_readsRow_50 : decode cX8_readsRow 50 = .ok (.iconst 1, 1) := by decide +kernel
theorem dX8_readsRow_51 : decode cX8_readsRow 51 = .ok (.goto 4, 3) := by decide +kernel
theorem dX8_readsRow_54 : decode cX8_readsRow 54 = .ok (.iconst 0, 1) := by decide +kernel
theorem dX8_readsRow_55 : decode cX8_readsRow 55 = .ok (.ireturn, 1) := by decide +kernel
set_option maxRecDepth 20000 in
theorem ggX8_readsInsert_X8_readsRow : GoodIn wsX8_readsInsert wsX8_readsRow := goodIn_r _ [7, 8, 9, 10, 11, 12, 6, 13, 14, 15, 16, 17, 18, 19, 20, 21, 22, 23, 24, 25, 26, 27, 28, 29, 30, 31, 36, 37, 38, 39, 40, 41, 42, 43, 44, 45, 46, 47, 48, 49, 50, 51, 52, 53, 54, 55] (by decide +kernel) (by decide +kernel)
set_option maxRecDepth 20000 in
theorem gX8_readsInsert_X8_readsRow : GoodIn wsX8_readsInsert (wsV RX8 166 RX8 yX8_readsRow wsX8_readsRow) := goodIn_app (goodIn_of _ (by decide +kernel)) ggX8_readsInsert_X8_readsRow
set_option maxRecDepth 20000 in
theorem ggX8_readsInsert_X8_takes : GoodIn wsX8_readsInsert wsX8_takes := goodIn_r _ [27, 15, 16, 17, 18, 6, 19, 20, 14, 21, 22, 23, 36, 37, 38, 39, 40, 41, 42, 43, 44, 45, 46, 47, 48, 49, 50, 51, 52, 53, 54, 55] (by decide +kernel) (by decide +kernel)
set_option maxRecDepth 20000 in
theorem gX8_readsInsert_X8_takes : GoodIn wsX8_readsInsert (wsV RX8 153 RX8 yX8_takes wsX8_takes) := goodIn_app (goodIn_of _ (by decide +kernel)) ggX8_readsInsert_X8_takes
set_option maxRecDepth 20000 in
theorem ggX8_readsInsert_X8_readsValue : GoodIn wsX8_readsInsert wsX8_readsValue := goodIn_r _ [35, 24, 25, 26, 6, 27, 15, 16, 17, 18, 19, 20, 14, 21, 22, 23, 28, 29, 30, 31, 10, 11, 12, 13, 36, 37, 38, 39, 40, 41, 42, 43, 44, 45, 46, 47, 48, 49, 50, 51, 52, 53, 54, 55] (by decide +kernel) (by decide +kernel)
set_option maxRecDepth 20000 in
theorem gX8_readsInsert_X8_readsValue : GoodIn wsX8_readsInsert (wsV RX8 170 RX8 yX8_readsValue wsX8_readsValue) := goodIn_app (goodIn_of _ (by decide +kernel)) ggX8_readsInsert_X8_readsValue
theorem dX8_readsInsert_0 : decode cX8_readsInsert 0 = .ok (.aload_n 0, 1) := by decide +kernel
theorem dX8_readsInsert_1 : decode cX8_readsInsert 1 = .ok (.aload_n 0, 1) := by decide +kernel
theorem dX8_readsInsert_2 : decode cX8_readsInsert 2 = .ok (.invokevirtual 166, 3) := by decide +kernel
theorem dX8_readsInsert_5 : decode cX8_readsInsert 5 = .ok (.ifCond .eq 19, 3) := by decide +kernel
theorem dX8_readsInsert_8 : decode cX8_readsInsert 8 = .ok (.aload_n 0, 1) := by decide +kernel
theorem dX8_readsInsert_9 : decode cX8_readsInsert 9 = .ok (.bipush 44, 2) := by decide +kernel
theorem dX8_readsInsert_11 : decode cX8_readsInsert 11 = .ok (.invokevirtual 153, 3) := by decide +kernel
theorem dX8_readsInsert_14 : decode cX8_readsInsert 14 = .ok (.ifCond .eq 10, 3) := by decide +kernel
theorem dX8_readsInsert_17 : decode cX8_readsInsert 17 = .ok (.aload_n 0, 1) := by decide +kernel
theorem dX8_readsInsert_18 : decode cX8_readsInsert 18 = .ok (.invokevirtual 170, 3) := by decide +kernel
theorem dX8_readsInsert_21 : decode cX8_readsInsert 21 = .ok (.goto 5, 3) := by decide +kernel
theorem dX8_readsInsert_24 : decode cX8_readsInsert 24 = .ok (.bipush (-2), 2) := by decide +kernel
theorem dX8_readsInsert_26 : decode cX8_readsInsert 26 = .ok (.putfield 173, 3) := by decide +kernel
theorem dX8_readsInsert_29 : decode cX8_readsInsert 29 = .ok (.aload_n 0, 1) := by decide +kernel
theorem dX8_readsInsert_30 : decode cX8_readsInsert 30 = .ok (.aload_n 0, 1) := by decide +kernel
theorem dX8_readsInsert_31 : decode cX8_readsInsert 31 = .ok (.getfield 173, 3) := by decide +kernel
theorem dX8_readsInsert_34 : decode cX8_readsInsert 34 = .ok (.bipush (-2), 2) := by decide +kernel
theorem dX8_readsInsert_36 : decode cX8_readsInsert 36 = .ok (.if_icmp .eq 19, 3) := by decide +kernel
theorem dX8_readsInsert_39 : decode cX8_readsInsert 39 = .ok (.aload_n 0, 1) := by decide +kernel
theorem dX8_readsInsert_40 : decode cX8_readsInsert 40 = .ok (.bipush 44, 2) := by decide +kernel
theorem dX8_readsInsert_42 : decode cX8_readsInsert 42 = .ok (.invokevirtual 153, 3) := by decide +kernel
theorem dX8_readsInsert_45 : decode cX8_readsInsert 45 = .ok (.ifCond .eq 10, 3) := by decide +kernel
theorem dX8_readsInsert_48 : decode cX8_readsInsert 48 = .ok (.aload_n 0, 1) := by decide +kernel
theorem dX8_readsInsert_49 : decode cX8_readsInsert 49 = .ok (.invokevirtual 170, 3) := by decide +kernel
theorem dX8_readsInsert_52 : decode cX8_readsInsert 52 = .ok (.goto 5, 3) := by decide +kernel
theorem dX8_readsInsert_55 : decode cX8_readsInsert 55 = .ok (.bipush (-2), 2) := by decide +kernel
theorem dX8_readsInsert_57 : decode cX8_readsInsert 57 = .ok (.putfield 176, 3) := by decide +kernel
theorem dX8_readsInsert_60 : decode cX8_readsInsert 60 = .ok (.aload_n 0, 1) := by decide +kernel
theorem dX8_readsInsert_61 : decode cX8_readsInsert 61 = .ok (.getfield 176, 3) := by decide +kernel
theorem dX8_readsInsert_64 : decode cX8_readsInsert 64 = .ok (.bipush (-2), 2) := by decide +kernel
theorem dX8_readsInsert_66 : decode cX8_readsInsert 66 = .ok (.if_icmp .eq 7, 3) := by decide +kernel
theorem dX8_readsInsert_69 : decode cX8_readsInsert 69 = .ok (.iconst 1, 1) := by decide +kernel
theorem dX8_readsInsert_70 : decode cX8_readsInsert 70 = .ok (.goto 4, 3) := by decide +kernel
theorem dX8_readsInsert_73 : decode cX8_readsInsert 73 = .ok (.iconst 0, 1) := by decide +kernel
theorem dX8_readsInsert_74 : decode cX8_readsInsert 74 = .ok (.ireturn, 1) := by decide +kernel
set_option maxRecDepth 20000 in
theorem ggX8_readsUpdate_X8_readsRow : GoodIn wsX8_readsUpdate wsX8_readsRow := goodIn_r _ [7, 8, 9, 10, 11, 12, 6, 13, 14, 15, 16, 17, 18, 19, 20, 21, 22, 23, 24, 25, 26, 27, 28, 29, 30, 31, 36, 37, 38, 39, 40, 41, 42, 43, 44, 45, 46, 47, 48, 49, 50, 51, 52, 53, 54, 55] (by decide +kernel) (by decide +kernel)
set_option maxRecDepth 20000 in
theorem gX8_readsUpdate_X8_readsRow : GoodIn wsX8_readsUpdate (wsV RX8 166 RX8 yX8_readsRow wsX8_readsRow) := goodIn_app (goodIn_of _ (by decide +kernel)) ggX8_readsUpdate_X8_readsRow
set_option maxRecDepth 20000 in
theorem ggX8_readsUpdate_X8_takes : GoodIn wsX8_readsUpdate wsX8_takes := goodIn_r _ [27, 15, 16, 17, 18, 6, 19, 20, 14, 21, 22, 23, 36, 37, 38, 39, 40, 41, 42, 43, 44, 45, 46, 47, 48, 49, 50, 51, 52, 53, 54, 55] (by decide +kernel) (by decide +kernel)
set_option maxRecDepth 20000 in
theorem gX8_readsUpdate_X8_takes : GoodIn wsX8_readsUpdate (wsV RX8 153 RX8 yX8_takes wsX8_takes) := goodIn_app (goodIn_of _ (by decide +kernel)) ggX8_readsUpdate_X8_takes
set_option maxRecDepth 20000 in
theorem ggX8_readsUpdate_X8_digit : GoodIn wsX8_readsUpdate wsX8_digit := goodIn_r _ [13, 14, 15, 16, 17, 18, 6, 19, 20, 21, 22, 23, 36, 37, 38, 39, 40, 41, 42, 43, 44, 45, 46, 47, 48, 49, 50, 51, 52, 53, 54, 55] (by decide +kernel) (by decide +kernel)
set_option maxRecDepth 20000 in
theorem gX8_readsUpdate_X8_digit : GoodIn wsX8_readsUpdate (wsV RX8 149 RX8 yX8_digit wsX8_digit) := goodIn_app (goodIn_of _ (by decide +kernel)) ggX8_readsUpdate_X8_digit
set_option maxRecDepth 20000 in
theorem ggX8_readsUpdate_X8_readsValue : GoodIn wsX8_readsUpdate wsX8_readsValue := goodIn_r _ [35, 24, 25, 26, 6, 27, 15, 16, 17, 18, 19, 20, 14, 21, 22, 23, 28, 29, 30, 31, 10, 11, 12, 13, 36, 37, 38, 39, 40, 41, 42, 43, 44, 45, 46, 47, 48, 49, 50, 51, 52, 53, 54, 55] (by decide +kernel) (by decide +kernel)
set_option maxRecDepth 20000 in
theorem gX8_readsUpdate_X8_readsValue : GoodIn wsX8_readsUpdate (wsV RX8 170 RX8 yX8_readsValue wsX8_readsValue) := goodIn_app (goodIn_of _ (by decide +kernel)) ggX8_readsUpdate_X8_readsValue
theorem dX8_readsUpdate_0 : decode cX8_readsUpdate 0 = .ok (.aload_n 0, 1) := by decide +kernel
theorem dX8_readsUpdate_1 : decode cX8_readsUpdate 1 = .ok (.aload_n 0, 1) := by decide +kernel
theorem dX8_readsUpdate_2 : decode cX8_readsUpdate 2 = .ok (.invokevirtual 166, 3) := by decide +kernel
theorem dX8_readsUpdate_5 : decode cX8_readsUpdate 5 = .ok (.ifCond .eq 21, 3) := by decide +kernel
theorem dX8_readsUpdate_8 : decode cX8_readsUpdate 8 = .ok (.aload_n 0, 1) := by decide +kernel
theorem dX8_readsUpdate_9 : decode cX8_readsUpdate 9 = .ok (.bipush 44, 2) := by decide +kernel
theorem dX8_readsUpdate_11 : decode cX8_readsUpdate 11 = .ok (.invokevirtual 153, 3) := by decide +kernel
theorem dX8_readsUpdate_14 : decode cX8_readsUpdate 14 = .ok (.ifCond .eq 12, 3) := by decide +kernel
theorem dX8_readsUpdate_17 : decode cX8_readsUpdate 17 = .ok (.aload_n 0, 1) := by decide +kernel
theorem dX8_readsUpdate_18 : decode cX8_readsUpdate 18 = .ok (.bipush 49, 2) := by decide +kernel
theorem dX8_readsUpdate_20 : decode cX8_readsUpdate 20 = .ok (.invokevirtual 149, 3) := by decide +kernel
theorem dX8_readsUpdate_23 : decode cX8_readsUpdate 23 = .ok (.goto 5, 3) := by decide +kernel
theorem dX8_readsUpdate_26 : decode cX8_readsUpdate 26 = .ok (.bipush (-2), 2) := by decide +kernel
theorem dX8_readsUpdate_28 : decode cX8_readsUpdate 28 = .ok (.putfield 173, 3) := by decide +kernel
theorem dX8_readsUpdate_31 : decode cX8_readsUpdate 31 = .ok (.aload_n 0, 1) := by decide +kernel
theorem dX8_readsUpdate_32 : decode cX8_readsUpdate 32 = .ok (.aload_n 0, 1) := by decide +kernel
theorem dX8_readsUpdate_33 : decode cX8_readsUpdate 33 = .ok (.getfield 173, 3) := by decide +kernel
theorem dX8_readsUpdate_36 : decode cX8_readsUpdate 36 = .ok (.bipush (-2), 2) := by decide +kernel
theorem dX8_readsUpdate_38 : decode cX8_readsUpdate 38 = .ok (.if_icmp .eq 19, 3) := by decide +kernel
theorem dX8_readsUpdate_41 : decode cX8_readsUpdate 41 = .ok (.aload_n 0, 1) := by decide +kernel
theorem dX8_readsUpdate_42 : decode cX8_readsUpdate 42 = .ok (.bipush 44, 2) := by decide +kernel
theorem dX8_readsUpdate_44 : decode cX8_readsUpdate 44 = .ok (.invokevirtual 153, 3) := by decide +kernel
theorem dX8_readsUpdate_47 : decode cX8_readsUpdate 47 = .ok (.ifCond .eq 10, 3) := by decide +kernel
theorem dX8_readsUpdate_50 : decode cX8_readsUpdate 50 = .ok (.aload_n 0, 1) := by decide +kernel
theorem dX8_readsUpdate_51 : decode cX8_readsUpdate 51 = .ok (.invokevirtual 170, 3) := by decide +kernel
theorem dX8_readsUpdate_54 : decode cX8_readsUpdate 54 = .ok (.goto 5, 3) := by decide +kernel
theorem dX8_readsUpdate_57 : decode cX8_readsUpdate 57 = .ok (.bipush (-2), 2) := by decide +kernel
theorem dX8_readsUpdate_59 : decode cX8_readsUpdate 59 = .ok (.putfield 176, 3) := by decide +kernel
theorem dX8_readsUpdate_62 : decode cX8_readsUpdate 62 = .ok (.aload_n 0, 1) := by decide +kernel
theorem dX8_readsUpdate_63 : decode cX8_readsUpdate 63 = .ok (.getfield 176, 3) := by decide +kernel
theorem dX8_readsUpdate_66 : decode cX8_readsUpdate 66 = .ok (.bipush (-2), 2) := by decide +kernel
theorem dX8_readsUpdate_68 : decode cX8_readsUpdate 68 = .ok (.if_icmp .eq 7, 3) := by decide +kernel
theorem dX8_readsUpdate_71 : decode cX8_readsUpdate 71 = .ok (.iconst 1, 1) := by decide +kernel
theorem dX8_readsUpdate_72 : decode cX8_readsUpdate 72 = .ok (.goto 4, 3) := by decide +kernel
theorem dX8_readsUpdate_75 : decode cX8_readsUpdate 75 = .ok (.iconst 0, 1) := by decide +kernel
theorem dX8_readsUpdate_76 : decode cX8_readsUpdate 76 = .ok (.ireturn, 1) := by decide +kernel
set_option maxRecDepth 20000 in
theorem ggX8_command_X8_readsInsert : GoodIn wsX8_command wsX8_readsInsert := goodIn_r _ [9, 4, 10, 11, 12, 13, 8, 14, 15, 16, 17, 18, 19, 20, 3, 1, 21, 22, 23, 24, 2, 25, 26, 27, 28, 29, 30, 31, 32, 33, 34, 35, 36, 37, 38, 39, 44, 45, 46, 47, 48, 49, 50, 51, 52, 53, 54, 55, 56, 57, 58, 59, 60, 61, 62, 63] (by decide +kernel) (by decide +kernel)
set_option maxRecDepth 20000 in
theorem gX8_command_X8_readsInsert : GoodIn wsX8_command (wsV RX8 179 RX8 yX8_readsInsert wsX8_readsInsert) := goodIn_app (goodIn_of _ (by decide +kernel)) ggX8_command_X8_readsInsert
set_option maxRecDepth 20000 in
theorem ggX8_command_X8_readsUpdate : GoodIn wsX8_command wsX8_readsUpdate := goodIn_r _ [43, 4, 10, 11, 12, 13, 8, 14, 15, 16, 17, 18, 19, 20, 3, 1, 21, 22, 23, 24, 2, 25, 26, 27, 28, 29, 30, 31, 32, 33, 34, 35, 36, 37, 38, 39, 44, 45, 46, 47, 48, 49, 50, 51, 52, 53, 54, 55, 56, 57, 58, 59, 60, 61, 62, 63] (by decide +kernel) (by decide +kernel)
set_option maxRecDepth 20000 in
theorem gX8_command_X8_readsUpdate : GoodIn wsX8_command (wsV RX8 182 RX8 yX8_readsUpdate wsX8_readsUpdate) := goodIn_app (goodIn_of _ (by decide +kernel)) ggX8_command_X8_readsUpdate
set_option maxRecDepth 20000 in
theorem ggX8_command_X8_readsRow : GoodIn wsX8_command wsX8_readsRow := goodIn_r _ [14, 15, 16, 17, 18, 19, 8, 20, 3, 1, 21, 22, 23, 24, 2, 25, 26, 27, 28, 29, 30, 31, 32, 33, 34, 35, 44, 45, 46, 47, 48, 49, 50, 51, 52, 53, 54, 55, 56, 57, 58, 59, 60, 61, 62, 63] (by decide +kernel) (by decide +kernel)
set_option maxRecDepth 20000 in
theorem gX8_command_X8_readsRow : GoodIn wsX8_command (wsV RX8 166 RX8 yX8_readsRow wsX8_readsRow) := goodIn_app (goodIn_of _ (by decide +kernel)) ggX8_command_X8_readsRow
set_option maxRecDepth 20000 in
theorem ggX8_command_X8_digit : GoodIn wsX8_command wsX8_digit := goodIn_r _ [20, 3, 1, 21, 22, 23, 8, 24, 2, 25, 26, 27, 44, 45, 46, 47, 48, 49, 50, 51, 52, 53, 54, 55, 56, 57, 58, 59, 60, 61, 62, 63] (by decide +kernel) (by decide +kernel)
set_option maxRecDepth 20000 in
theorem gX8_command_X8_digit : GoodIn wsX8_command (wsV RX8 149 RX8 yX8_digit wsX8_digit) := goodIn_app (goodIn_of _ (by decide +kernel)) ggX8_command_X8_digit
theorem dX8_command_0 : decode cX8_command 0 = .ok (.aload_n 0, 1) := by decide +kernel
theorem dX8_command_1 : decode cX8_command 1 = .ok (.getfield 142, 3) := by decide +kernel
theorem dX8_command_4 : decode cX8_command 4 = .ok (.aload_n 0, 1) := by decide +kernel
theorem dX8_command_5 : decode cX8_command 5 = .ok (.getfield 139, 3) := by decide +kernel
theorem dX8_command_8 : decode cX8_command 8 = .ok (.if_icmp .ge 15, 3) := by decide +kernel
theorem dX8_command_11 : decode cX8_command 11 = .ok (.aload_n 0, 1) := by decide +kernel
theorem dX8_command_12 : decode cX8_command 12 = .ok (.getfield 35, 3) := by decide +kernel
theorem dX8_command_15 : decode cX8_command 15 = .ok (.aload_n 0, 1) := by decide +kernel
theorem dX8_command_16 : decode cX8_command 16 = .ok (.getfield 142, 3) := by decide +kernel
theorem dX8_command_19 : decode cX8_command 19 = .ok (.caload, 1) := by decide +kernel
theorem dX8_command_20 : decode cX8_command 20 = .ok (.goto 5, 3) := by decide +kernel
theorem dX8_command_23 : decode cX8_command 23 = .ok (.bipush 32, 2) := by decide +kernel
theorem dX8_command_25 : decode cX8_command 25 = .ok (.istore_n 1, 1) := by decide +kernel
theorem dX8_command_26 : decode cX8_command 26 = .ok (.aload_n 0, 1) := by decide +kernel
theorem dX8_command_27 : decode cX8_command 27 = .ok (.dup, 1) := by decide +kernel
theorem dX8_command_28 : decode cX8_command 28 = .ok (.getfield 142, 3) := by decide +kernel
theorem dX8_command_31 : decode cX8_command 31 = .ok (.iconst 1, 1) := by decide +kernel
theorem dX8_command_32 : decode cX8_command 32 = .ok (.iadd, 1) := by decide +kernel
theorem dX8_command_33 : decode cX8_command 33 = .ok (.putfield 142, 3) := by decide +kernel
theorem dX8_command_36 : decode cX8_command 36 = .ok (.iload_n 1, 1) := by decide +kernel
theorem dX8_command_37 : decode cX8_command 37 = .ok (.tableswitch 165 98 117 #[137, 163, 123, 165, 165, 165, 165, 95, 165, 165, 165, 165, 165, 165, 165, 165, 163, 163, 165, 109], 95) := by decide +kernel
theorem dX8_command_132 : decode cX8_command 132 = .ok (.aload_n 0, 1) := by decide +kernel
theorem dX8_command_133 : decode cX8_command 133 = .ok (.invokevirtual 179, 3) := by decide +kernel
theorem dX8_command_136 : decode cX8_command 136 = .ok (.ifCond .eq 7, 3) := by decide +kernel
theorem dX8_command_139 : decode cX8_command 139 = .ok (.iload_n 1, 1) := by decide +kernel
theorem dX8_command_140 : decode cX8_command 140 = .ok (.goto 5, 3) := by decide +kernel
theorem dX8_command_143 : decode cX8_command 143 = .ok (.bipush 32, 2) := by decide +kernel
theorem dX8_command_145 : decode cX8_command 145 = .ok (.ireturn, 1) := by decide +kernel
theorem dX8_command_146 : decode cX8_command 146 = .ok (.aload_n 0, 1) := by decide +kernel
theorem dX8_command_147 : decode cX8_command 147 = .ok (.invokevirtual 182, 3) := by decide +kernel
theorem dX8_command_150 : decode cX8_command 150 = .ok (.ifCond .eq 7, 3) := by decide +kernel
theorem dX8_command_153 : decode cX8_command 153 = .ok (.iload_n 1, 1) := by decide +kernel
theorem dX8_command_154 : decode cX8_command 154 = .ok (.goto 5, 3) := by decide +kernel
theorem dX8_command_157 : decode cX8_command 157 = .ok (.bipush 32, 2) := by decide +kernel
theorem dX8_command_159 : decode cX8_command 159 = .ok (.ireturn, 1) := by decide +kernel
theorem dX8_command_160 : decode cX8_command 160 = .ok (.aload_n 0, 1) := by decide +kernel
theorem dX8_command_161 : decode cX8_command 161 = .ok (.invokevirtual 166, 3) := by decide +kernel
theorem dX8_command_164 : decode cX8_command 164 = .ok (.ifCond .eq 7, 3) := by decide +kernel
theorem dX8_command_167 : decode cX8_command 167 = .ok (.iload_n 1, 1) := by decide +kernel
theorem dX8_command_168 : decode cX8_command 168 = .ok (.goto 5, 3) := by decide +kernel
theorem dX8_command_171 : decode cX8_command 171 = .ok (.bipush 32, 2) := by decide +kernel
theorem dX8_command_173 : decode cX8_command 173 = .ok (.ireturn, 1) := by decide +kernel
theorem dX8_command_174 : decode cX8_command 174 = .ok (.aload_n 0, 1) := by decide +kernel
theorem dX8_command_175 : decode cX8_command 175 = .ok (.aload_n 0, 1) := by decide +kernel
theorem dX8_command_176 : decode cX8_command 176 = .ok (.bipush 51, 2) := by decide +kernel
theorem dX8_command_178 : decode cX8_command 178 = .ok (.invokevirtual 149, 3) := by decide +kernel
theorem dX8_command_181 : decode cX8_command 181 = .ok (.putfield 173, 3) := by decide +kernel
theorem dX8_command_184 : decode cX8_command 184 = .ok (.aload_n 0, 1) := by decide +kernel
theorem dX8_command_185 : decode cX8_command 185 = .ok (.getfield 173, 3) := by decide +kernel
theorem dX8_command_188 : decode cX8_command 188 = .ok (.bipush (-2), 2) := by decide +kernel
theorem dX8_command_190 : decode cX8_command 190 = .ok (.if_icmp .eq 7, 3) := by decide +kernel
theorem dX8_command_193 : decode cX8_command 193 = .ok (.iload_n 1, 1) := by decide +kernel
theorem dX8_command_194 : decode cX8_command 194 = .ok (.goto 5, 3) := by decide +kernel
theorem dX8_command_197 : decode cX8_command 197 = .ok (.bipush 32, 2) := by decide +kernel
theorem dX8_command_199 : decode cX8_command 199 = .ok (.ireturn, 1) := by decide +kernel
theorem dX8_command_200 : decode cX8_command 200 = .ok (.iload_n 1, 1) := by decide +kernel
theorem dX8_command_201 : decode cX8_command 201 = .ok (.ireturn, 1) := by decide +kernel
theorem dX8_command_202 : decode cX8_command 202 = .ok (.aload_n 0, 1) := by decide +kernel
theorem dX8_command_203 : decode cX8_command 203 = .ok (.dup, 1) := by decide +kernel
theorem dX8_command_204 : decode cX8_command 204 = .ok (.getfield 142, 3) := by decide +kernel
theorem dX8_command_207 : decode cX8_command 207 = .ok (.iconst 1, 1) := by decide +kernel
theorem dX8_command_208 : decode cX8_command 208 = .ok (.isub, 1) := by decide +kernel
theorem dX8_command_209 : decode cX8_command 209 = .ok (.putfield 142, 3) := by decide +kernel
theorem dX8_command_212 : decode cX8_command 212 = .ok (.bipush 32, 2) := by decide +kernel
theorem dX8_command_214 : decode cX8_command 214 = .ok (.ireturn, 1) := by decide +kernel
set_option maxRecDepth 20000 in
theorem ggX8_error_X8_command : GoodIn wsX8_error wsX8_command := goodIn_r _ [7, 1, 2, 8, 9, 10, 11, 12, 6, 13, 14, 15, 16, 17, 18, 19, 20, 21, 22, 23, 24, 25, 26, 27, 28, 29, 30, 31, 32, 33, 34, 35, 36, 37, 38, 39, 40, 41, 42, 43, 44, 45, 46, 47, 48, 49, 50, 51, 52, 53, 54, 55, 56, 57, 58, 59, 60, 61, 62, 63, 64, 65, 66, 67] (by decide +kernel) (by decide +kernel)
set_option maxRecDepth 20000 in
theorem gX8_error_X8_command : GoodIn wsX8_error (wsV RX8 185 RX8 yX8_command wsX8_command) := goodIn_app (goodIn_of _ (by decide +kernel)) ggX8_error_X8_command
set_option maxRecDepth 20000 in
theorem ggX8_error_X8_takes : GoodIn wsX8_error wsX8_takes := goodIn_r _ [35, 1, 25, 26, 27, 6, 28, 2, 8, 29, 30, 31, 48, 49, 50, 51, 52, 53, 54, 55, 56, 57, 58, 59, 60, 61, 62, 63, 64, 65, 66, 67] (by decide +kernel) (by decide +kernel)
set_option maxRecDepth 20000 in
theorem gX8_error_X8_takes : GoodIn wsX8_error (wsV RX8 153 RX8 yX8_takes wsX8_takes) := goodIn_app (goodIn_of _ (by decide +kernel)) ggX8_error_X8_takes
theorem dX8_error_0 : decode cX8_error 0 = .ok (.aload_n 0, 1) := by decide +kernel
theorem dX8_error_1 : decode cX8_error 1 = .ok (.iconst 0, 1) := by decide +kernel
theorem dX8_error_2 : decode cX8_error 2 = .ok (.putfield 142, 3) := by decide +kernel
theorem dX8_error_5 : decode cX8_error 5 = .ok (.aload_n 0, 1) := by decide +kernel
theorem dX8_error_6 : decode cX8_error 6 = .ok (.invokevirtual 185, 3) := by decide +kernel
theorem dX8_error_9 : decode cX8_error 9 = .ok (.bipush 32, 2) := by decide +kernel
theorem dX8_error_11 : decode cX8_error 11 = .ok (.if_icmp .eq 31, 3) := by decide +kernel
theorem dX8_error_14 : decode cX8_error 14 = .ok (.aload_n 0, 1) := by decide +kernel
theorem dX8_error_15 : decode cX8_error 15 = .ok (.getfield 142, 3) := by decide +kernel
theorem dX8_error_18 : decode cX8_error 18 = .ok (.aload_n 0, 1) := by decide +kernel
theorem dX8_error_19 : decode cX8_error 19 = .ok (.getfield 139, 3) := by decide +kernel
theorem dX8_error_22 : decode cX8_error 22 = .ok (.if_icmp .ne 6, 3) := by decide +kernel
theorem dX8_error_25 : decode cX8_error 25 = .ok (.bipush (-2), 2) := by decide +kernel
theorem dX8_error_27 : decode cX8_error 27 = .ok (.ireturn, 1) := by decide +kernel
theorem dX8_error_28 : decode cX8_error 28 = .ok (.aload_n 0, 1) := by decide +kernel
theorem dX8_error_29 : decode cX8_error 29 = .ok (.bipush 59, 2) := by decide +kernel
theorem dX8_error_31 : decode cX8_error 31 = .ok (.invokevirtual 153, 3) := by decide +kernel
theorem dX8_error_34 : decode cX8_error 34 = .ok (.ifCond .ne (-29), 3) := by decide +kernel
theorem dX8_error_37 : decode cX8_error 37 = .ok (.aload_n 0, 1) := by decide +kernel
theorem dX8_error_38 : decode cX8_error 38 = .ok (.getfield 142, 3) := by decide +kernel
theorem dX8_error_41 : decode cX8_error 41 = .ok (.ireturn, 1) := by decide +kernel
theorem dX8_error_42 : decode cX8_error 42 = .ok (.aload_n 0, 1) := by decide +kernel
theorem dX8_error_43 : decode cX8_error 43 = .ok (.getfield 142, 3) := by decide +kernel
theorem dX8_error_46 : decode cX8_error 46 = .ok (.ireturn, 1) := by decide +kernel
set_option maxRecDepth 20000 in
theorem ggX8_errorPosition_X8_error : GoodIn wsX8_errorPosition wsX8_error := goodIn_r _ [6, 7, 8, 9, 10, 11, 5, 12, 13, 14, 15, 16, 17, 18, 19, 20, 21, 22, 23, 24, 25, 26, 27, 28, 29, 30, 31, 32, 33, 34, 35, 36, 37, 38, 39, 40, 41, 42, 43, 44, 45, 46, 47, 48, 49, 50, 51, 52, 53, 54, 55, 56, 57, 58, 59, 60, 61, 62, 63, 64, 65, 66, 67, 68, 69, 70, 71, 72] (by decide +kernel) (by decide +kernel)
set_option maxRecDepth 20000 in
theorem gX8_errorPosition_X8_error : GoodIn wsX8_errorPosition (wsV RX8 189 RX8 yX8_error wsX8_error) := goodIn_app (goodIn_of _ (by decide +kernel)) ggX8_errorPosition_X8_error
theorem dX8_errorPosition_0 : decode cX8_errorPosition 0 = .ok (.aload_n 0, 1) := by decide +kernel
theorem dX8_errorPosition_1 : decode cX8_errorPosition 1 = .ok (.iconst 0, 1) := by decide +kernel
theorem dX8_errorPosition_2 : decode cX8_errorPosition 2 = .ok (.putfield 45, 3) := by decide +kernel
theorem dX8_errorPosition_5 : decode cX8_errorPosition 5 = .ok (.aload_n 0, 1) := by decide +kernel
theorem dX8_errorPosition_6 : decode cX8_errorPosition 6 = .ok (.invokevirtual 189, 3) := by decide +kernel
theorem dX8_errorPosition_9 : decode cX8_errorPosition 9 = .ok (.ireturn, 1) := by decide +kernel
set_option maxRecDepth 20000 in
theorem ggX8_can_X8_row : GoodIn wsX8_can wsX8_row := goodIn_r _ [9] (by decide +kernel) (by decide +kernel)
set_option maxRecDepth 20000 in
theorem gX8_can_X8_row : GoodIn wsX8_can (va_wsS RX8 53 yX8_row wsX8_row) := goodIn_app (goodIn_of _ (by decide +kernel)) ggX8_can_X8_row
theorem dX8_can_0 : decode cX8_can 0 = .ok (.iload_n 1, 1) := by decide +kernel
theorem dX8_can_1 : decode cX8_can 1 = .ok (.lookupswitch 124 #[(98, 107), (100, 76), (105, 51), (115, 93), (117, 76)], 51) := by decide +kernel
theorem dX8_can_52 : decode cX8_can 52 = .ok (.aload_n 0, 1) := by decide +kernel
theorem dX8_can_53 : decode cX8_can 53 = .ok (.getfield 7, 3) := by decide +kernel
theorem dX8_can_56 : decode cX8_can 56 = .ok (.aload_n 0, 1) := by decide +kernel
theorem dX8_can_57 : decode cX8_can 57 = .ok (.getfield 160, 3) := by decide +kernel
theorem dX8_can_60 : decode cX8_can 60 = .ok (.aload_n 0, 1) := by decide +kernel
theorem dX8_can_61 : decode cX8_can 61 = .ok (.getfield 163, 3) := by decide +kernel
theorem dX8_can_64 : decode cX8_can 64 = .ok (.invokestatic 53, 3) := by decide +kernel
theorem dX8_can_67 : decode cX8_can 67 = .ok (.baload, 1) := by decide +kernel
theorem dX8_can_68 : decode cX8_can 68 = .ok (.ifCond .ne 7, 3) := by decide +kernel
theorem dX8_can_71 : decode cX8_can 71 = .ok (.iconst 1, 1) := by decide +kernel
theorem dX8_can_72 : decode cX8_can 72 = .ok (.goto 4, 3) := by decide +kernel
theorem dX8_can_75 : decode cX8_can 75 = .ok (.iconst 0, 1) := by decide +kernel
theorem dX8_can_76 : decode cX8_can 76 = .ok (.ireturn, 1) := by decide +kernel
theorem dX8_can_77 : decode cX8_can 77 = .ok (.aload_n 0, 1) := by decide +kernel
theorem dX8_can_78 : decode cX8_can 78 = .ok (.getfield 7, 3) := by decide +kernel
theorem dX8_can_81 : decode cX8_can 81 = .ok (.aload_n 0, 1) := by decide +kernel
theorem dX8_can_82 : decode cX8_can 82 = .ok (.getfield 160, 3) := by decide +kernel
theorem dX8_can_85 : decode cX8_can 85 = .ok (.aload_n 0, 1) := by decide +kernel
theorem dX8_can_86 : decode cX8_can 86 = .ok (.getfield 163, 3) := by decide +kernel
theorem dX8_can_89 : decode cX8_can 89 = .ok (.invokestatic 53, 3) := by decide +kernel
theorem dX8_can_92 : decode cX8_can 92 = .ok (.baload, 1) := by decide +kernel
theorem dX8_can_93 : decode cX8_can 93 = .ok (.ireturn, 1) := by decide +kernel
theorem dX8_can_94 : decode cX8_can 94 = .ok (.aload_n 0, 1) := by decide +kernel
theorem dX8_can_95 : decode cX8_can 95 = .ok (.getfield 136, 3) := by decide +kernel
theorem dX8_can_98 : decode cX8_can 98 = .ok (.iconst 4, 1) := by decide +kernel
theorem dX8_can_99 : decode cX8_can 99 = .ok (.if_icmp .ge 7, 3) := by decide +kernel
theorem dX8_can_102 : decode cX8_can 102 = .ok (.iconst 1, 1) := by decide +kernel
theorem dX8_can_103 : decode cX8_can 103 = .ok (.goto 4, 3) := by decide +kernel
theorem dX8_can_106 : decode cX8_can 106 = .ok (.iconst 0, 1) := by decide +kernel
theorem dX8_can_107 : decode cX8_can 107 = .ok (.ireturn, 1) := by decide +kernel
theorem dX8_can_108 : decode cX8_can 108 = .ok (.aload_n 0, 1) := by decide +kernel
theorem dX8_can_109 : decode cX8_can 109 = .ok (.getfield 173, 3) := by decide +kernel
theorem dX8_can_112 : decode cX8_can 112 = .ok (.aload_n 0, 1) := by decide +kernel
theorem dX8_can_113 : decode cX8_can 113 = .ok (.getfield 136, 3) := by decide +kernel
theorem dX8_can_116 : decode cX8_can 116 = .ok (.if_icmp .ge 7, 3) := by decide +kernel
theorem dX8_can_119 : decode cX8_can 119 = .ok (.iconst 1, 1) := by decide +kernel
theorem dX8_can_120 : decode cX8_can 120 = .ok (.goto 4, 3) := by decide +kernel
theorem dX8_can_123 : decode cX8_can 123 = .ok (.iconst 0, 1) := by decide +kernel
theorem dX8_can_124 : decode cX8_can 124 = .ok (.ireturn, 1) := by decide +kernel
theorem dX8_can_125 : decode cX8_can 125 = .ok (.iconst 1, 1) := by decide +kernel
theorem dX8_can_126 : decode cX8_can 126 = .ok (.ireturn, 1) := by decide +kernel
set_option maxRecDepth 20000 in
theorem ggX8_does_X8_inserts : GoodIn wsX8_does wsX8_inserts := goodIn_r _ [9, 10, 11, 12, 8, 13, 14, 15, 16, 17, 18, 19, 20, 21, 22, 23, 24, 25, 26, 27, 28, 29, 30, 31, 32, 33, 34, 35, 36, 37, 38, 39, 40, 41, 42, 43, 44, 45, 46, 47, 48, 49, 50, 103, 104, 105, 106, 107, 108, 109, 110, 111, 112, 113, 114, 115, 116, 117, 118, 119, 120, 121, 122] (by decide +kernel) (by decide +kernel)
set_option maxRecDepth 20000 in
theorem gX8_does_X8_inserts : GoodIn wsX8_does (wsV RX8 126 RX8 yX8_inserts wsX8_inserts) := goodIn_app (goodIn_of _ (by decide +kernel)) ggX8_does_X8_inserts
set_option maxRecDepth 20000 in
theorem ggX8_does_X8_updates : GoodIn wsX8_does wsX8_updates := goodIn_r _ [54, 10, 11, 12, 8, 13, 55, 56, 57, 58, 19, 20, 21, 22, 23, 24, 25, 26, 27, 28, 29, 30, 31, 32, 33, 34, 35, 36, 37, 18, 38, 39, 40, 41, 42, 43, 44, 45, 46, 47, 48, 49, 50, 103, 104, 105, 106, 107, 108, 109, 110, 111, 112, 113, 114, 115, 116, 117, 118, 119, 120, 121, 122] (by decide +kernel) (by decide +kernel)
set_option maxRecDepth 20000 in
theorem gX8_does_X8_updates : GoodIn wsX8_does (wsV RX8 130 RX8 yX8_updates wsX8_updates) := goodIn_app (goodIn_of _ (by decide +kernel)) ggX8_does_X8_updates
set_option maxRecDepth 20000 in
theorem ggX8_does_X8_deletes : GoodIn wsX8_does wsX8_deletes := goodIn_r _ [62, 10, 11, 12, 8, 13, 63, 64, 65, 66, 67, 68, 69, 70, 71, 72, 18, 20, 21, 22, 23, 24, 19, 38, 39, 40, 41, 42, 43, 44, 45, 46, 73, 74, 75, 76, 55, 56, 57, 58, 25, 26, 27, 28, 29, 30, 31, 32, 33, 34, 35, 36, 37, 47, 48, 49, 50, 103, 104, 105, 106, 107, 108, 109, 110, 111, 112, 113, 114, 115, 116, 117, 118, 119, 120, 121, 122] (by decide +kernel) (by decide +kernel)
set_option maxRecDepth 20000 in
theorem gX8_does_X8_deletes : GoodIn wsX8_does (wsV RX8 133 RX8 yX8_deletes wsX8_deletes) := goodIn_app (goodIn_of _ (by decide +kernel)) ggX8_does_X8_deletes
set_option maxRecDepth 20000 in
theorem ggX8_does_X8_savePoint : GoodIn wsX8_does wsX8_savePoint := goodIn_r _ [80, 81, 82, 10, 83, 84, 85, 8, 86, 87, 103, 104, 105, 106, 107, 108, 109, 110, 111, 112, 113, 114, 115, 116, 117, 118, 119, 120, 121, 122] (by decide +kernel) (by decide +kernel)
set_option maxRecDepth 20000 in
theorem gX8_does_X8_savePoint : GoodIn wsX8_does (wsV RX8 192 RX8 yX8_savePoint wsX8_savePoint) := goodIn_app (goodIn_of _ (by decide +kernel)) ggX8_does_X8_savePoint
set_option maxRecDepth 20000 in
theorem ggX8_does_X8_rollBackTo : GoodIn wsX8_does wsX8_rollBackTo := goodIn_r _ [91, 81, 82, 92, 93, 8, 94, 83, 84, 85, 86, 87, 47, 48, 49, 50, 10, 24, 18, 19, 103, 104, 105, 106, 107, 108, 109, 110, 111, 112, 113, 114, 115, 116, 117, 118, 119, 120, 121, 122] (by decide +kernel) (by decide +kernel)
set_option maxRecDepth 20000 in
theorem gX8_does_X8_rollBackTo : GoodIn wsX8_does (wsV RX8 195 RX8 yX8_rollBackTo wsX8_rollBackTo) := goodIn_app (goodIn_of _ (by decide +kernel)) ggX8_does_X8_rollBackTo
set_option maxRecDepth 20000 in
theorem ggX8_does_X8_commit : GoodIn wsX8_does wsX8_commit := goodIn_r _ [98, 87, 10, 81, 29, 30, 31, 8, 32, 33, 34, 35, 36, 37, 18, 38, 39, 40, 41, 42, 19, 43, 11, 12, 13, 44, 45, 46, 103, 104, 105, 106, 107, 108, 109, 110, 111, 112, 113, 114, 115, 116, 117, 118, 119, 120, 121, 122] (by decide +kernel) (by decide +kernel)
set_option maxRecDepth 20000 in
theorem gX8_does_X8_commit : GoodIn wsX8_does (wsV RX8 198 RX8 yX8_commit wsX8_commit) := goodIn_app (goodIn_of _ (by decide +kernel)) ggX8_does_X8_commit
set_option maxRecDepth 20000 in
theorem ggX8_does_X8_rollBack : GoodIn wsX8_does wsX8_rollBack := goodIn_r _ [102, 87, 81, 47, 48, 49, 8, 50, 10, 24, 18, 19, 103, 104, 105, 106, 107, 108, 109, 110, 111, 112, 113, 114, 115, 116, 117, 118, 119, 120, 121, 122] (by decide +kernel) (by decide +kernel)
set_option maxRecDepth 20000 in
theorem gX8_does_X8_rollBack : GoodIn wsX8_does (wsV RX8 201 RX8 yX8_rollBack wsX8_rollBack) := goodIn_app (goodIn_of _ (by decide +kernel)) ggX8_does_X8_rollBack
theorem dX8_does_0 : decode cX8_does 0 = .ok (.iload_n 1, 1) := by decide +kernel
theorem dX8_does_1 : decode cX8_does 1 = .ok (.tableswitch 169 98 117 #[155, 164, 137, 169, 169, 169, 169, 95, 169, 169, 169, 169, 169, 169, 169, 169, 169, 150, 169, 116], 95) := by decide +kernel
theorem dX8_does_96 : decode cX8_does 96 = .ok (.aload_n 0, 1) := by decide +kernel
theorem dX8_does_97 : decode cX8_does 97 = .ok (.aload_n 0, 1) := by decide +kernel
theorem dX8_does_98 : decode cX8_does 98 = .ok (.getfield 160, 3) := by decide +kernel
theorem dX8_does_101 : decode cX8_does 101 = .ok (.aload_n 0, 1) := by decide +kernel
theorem dX8_does_102 : decode cX8_does 102 = .ok (.getfield 163, 3) := by decide +kernel
theorem dX8_does_105 : decode cX8_does 105 = .ok (.aload_n 0, 1) := by decide +kernel
theorem dX8_does_106 : decode cX8_does 106 = .ok (.getfield 173, 3) := by decide +kernel
theorem dX8_does_109 : decode cX8_does 109 = .ok (.aload_n 0, 1) := by decide +kernel
theorem dX8_does_110 : decode cX8_does 110 = .ok (.getfield 176, 3) := by decide +kernel
theorem dX8_does_113 : decode cX8_does 113 = .ok (.invokevirtual 126, 3) := by decide +kernel
theorem dX8_does_116 : decode cX8_does 116 = .ok (.ireturn, 1) := by decide +kernel
theorem dX8_does_117 : decode cX8_does 117 = .ok (.aload_n 0, 1) := by decide +kernel
theorem dX8_does_118 : decode cX8_does 118 = .ok (.aload_n 0, 1) := by decide +kernel
theorem dX8_does_119 : decode cX8_does 119 = .ok (.getfield 160, 3) := by decide +kernel
theorem dX8_does_122 : decode cX8_does 122 = .ok (.aload_n 0, 1) := by decide +kernel
theorem dX8_does_123 : decode cX8_does 123 = .ok (.getfield 163, 3) := by decide +kernel
theorem dX8_does_126 : decode cX8_does 126 = .ok (.aload_n 0, 1) := by decide +kernel
theorem dX8_does_127 : decode cX8_does 127 = .ok (.getfield 173, 3) := by decide +kernel
theorem dX8_does_130 : decode cX8_does 130 = .ok (.aload_n 0, 1) := by decide +kernel
theorem dX8_does_131 : decode cX8_does 131 = .ok (.getfield 176, 3) := by decide +kernel
theorem dX8_does_134 : decode cX8_does 134 = .ok (.invokevirtual 130, 3) := by decide +kernel
theorem dX8_does_137 : decode cX8_does 137 = .ok (.ireturn, 1) := by decide +kernel
theorem dX8_does_138 : decode cX8_does 138 = .ok (.aload_n 0, 1) := by decide +kernel
theorem dX8_does_139 : decode cX8_does 139 = .ok (.aload_n 0, 1) := by decide +kernel
theorem dX8_does_140 : decode cX8_does 140 = .ok (.getfield 160, 3) := by decide +kernel
theorem dX8_does_143 : decode cX8_does 143 = .ok (.aload_n 0, 1) := by decide +kernel
theorem dX8_does_144 : decode cX8_does 144 = .ok (.getfield 163, 3) := by decide +kernel
theorem dX8_does_147 : decode cX8_does 147 = .ok (.invokevirtual 133, 3) := by decide +kernel
theorem dX8_does_150 : decode cX8_does 150 = .ok (.ireturn, 1) := by decide +kernel
theorem dX8_does_151 : decode cX8_does 151 = .ok (.aload_n 0, 1) := by decide +kernel
theorem dX8_does_152 : decode cX8_does 152 = .ok (.invokevirtual 192, 3) := by decide +kernel
theorem dX8_does_155 : decode cX8_does 155 = .ok (.ireturn, 1) := by decide +kernel
theorem dX8_does_156 : decode cX8_does 156 = .ok (.aload_n 0, 1) := by decide +kernel
theorem dX8_does_157 : decode cX8_does 157 = .ok (.aload_n 0, 1) := by decide +kernel
theorem dX8_does_158 : decode cX8_does 158 = .ok (.getfield 173, 3) := by decide +kernel
theorem dX8_does_161 : decode cX8_does 161 = .ok (.invokevirtual 195, 3) := by decide +kernel
theorem dX8_does_164 : decode cX8_does 164 = .ok (.ireturn, 1) := by decide +kernel
theorem dX8_does_165 : decode cX8_does 165 = .ok (.aload_n 0, 1) := by decide +kernel
theorem dX8_does_166 : decode cX8_does 166 = .ok (.invokevirtual 198, 3) := by decide +kernel
theorem dX8_does_169 : decode cX8_does 169 = .ok (.ireturn, 1) := by decide +kernel
theorem dX8_does_170 : decode cX8_does 170 = .ok (.aload_n 0, 1) := by decide +kernel
theorem dX8_does_171 : decode cX8_does 171 = .ok (.invokevirtual 201, 3) := by decide +kernel
theorem dX8_does_174 : decode cX8_does 174 = .ok (.ireturn, 1) := by decide +kernel
set_option maxRecDepth 20000 in
theorem ggX8_runText_X8_error : GoodIn wsX8_runText wsX8_error := goodIn_r _ [6, 1, 7, 8, 9, 10, 5, 11, 12, 13, 14, 15, 16, 17, 18, 19, 20, 21, 22, 23, 24, 25, 26, 27, 28, 29, 30, 31, 32, 33, 34, 35, 36, 37, 38, 39, 40, 41, 42, 43, 44, 45, 46, 47, 48, 49, 50, 51, 154, 155, 156, 157, 158, 159, 160, 161, 162, 163, 164, 165, 166, 167, 168, 169, 170, 171, 172, 173] (by decide +kernel) (by decide +kernel)
set_option maxRecDepth 20000 in
theorem gX8_runText_X8_error : GoodIn wsX8_runText (wsV RX8 189 RX8 yX8_error wsX8_error) := goodIn_app (goodIn_of _ (by decide +kernel)) ggX8_runText_X8_error
set_option maxRecDepth 20000 in
theorem ggX8_runText_X8_goes : GoodIn wsX8_runText wsX8_goes := goodIn_r _ [55, 56, 154, 155, 156, 157, 158, 159, 160, 161, 162, 163, 164, 165, 166, 167, 168, 169, 170, 171, 172, 173] (by decide +kernel) (by decide +kernel)
set_option maxRecDepth 20000 in
theorem gX8_runText_X8_goes : GoodIn wsX8_runText (wsV RX8 88 RX8 yX8_goes wsX8_goes) := goodIn_app (goodIn_of _ (by decide +kernel)) ggX8_runText_X8_goes
set_option maxRecDepth 20000 in
theorem ggX8_runText_X8_command : GoodIn wsX8_runText wsX8_command := goodIn_r _ [11, 1, 7, 12, 13, 14, 15, 16, 5, 17, 18, 19, 20, 21, 22, 23, 24, 25, 26, 27, 28, 29, 30, 31, 32, 33, 34, 35, 36, 37, 38, 39, 40, 41, 42, 43, 44, 45, 46, 47, 48, 49, 50, 51, 154, 155, 156, 157, 158, 159, 160, 161, 162, 163, 164, 165, 166, 167, 168, 169, 170, 171, 172, 173] (by decide +kernel) (by decide +kernel)
set_option maxRecDepth 20000 in
theorem gX8_runText_X8_command : GoodIn wsX8_runText (wsV RX8 185 RX8 yX8_command wsX8_command) := goodIn_app (goodIn_of _ (by decide +kernel)) ggX8_runText_X8_command
set_option maxRecDepth 20000 in
theorem ggX8_runText_X8_can : GoodIn wsX8_runText wsX8_can := goodIn_r _ [60, 61, 23, 24, 62, 13, 63, 64, 5, 65, 154, 155, 156, 157, 158, 159, 160, 161, 162, 163, 164, 165, 166, 167, 168, 169, 170, 171, 172, 173] (by decide +kernel) (by decide +kernel)
set_option maxRecDepth 20000 in
theorem gX8_runText_X8_can : GoodIn wsX8_runText (wsV RX8 204 RX8 yX8_can wsX8_can) := goodIn_app (goodIn_of _ (by decide +kernel)) ggX8_runText_X8_can
set_option maxRecDepth 20000 in
theorem ggX8_runText_X8_does : GoodIn wsX8_runText wsX8_does := goodIn_r _ [69, 23, 24, 13, 18, 70, 71, 72, 5, 73, 74, 63, 64, 65, 75, 76, 77, 78, 61, 79, 80, 81, 82, 83, 84, 85, 86, 87, 88, 89, 90, 91, 92, 93, 94, 95, 96, 97, 98, 99, 100, 101, 102, 103, 104, 105, 106, 107, 108, 109, 110, 111, 112, 113, 114, 115, 116, 117, 118, 119, 120, 121, 122, 123, 124, 125, 126, 127, 128, 129, 130, 131, 132, 133, 134, 135, 136, 137, 138, 139, 140, 62, 141, 52, 53, 54, 55, 56, 142, 143, 144, 145, 33, 34, 35, 146, 147, 148, 149, 150, 151, 152, 153, 154, 155, 156, 157, 158, 159, 160, 161, 162, 163, 164, 165, 166, 167, 168, 169, 170, 171, 172, 173] (by decide +kernel) (by decide +kernel)
set_option maxRecDepth 20000 in
theorem gX8_runText_X8_does : GoodIn wsX8_runText (wsV RX8 207 RX8 yX8_does wsX8_does) := goodIn_app (goodIn_of _ (by decide +kernel)) ggX8_runText_X8_does
set_option maxRecDepth 20000 in
theorem ggX8_runText_X8_takes : GoodIn wsX8_runText wsX8_takes := goodIn_r _ [39, 1, 29, 30, 31, 5, 32, 7, 12, 33, 34, 35, 154, 155, 156, 157, 158, 159, 160, 161, 162, 163, 164, 165, 166, 167, 168, 169, 170, 171, 172, 173] (by decide +kernel) (by decide +kernel)
set_option maxRecDepth 20000 in
theorem gX8_runText_X8_takes : GoodIn wsX8_runText (wsV RX8 153 RX8 yX8_takes wsX8_takes) := goodIn_app (goodIn_of _ (by decide +kernel)) ggX8_runText_X8_takes
theorem dX8_runText_0 : decode cX8_runText 0 = .ok (.aload_n 0, 1) := by decide +kernel
theorem dX8_runText_1 : decode cX8_runText 1 = .ok (.aload_n 0, 1) := by decide +kernel
theorem dX8_runText_2 : decode cX8_runText 2 = .ok (.invokevirtual 189, 3) := by decide +kernel
theorem dX8_runText_5 : decode cX8_runText 5 = .ok (.bipush (-2), 2) := by decide +kernel
theorem dX8_runText_7 : decode cX8_runText 7 = .ok (.if_icmp .ne 7, 3) := by decide +kernel
theorem dX8_runText_10 : decode cX8_runText 10 = .ok (.iconst 1, 1) := by decide +kernel
theorem dX8_runText_11 : decode cX8_runText 11 = .ok (.goto 4, 3) := by decide +kernel
theorem dX8_runText_14 : decode cX8_runText 14 = .ok (.iconst 0, 1) := by decide +kernel
theorem dX8_runText_15 : decode cX8_runText 15 = .ok (.iconst 1, 1) := by decide +kernel
theorem dX8_runText_16 : decode cX8_runText 16 = .ok (.iconst 1, 1) := by decide +kernel
theorem dX8_runText_17 : decode cX8_runText 17 = .ok (.invokevirtual 88, 3) := by decide +kernel
theorem dX8_runText_20 : decode cX8_runText 20 = .ok (.ifCond .ne 5, 3) := by decide +kernel
theorem dX8_runText_23 : decode cX8_runText 23 = .ok (.iconst 0, 1) := by decide +kernel
theorem dX8_runText_24 : decode cX8_runText 24 = .ok (.ireturn, 1) := by decide +kernel
theorem dX8_runText_25 : decode cX8_runText 25 = .ok (.aload_n 0, 1) := by decide +kernel
theorem dX8_runText_26 : decode cX8_runText 26 = .ok (.iconst 0, 1) := by decide +kernel
theorem dX8_runText_27 : decode cX8_runText 27 = .ok (.putfield 142, 3) := by decide +kernel
theorem dX8_runText_30 : decode cX8_runText 30 = .ok (.iconst 0, 1) := by decide +kernel
theorem dX8_runText_31 : decode cX8_runText 31 = .ok (.istore_n 1, 1) := by decide +kernel
theorem dX8_runText_32 : decode cX8_runText 32 = .ok (.iconst 1, 1) := by decide +kernel
theorem dX8_runText_33 : decode cX8_runText 33 = .ok (.istore_n 2, 1) := by decide +kernel
theorem dX8_runText_34 : decode cX8_runText 34 = .ok (.iload_n 2, 1) := by decide +kernel
theorem dX8_runText_35 : decode cX8_runText 35 = .ok (.ifCond .eq 73, 3) := by decide +kernel
theorem dX8_runText_38 : decode cX8_runText 38 = .ok (.aload_n 0, 1) := by decide +kernel
theorem dX8_runText_39 : decode cX8_runText 39 = .ok (.invokevirtual 185, 3) := by decide +kernel
theorem dX8_runText_42 : decode cX8_runText 42 = .ok (.istore_n 3, 1) := by decide +kernel
theorem dX8_runText_43 : decode cX8_runText 43 = .ok (.aload_n 0, 1) := by decide +kernel
theorem dX8_runText_44 : decode cX8_runText 44 = .ok (.iload_n 3, 1) := by decide +kernel
theorem dX8_runText_45 : decode cX8_runText 45 = .ok (.invokevirtual 204, 3) := by decide +kernel
theorem dX8_runText_48 : decode cX8_runText 48 = .ok (.istore 4, 2) := by decide +kernel
theorem dX8_runText_50 : decode cX8_runText 50 = .ok (.iload 4, 2) := by decide +kernel
theorem dX8_runText_52 : decode cX8_runText 52 = .ok (.ifCond .eq 11, 3) := by decide +kernel
theorem dX8_runText_55 : decode cX8_runText 55 = .ok (.aload_n 0, 1) := by decide +kernel
theorem dX8_runText_56 : decode cX8_runText 56 = .ok (.iload_n 3, 1) := by decide +kernel
theorem dX8_runText_57 : decode cX8_runText 57 = .ok (.invokevirtual 207, 3) := by decide +kernel
theorem dX8_runText_60 : decode cX8_runText 60 = .ok (.goto 5, 3) := by decide +kernel
theorem dX8_runText_63 : decode cX8_runText 63 = .ok (.bipush (-2), 2) := by decide +kernel
theorem dX8_runText_65 : decode cX8_runText 65 = .ok (.istore 5, 2) := by decide +kernel
theorem dX8_runText_67 : decode cX8_runText 67 = .ok (.iload_n 1, 1) := by decide +kernel
theorem dX8_runText_68 : decode cX8_runText 68 = .ok (.iload 4, 2) := by decide +kernel
theorem dX8_runText_70 : decode cX8_runText 70 = .ok (.ifCond .eq 7, 3) := by decide +kernel
theorem dX8_runText_73 : decode cX8_runText 73 = .ok (.iconst 1, 1) := by decide +kernel
theorem dX8_runText_74 : decode cX8_runText 74 = .ok (.goto 4, 3) := by decide +kernel
theorem dX8_runText_77 : decode cX8_runText 77 = .ok (.iconst 0, 1) := by decide +kernel
theorem dX8_runText_78 : decode cX8_runText 78 = .ok (.iadd, 1) := by decide +kernel
theorem dX8_runText_79 : decode cX8_runText 79 = .ok (.istore_n 1, 1) := by decide +kernel
theorem dX8_runText_80 : decode cX8_runText 80 = .ok (.iload 4, 2) := by decide +kernel
theorem dX8_runText_82 : decode cX8_runText 82 = .ok (.ifCond .eq 21, 3) := by decide +kernel
theorem dX8_runText_85 : decode cX8_runText 85 = .ok (.iload 5, 2) := by decide +kernel
theorem dX8_runText_87 : decode cX8_runText 87 = .ok (.ifCond .lt 16, 3) := by decide +kernel
theorem dX8_runText_90 : decode cX8_runText 90 = .ok (.aload_n 0, 1) := by decide +kernel
theorem dX8_runText_91 : decode cX8_runText 91 = .ok (.bipush 59, 2) := by decide +kernel
theorem dX8_runText_93 : decode cX8_runText 93 = .ok (.invokevirtual 153, 3) := by decide +kernel
theorem dX8_runText_96 : decode cX8_runText 96 = .ok (.ifCond .eq 7, 3) := by decide +kernel
theorem dX8_runText_99 : decode cX8_runText 99 = .ok (.iconst 1, 1) := by decide +kernel
theorem dX8_runText_100 : decode cX8_runText 100 = .ok (.goto 4, 3) := by decide +kernel
theorem dX8_runText_103 : decode cX8_runText 103 = .ok (.iconst 0, 1) := by decide +kernel
theorem dX8_runText_104 : decode cX8_runText 104 = .ok (.istore_n 2, 1) := by decide +kernel
theorem dX8_runText_105 : decode cX8_runText 105 = .ok (.goto (-71), 3) := by decide +kernel
theorem dX8_runText_108 : decode cX8_runText 108 = .ok (.iload_n 1, 1) := by decide +kernel
theorem dX8_runText_109 : decode cX8_runText 109 = .ok (.ireturn, 1) := by decide +kernel
set_option maxRecDepth 20000 in
theorem ggX8_exists_X8_isTable : GoodIn wsX8_exists wsX8_isTable := goodIn_r _ [5, 6, 7, 4, 8] (by decide +kernel) (by decide +kernel)
set_option maxRecDepth 20000 in
theorem gX8_exists_X8_isTable : GoodIn wsX8_exists (va_wsS RX8 81 yX8_isTable wsX8_isTable) := goodIn_app (goodIn_of _ (by decide +kernel)) ggX8_exists_X8_isTable
set_option maxRecDepth 20000 in
theorem ggX8_exists_X8_isKey : GoodIn wsX8_exists wsX8_isKey := goodIn_r _ [11, 6, 7, 4, 8] (by decide +kernel) (by decide +kernel)
set_option maxRecDepth 20000 in
theorem gX8_exists_X8_isKey : GoodIn wsX8_exists (va_wsS RX8 120 yX8_isKey wsX8_isKey) := goodIn_app (goodIn_of _ (by decide +kernel)) ggX8_exists_X8_isKey
set_option maxRecDepth 20000 in
theorem ggX8_exists_X8_goes : GoodIn wsX8_exists wsX8_goes := goodIn_r _ [15, 16, 20, 21, 22, 23, 24, 25, 26, 27, 28, 29, 30, 31, 32, 33, 34, 35, 36, 37, 38, 39] (by decide +kernel) (by decide +kernel)
set_option maxRecDepth 20000 in
theorem gX8_exists_X8_goes : GoodIn wsX8_exists (wsV RX8 88 RX8 yX8_goes wsX8_goes) := goodIn_app (goodIn_of _ (by decide +kernel)) ggX8_exists_X8_goes
set_option maxRecDepth 20000 in
theorem ggX8_exists_X8_row : GoodIn wsX8_exists wsX8_row := goodIn_r _ [19] (by decide +kernel) (by decide +kernel)
set_option maxRecDepth 20000 in
theorem gX8_exists_X8_row : GoodIn wsX8_exists (va_wsS RX8 53 yX8_row wsX8_row) := goodIn_app (goodIn_of _ (by decide +kernel)) ggX8_exists_X8_row
theorem dX8_exists_0 : decode cX8_exists 0 = .ok (.aload_n 0, 1) := by decide +kernel
theorem dX8_exists_1 : decode cX8_exists 1 = .ok (.iload_n 1, 1) := by decide +kernel
theorem dX8_exists_2 : decode cX8_exists 2 = .ok (.invokestatic 81, 3) := by decide +kernel
theorem dX8_exists_5 : decode cX8_exists 5 = .ok (.ifCond .eq 14, 3) := by decide +kernel
theorem dX8_exists_8 : decode cX8_exists 8 = .ok (.iload_n 2, 1) := by decide +kernel
theorem dX8_exists_9 : decode cX8_exists 9 = .ok (.invokestatic 120, 3) := by decide +kernel
theorem dX8_exists_12 : decode cX8_exists 12 = .ok (.ifCond .eq 7, 3) := by decide +kernel
theorem dX8_exists_15 : decode cX8_exists 15 = .ok (.iconst 1, 1) := by decide +kernel
theorem dX8_exists_16 : decode cX8_exists 16 = .ok (.goto 4, 3) := by decide +kernel
theorem dX8_exists_19 : decode cX8_exists 19 = .ok (.iconst 0, 1) := by decide +kernel
theorem dX8_exists_20 : decode cX8_exists 20 = .ok (.iconst 1, 1) := by decide +kernel
theorem dX8_exists_21 : decode cX8_exists 21 = .ok (.iconst 1, 1) := by decide +kernel
theorem dX8_exists_22 : decode cX8_exists 22 = .ok (.invokevirtual 88, 3) := by decide +kernel
theorem dX8_exists_25 : decode cX8_exists 25 = .ok (.ifCond .eq 20, 3) := by decide +kernel
theorem dX8_exists_28 : decode cX8_exists 28 = .ok (.aload_n 0, 1) := by decide +kernel
theorem dX8_exists_29 : decode cX8_exists 29 = .ok (.getfield 7, 3) := by decide +kernel
theorem dX8_exists_32 : decode cX8_exists 32 = .ok (.iload_n 1, 1) := by decide +kernel
theorem dX8_exists_33 : decode cX8_exists 33 = .ok (.iload_n 2, 1) := by decide +kernel
theorem dX8_exists_34 : decode cX8_exists 34 = .ok (.invokestatic 53, 3) := by decide +kernel
theorem dX8_exists_37 : decode cX8_exists 37 = .ok (.baload, 1) := by decide +kernel
theorem dX8_exists_38 : decode cX8_exists 38 = .ok (.ifCond .eq 7, 3) := by decide +kernel
theorem dX8_exists_41 : decode cX8_exists 41 = .ok (.iconst 1, 1) := by decide +kernel
theorem dX8_exists_42 : decode cX8_exists 42 = .ok (.goto 4, 3) := by decide +kernel
theorem dX8_exists_45 : decode cX8_exists 45 = .ok (.iconst 0, 1) := by decide +kernel
theorem dX8_exists_46 : decode cX8_exists 46 = .ok (.ireturn, 1) := by decide +kernel
set_option maxRecDepth 20000 in
theorem ggX8_value_X8_isTable : GoodIn wsX8_value wsX8_isTable := goodIn_r _ [6, 7, 8, 5, 9] (by decide +kernel) (by decide +kernel)
set_option maxRecDepth 20000 in
theorem gX8_value_X8_isTable : GoodIn wsX8_value (va_wsS RX8 81 yX8_isTable wsX8_isTable) := goodIn_app (goodIn_of _ (by decide +kernel)) ggX8_value_X8_isTable
set_option maxRecDepth 20000 in
theorem ggX8_value_X8_isKey : GoodIn wsX8_value wsX8_isKey := goodIn_r _ [12, 7, 8, 5, 9] (by decide +kernel) (by decide +kernel)
set_option maxRecDepth 20000 in
theorem gX8_value_X8_isKey : GoodIn wsX8_value (va_wsS RX8 120 yX8_isKey wsX8_isKey) := goodIn_app (goodIn_of _ (by decide +kernel)) ggX8_value_X8_isKey
set_option maxRecDepth 20000 in
theorem ggX8_value_X8_isColumn : GoodIn wsX8_value wsX8_isColumn := goodIn_r _ [15] (by decide +kernel) (by decide +kernel)
set_option maxRecDepth 20000 in
theorem gX8_value_X8_isColumn : GoodIn wsX8_value (va_wsS RX8 85 yX8_isColumn wsX8_isColumn) := goodIn_app (goodIn_of _ (by decide +kernel)) ggX8_value_X8_isColumn
set_option maxRecDepth 20000 in
theorem ggX8_value_X8_goes : GoodIn wsX8_value wsX8_goes := goodIn_r _ [19, 20, 24, 25, 26, 27, 28, 29, 30, 31, 32, 33, 34, 35, 36, 37, 38, 39, 40, 41, 42, 43] (by decide +kernel) (by decide +kernel)
set_option maxRecDepth 20000 in
theorem gX8_value_X8_goes : GoodIn wsX8_value (wsV RX8 88 RX8 yX8_goes wsX8_goes) := goodIn_app (goodIn_of _ (by decide +kernel)) ggX8_value_X8_goes
set_option maxRecDepth 20000 in
theorem ggX8_value_X8_row : GoodIn wsX8_value wsX8_row := goodIn_r _ [23] (by decide +kernel) (by decide +kernel)
set_option maxRecDepth 20000 in
theorem gX8_value_X8_row : GoodIn wsX8_value (va_wsS RX8 53 yX8_row wsX8_row) := goodIn_app (goodIn_of _ (by decide +kernel)) ggX8_value_X8_row
theorem dX8_value_0 : decode cX8_value 0 = .ok (.aload_n 0, 1) := by decide +kernel
theorem dX8_value_1 : decode cX8_value 1 = .ok (.iload_n 1, 1) := by decide +kernel
theorem dX8_value_2 : decode cX8_value 2 = .ok (.invokestatic 81, 3) := by decide +kernel
theorem dX8_value_5 : decode cX8_value 5 = .ok (.ifCond .eq 21, 3) := by decide +kernel
theorem dX8_value_8 : decode cX8_value 8 = .ok (.iload_n 2, 1) := by decide +kernel
theorem dX8_value_9 : decode cX8_value 9 = .ok (.invokestatic 120, 3) := by decide +kernel
theorem dX8_value_12 : decode cX8_value 12 = .ok (.ifCond .eq 14, 3) := by decide +kernel
theorem dX8_value_15 : decode cX8_value 15 = .ok (.iload_n 3, 1) := by decide +kernel
theorem dX8_value_16 : decode cX8_value 16 = .ok (.invokestatic 85, 3) := by decide +kernel
theorem dX8_value_19 : decode cX8_value 19 = .ok (.ifCond .eq 7, 3) := by decide +kernel
theorem dX8_value_22 : decode cX8_value 22 = .ok (.iconst 1, 1) := by decide +kernel
theorem dX8_value_23 : decode cX8_value 23 = .ok (.goto 4, 3) := by decide +kernel
theorem dX8_value_26 : decode cX8_value 26 = .ok (.iconst 0, 1) := by decide +kernel
theorem dX8_value_27 : decode cX8_value 27 = .ok (.iconst 1, 1) := by decide +kernel
theorem dX8_value_28 : decode cX8_value 28 = .ok (.iconst 1, 1) := by decide +kernel
theorem dX8_value_29 : decode cX8_value 29 = .ok (.invokevirtual 88, 3) := by decide +kernel
theorem dX8_value_32 : decode cX8_value 32 = .ok (.ifCond .ne 5, 3) := by decide +kernel
theorem dX8_value_35 : decode cX8_value 35 = .ok (.iconst 0, 1) := by decide +kernel
theorem dX8_value_36 : decode cX8_value 36 = .ok (.ireturn, 1) := by decide +kernel
theorem dX8_value_37 : decode cX8_value 37 = .ok (.aload_n 0, 1) := by decide +kernel
theorem dX8_value_38 : decode cX8_value 38 = .ok (.getfield 7, 3) := by decide +kernel
theorem dX8_value_41 : decode cX8_value 41 = .ok (.iload_n 1, 1) := by decide +kernel
theorem dX8_value_42 : decode cX8_value 42 = .ok (.iload_n 2, 1) := by decide +kernel
theorem dX8_value_43 : decode cX8_value 43 = .ok (.invokestatic 53, 3) := by decide +kernel
theorem dX8_value_46 : decode cX8_value 46 = .ok (.baload, 1) := by decide +kernel
theorem dX8_value_47 : decode cX8_value 47 = .ok (.ifCond .eq 20, 3) := by decide +kernel
theorem dX8_value_50 : decode cX8_value 50 = .ok (.aload_n 0, 1) := by decide +kernel
theorem dX8_value_51 : decode cX8_value 51 = .ok (.getfield 13, 3) := by decide +kernel
theorem dX8_value_54 : decode cX8_value 54 = .ok (.iconst 2, 1) := by decide +kernel
theorem dX8_value_55 : decode cX8_value 55 = .ok (.iload_n 1, 1) := by decide +kernel
theorem dX8_value_56 : decode cX8_value 56 = .ok (.iload_n 2, 1) := by decide +kernel
theorem dX8_value_57 : decode cX8_value 57 = .ok (.invokestatic 53, 3) := by decide +kernel
theorem dX8_value_60 : decode cX8_value 60 = .ok (.imul, 1) := by decide +kernel
theorem dX8_value_61 : decode cX8_value 61 = .ok (.iload_n 3, 1) := by decide +kernel
theorem dX8_value_62 : decode cX8_value 62 = .ok (.iadd, 1) := by decide +kernel
theorem dX8_value_63 : decode cX8_value 63 = .ok (.iaload, 1) := by decide +kernel
theorem dX8_value_64 : decode cX8_value 64 = .ok (.goto 5, 3) := by decide +kernel
theorem dX8_value_67 : decode cX8_value 67 = .ok (.bipush (-2), 2) := by decide +kernel
theorem dX8_value_69 : decode cX8_value 69 = .ok (.ireturn, 1) := by decide +kernel
set_option maxRecDepth 20000 in
theorem ggX8_rows_X8_isTable : GoodIn wsX8_rows wsX8_isTable := goodIn_r _ [5, 6, 7, 4, 8] (by decide +kernel) (by decide +kernel)
set_option maxRecDepth 20000 in
theorem gX8_rows_X8_isTable : GoodIn wsX8_rows (va_wsS RX8 81 yX8_isTable wsX8_isTable) := goodIn_app (goodIn_of _ (by decide +kernel)) ggX8_rows_X8_isTable
set_option maxRecDepth 20000 in
theorem ggX8_rows_X8_goes : GoodIn wsX8_rows wsX8_goes := goodIn_r _ [12, 13, 17, 18, 19, 20, 21, 22, 23, 24, 25, 26, 27, 28, 29, 30, 31, 32, 33, 34, 35, 36] (by decide +kernel) (by decide +kernel)
set_option maxRecDepth 20000 in
theorem gX8_rows_X8_goes : GoodIn wsX8_rows (wsV RX8 88 RX8 yX8_goes wsX8_goes) := goodIn_app (goodIn_of _ (by decide +kernel)) ggX8_rows_X8_goes
set_option maxRecDepth 20000 in
theorem ggX8_rows_X8_row : GoodIn wsX8_rows wsX8_row := goodIn_r _ [16] (by decide +kernel) (by decide +kernel)
set_option maxRecDepth 20000 in
theorem gX8_rows_X8_row : GoodIn wsX8_rows (va_wsS RX8 53 yX8_row wsX8_row) := goodIn_app (goodIn_of _ (by decide +kernel)) ggX8_rows_X8_row
theorem dX8_rows_0 : decode cX8_rows 0 = .ok (.aload_n 0, 1) := by decide +kernel
theorem dX8_rows_1 : decode cX8_rows 1 = .ok (.iload_n 1, 1) := by decide +kernel
theorem dX8_rows_2 : decode cX8_rows 2 = .ok (.invokestatic 81, 3) := by decide +kernel
theorem dX8_rows_5 : decode cX8_rows 5 = .ok (.iconst 1, 1) := by decide +kernel
theorem dX8_rows_6 : decode cX8_rows 6 = .ok (.iconst 1, 1) := by decide +kernel
theorem dX8_rows_7 : decode cX8_rows 7 = .ok (.invokevirtual 88, 3) := by decide +kernel
theorem dX8_rows_10 : decode cX8_rows 10 = .ok (.ifCond .ne 5, 3) := by decide +kernel
theorem dX8_rows_13 : decode cX8_rows 13 = .ok (.iconst 0, 1) := by decide +kernel
theorem dX8_rows_14 : decode cX8_rows 14 = .ok (.ireturn, 1) := by decide +kernel
theorem dX8_rows_15 : decode cX8_rows 15 = .ok (.iconst 0, 1) := by decide +kernel
theorem dX8_rows_16 : decode cX8_rows 16 = .ok (.istore_n 2, 1) := by decide +kernel
theorem dX8_rows_17 : decode cX8_rows 17 = .ok (.iconst 0, 1) := by decide +kernel
theorem dX8_rows_18 : decode cX8_rows 18 = .ok (.istore_n 3, 1) := by decide +kernel
theorem dX8_rows_19 : decode cX8_rows 19 = .ok (.iload_n 3, 1) := by decide +kernel
theorem dX8_rows_20 : decode cX8_rows 20 = .ok (.bipush 20, 2) := by decide +kernel
theorem dX8_rows_22 : decode cX8_rows 22 = .ok (.if_icmp .ge 30, 3) := by decide +kernel
theorem dX8_rows_25 : decode cX8_rows 25 = .ok (.iload_n 2, 1) := by decide +kernel
theorem dX8_rows_26 : decode cX8_rows 26 = .ok (.aload_n 0, 1) := by decide +kernel
theorem dX8_rows_27 : decode cX8_rows 27 = .ok (.getfield 7, 3) := by decide +kernel
theorem dX8_rows_30 : decode cX8_rows 30 = .ok (.iload_n 1, 1) := by decide +kernel
theorem dX8_rows_31 : decode cX8_rows 31 = .ok (.iload_n 3, 1) := by decide +kernel
theorem dX8_rows_32 : decode cX8_rows 32 = .ok (.invokestatic 53, 3) := by decide +kernel
theorem dX8_rows_35 : decode cX8_rows 35 = .ok (.baload, 1) := by decide +kernel
theorem dX8_rows_36 : decode cX8_rows 36 = .ok (.ifCond .eq 7, 3) := by decide +kernel
theorem dX8_rows_39 : decode cX8_rows 39 = .ok (.iconst 1, 1) := by decide +kernel
theorem dX8_rows_40 : decode cX8_rows 40 = .ok (.goto 4, 3) := by decide +kernel
theorem dX8_rows_43 : decode cX8_rows 43 = .ok (.iconst 0, 1) := by decide +kernel
theorem dX8_rows_44 : decode cX8_rows 44 = .ok (.iadd, 1) := by decide +kernel
theorem dX8_rows_45 : decode cX8_rows 45 = .ok (.istore_n 2, 1) := by decide +kernel
theorem dX8_rows_46 : decode cX8_rows 46 = .ok (.iinc 3 1, 3) := by decide +kernel
theorem dX8_rows_49 : decode cX8_rows 49 = .ok (.goto (-30), 3) := by decide +kernel
theorem dX8_rows_52 : decode cX8_rows 52 = .ok (.iload_n 2, 1) := by decide +kernel
theorem dX8_rows_53 : decode cX8_rows 53 = .ok (.ireturn, 1) := by decide +kernel
set_option maxRecDepth 20000 in
theorem ggX8_references_X8_isTable : GoodIn wsX8_references wsX8_isTable := goodIn_r _ [4, 5, 6, 3, 7] (by decide +kernel) (by decide +kernel)
set_option maxRecDepth 20000 in
theorem gX8_references_X8_isTable : GoodIn wsX8_references (va_wsS RX8 81 yX8_isTable wsX8_isTable) := goodIn_app (goodIn_of _ (by decide +kernel)) ggX8_references_X8_isTable
set_option maxRecDepth 20000 in
theorem ggX8_references_X8_isKey : GoodIn wsX8_references wsX8_isKey := goodIn_r _ [10, 5, 6, 3, 7] (by decide +kernel) (by decide +kernel)
set_option maxRecDepth 20000 in
theorem gX8_references_X8_isKey : GoodIn wsX8_references (va_wsS RX8 120 yX8_isKey wsX8_isKey) := goodIn_app (goodIn_of _ (by decide +kernel)) ggX8_references_X8_isKey
set_option maxRecDepth 20000 in
theorem ggX8_references_X8_goes : GoodIn wsX8_references wsX8_goes := goodIn_r _ [14, 15, 27, 28, 29, 30, 31, 32, 33, 34, 35, 36, 37, 38, 39, 40, 41, 42, 43, 44, 45, 46] (by decide +kernel) (by decide +kernel)
set_option maxRecDepth 20000 in
theorem gX8_references_X8_goes : GoodIn wsX8_references (wsV RX8 88 RX8 yX8_goes wsX8_goes) := goodIn_app (goodIn_of _ (by decide +kernel)) ggX8_references_X8_goes
set_option maxRecDepth 20000 in
theorem ggX8_references_X8_target : GoodIn wsX8_references wsX8_target := goodIn_r _ [19, 20, 21, 22, 23, 24, 25, 3, 26, 27, 28, 29, 30, 31, 32, 33, 34, 35, 36, 37, 38, 39, 40, 41, 42, 43, 44, 45, 46] (by decide +kernel) (by decide +kernel)
set_option maxRecDepth 20000 in
theorem gX8_references_X8_target : GoodIn wsX8_references (wsV RX8 57 RX8 yX8_target wsX8_target) := goodIn_app (goodIn_of _ (by decide +kernel)) ggX8_references_X8_target
set_option maxRecDepth 20000 in
theorem ggX8_references_X8_row : GoodIn wsX8_references wsX8_row := goodIn_r _ [26] (by decide +kernel) (by decide +kernel)
set_option maxRecDepth 20000 in
theorem gX8_references_X8_row : GoodIn wsX8_references (va_wsS RX8 53 yX8_row wsX8_row) := goodIn_app (goodIn_of _ (by decide +kernel)) ggX8_references_X8_row
theorem dX8_references_0 : decode cX8_references 0 = .ok (.aload_n 0, 1) := by decide +kernel
theorem dX8_references_1 : decode cX8_references 1 = .ok (.iload_n 1, 1) := by decide +kernel
theorem dX8_references_2 : decode cX8_references 2 = .ok (.invokestatic 81, 3) := by decide +kernel
theorem dX8_references_5 : decode cX8_references 5 = .ok (.ifCond .eq 14, 3) := by decide +kernel
theorem dX8_references_8 : decode cX8_references 8 = .ok (.iload_n 2, 1) := by decide +kernel
theorem dX8_references_9 : decode cX8_references 9 = .ok (.invokestatic 120, 3) := by decide +kernel
theorem dX8_references_12 : decode cX8_references 12 = .ok (.ifCond .eq 7, 3) := by decide +kernel
theorem dX8_references_15 : decode cX8_references 15 = .ok (.iconst 1, 1) := by decide +kernel
theorem dX8_references_16 : decode cX8_references 16 = .ok (.goto 4, 3) := by decide +kernel
theorem dX8_references_19 : decode cX8_references 19 = .ok (.iconst 0, 1) := by decide +kernel
theorem dX8_references_20 : decode cX8_references 20 = .ok (.iconst 1, 1) := by decide +kernel
theorem dX8_references_21 : decode cX8_references 21 = .ok (.iconst 1, 1) := by decide +kernel
theorem dX8_references_22 : decode cX8_references 22 = .ok (.invokevirtual 88, 3) := by decide +kernel
theorem dX8_references_25 : decode cX8_references 25 = .ok (.ifCond .ne 5, 3) := by decide +kernel
theorem dX8_references_28 : decode cX8_references 28 = .ok (.iconst 0, 1) := by decide +kernel
theorem dX8_references_29 : decode cX8_references 29 = .ok (.ireturn, 1) := by decide +kernel
theorem dX8_references_30 : decode cX8_references 30 = .ok (.iconst 0, 1) := by decide +kernel
theorem dX8_references_31 : decode cX8_references 31 = .ok (.istore_n 3, 1) := by decide +kernel
theorem dX8_references_32 : decode cX8_references 32 = .ok (.iconst 0, 1) := by decide +kernel
theorem dX8_references_33 : decode cX8_references 33 = .ok (.istore 4, 2) := by decide +kernel
theorem dX8_references_35 : decode cX8_references 35 = .ok (.iload 4, 2) := by decide +kernel
theorem dX8_references_37 : decode cX8_references 37 = .ok (.bipush 8, 2) := by decide +kernel
theorem dX8_references_39 : decode cX8_references 39 = .ok (.if_icmp .ge 49, 3) := by decide +kernel
theorem dX8_references_42 : decode cX8_references 42 = .ok (.iconst 0, 1) := by decide +kernel
theorem dX8_references_43 : decode cX8_references 43 = .ok (.istore 5, 2) := by decide +kernel
theorem dX8_references_45 : decode cX8_references 45 = .ok (.iload 5, 2) := by decide +kernel
theorem dX8_references_47 : decode cX8_references 47 = .ok (.bipush 80, 2) := by decide +kernel
theorem dX8_references_49 : decode cX8_references 49 = .ok (.if_icmp .ge 33, 3) := by decide +kernel
theorem dX8_references_52 : decode cX8_references 52 = .ok (.iload_n 3, 1) := by decide +kernel
theorem dX8_references_53 : decode cX8_references 53 = .ok (.aload_n 0, 1) := by decide +kernel
theorem dX8_references_54 : decode cX8_references 54 = .ok (.iload 5, 2) := by decide +kernel
theorem dX8_references_56 : decode cX8_references 56 = .ok (.iload 4, 2) := by decide +kernel
theorem dX8_references_58 : decode cX8_references 58 = .ok (.invokevirtual 57, 3) := by decide +kernel
theorem dX8_references_61 : decode cX8_references 61 = .ok (.iload_n 1, 1) := by decide +kernel
theorem dX8_references_62 : decode cX8_references 62 = .ok (.iload_n 2, 1) := by decide +kernel
theorem dX8_references_63 : decode cX8_references 63 = .ok (.invokestatic 53, 3) := by decide +kernel
theorem dX8_references_66 : decode cX8_references 66 = .ok (.if_icmp .ne 7, 3) := by decide +kernel
theorem dX8_references_69 : decode cX8_references 69 = .ok (.iconst 1, 1) := by decide +kernel
theorem dX8_references_70 : decode cX8_references 70 = .ok (.goto 4, 3) := by decide +kernel
theorem dX8_references_73 : decode cX8_references 73 = .ok (.iconst 0, 1) := by decide +kernel
theorem dX8_references_74 : decode cX8_references 74 = .ok (.iadd, 1) := by decide +kernel
theorem dX8_references_75 : decode cX8_references 75 = .ok (.istore_n 3, 1) := by decide +kernel
theorem dX8_references_76 : decode cX8_references 76 = .ok (.iinc 5 1, 3) := by decide +kernel
theorem dX8_references_79 : decode cX8_references 79 = .ok (.goto (-34), 3) := by decide +kernel
theorem dX8_references_82 : decode cX8_references 82 = .ok (.iinc 4 1, 3) := by decide +kernel
theorem dX8_references_85 : decode cX8_references 85 = .ok (.goto (-50), 3) := by decide +kernel
theorem dX8_references_88 : decode cX8_references 88 = .ok (.iload_n 3, 1) := by decide +kernel
theorem dX8_references_89 : decode cX8_references 89 = .ok (.ireturn, 1) := by decide +kernel
set_option maxRecDepth 20000 in
theorem ggX8_reaches_X8_target : GoodIn wsX8_reaches wsX8_target := goodIn_r _ [7, 1, 8, 9, 10, 11, 12, 6, 13, 14, 15, 16, 17, 18, 19, 20, 21, 22, 23, 24, 25, 26, 27, 28, 29, 30, 31, 32, 33] (by decide +kernel) (by decide +kernel)
set_option maxRecDepth 20000 in
theorem gX8_reaches_X8_target : GoodIn wsX8_reaches (wsV RX8 57 RX8 yX8_target wsX8_target) := goodIn_app (goodIn_of _ (by decide +kernel)) ggX8_reaches_X8_target
theorem dX8_reaches_0 : decode cX8_reaches 0 = .ok (.iconst 0, 1) := by decide +kernel
theorem dX8_reaches_1 : decode cX8_reaches 1 = .ok (.istore_n 2, 1) := by decide +kernel
theorem dX8_reaches_2 : decode cX8_reaches 2 = .ok (.iconst 0, 1) := by decide +kernel
theorem dX8_reaches_3 : decode cX8_reaches 3 = .ok (.istore_n 3, 1) := by decide +kernel
theorem dX8_reaches_4 : decode cX8_reaches 4 = .ok (.iload_n 3, 1) := by decide +kernel
theorem dX8_reaches_5 : decode cX8_reaches 5 = .ok (.bipush 8, 2) := by decide +kernel
theorem dX8_reaches_7 : decode cX8_reaches 7 = .ok (.if_icmp .ge 54, 3) := by decide +kernel
theorem dX8_reaches_10 : decode cX8_reaches 10 = .ok (.aload_n 0, 1) := by decide +kernel
theorem dX8_reaches_11 : decode cX8_reaches 11 = .ok (.iload_n 1, 1) := by decide +kernel
theorem dX8_reaches_12 : decode cX8_reaches 12 = .ok (.iload_n 3, 1) := by decide +kernel
theorem dX8_reaches_13 : decode cX8_reaches 13 = .ok (.invokevirtual 57, 3) := by decide +kernel
theorem dX8_reaches_16 : decode cX8_reaches 16 = .ok (.istore 4, 2) := by decide +kernel
theorem dX8_reaches_18 : decode cX8_reaches 18 = .ok (.iload 4, 2) := by decide +kernel
theorem dX8_reaches_20 : decode cX8_reaches 20 = .ok (.bipush (-2), 2) := by decide +kernel
theorem dX8_reaches_22 : decode cX8_reaches 22 = .ok (.if_icmp .eq 33, 3) := by decide +kernel
theorem dX8_reaches_25 : decode cX8_reaches 25 = .ok (.aload_n 0, 1) := by decide +kernel
theorem dX8_reaches_26 : decode cX8_reaches 26 = .ok (.getfield 7, 3) := by decide +kernel
theorem dX8_reaches_29 : decode cX8_reaches 29 = .ok (.iload 4, 2) := by decide +kernel
theorem dX8_reaches_31 : decode cX8_reaches 31 = .ok (.baload, 1) := by decide +kernel
theorem dX8_reaches_32 : decode cX8_reaches 32 = .ok (.ifCond .eq 23, 3) := by decide +kernel
theorem dX8_reaches_35 : decode cX8_reaches 35 = .ok (.aload_n 0, 1) := by decide +kernel
theorem dX8_reaches_36 : decode cX8_reaches 36 = .ok (.getfield 42, 3) := by decide +kernel
theorem dX8_reaches_39 : decode cX8_reaches 39 = .ok (.iload 4, 2) := by decide +kernel
theorem dX8_reaches_41 : decode cX8_reaches 41 = .ok (.baload, 1) := by decide +kernel
theorem dX8_reaches_42 : decode cX8_reaches 42 = .ok (.ifCond .ne 13, 3) := by decide +kernel
theorem dX8_reaches_45 : decode cX8_reaches 45 = .ok (.aload_n 0, 1) := by decide +kernel
theorem dX8_reaches_46 : decode cX8_reaches 46 = .ok (.getfield 42, 3) := by decide +kernel
theorem dX8_reaches_49 : decode cX8_reaches 49 = .ok (.iload 4, 2) := by decide +kernel
theorem dX8_reaches_51 : decode cX8_reaches 51 = .ok (.iconst 1, 1) := by decide +kernel
theorem dX8_reaches_52 : decode cX8_reaches 52 = .ok (.bastore, 1) := by decide +kernel
theorem dX8_reaches_53 : decode cX8_reaches 53 = .ok (.iconst 1, 1) := by decide +kernel
theorem dX8_reaches_54 : decode cX8_reaches 54 = .ok (.istore_n 2, 1) := by decide +kernel
theorem dX8_reaches_55 : decode cX8_reaches 55 = .ok (.iinc 3 1, 3) := by decide +kernel
theorem dX8_reaches_58 : decode cX8_reaches 58 = .ok (.goto (-54), 3) := by decide +kernel
theorem dX8_reaches_61 : decode cX8_reaches 61 = .ok (.iload_n 2, 1) := by decide +kernel
theorem dX8_reaches_62 : decode cX8_reaches 62 = .ok (.ireturn, 1) := by decide +kernel
set_option maxRecDepth 20000 in
theorem ggX8_ancestors_X8_isTable : GoodIn wsX8_ancestors wsX8_isTable := goodIn_r _ [6, 7, 8, 5, 9] (by decide +kernel) (by decide +kernel)
set_option maxRecDepth 20000 in
theorem gX8_ancestors_X8_isTable : GoodIn wsX8_ancestors (va_wsS RX8 81 yX8_isTable wsX8_isTable) := goodIn_app (goodIn_of _ (by decide +kernel)) ggX8_ancestors_X8_isTable
set_option maxRecDepth 20000 in
theorem ggX8_ancestors_X8_isKey : GoodIn wsX8_ancestors wsX8_isKey := goodIn_r _ [12, 7, 8, 5, 9] (by decide +kernel) (by decide +kernel)
set_option maxRecDepth 20000 in
theorem gX8_ancestors_X8_isKey : GoodIn wsX8_ancestors (va_wsS RX8 120 yX8_isKey wsX8_isKey) := goodIn_app (goodIn_of _ (by decide +kernel)) ggX8_ancestors_X8_isKey
set_option maxRecDepth 20000 in
theorem ggX8_ancestors_X8_goes : GoodIn wsX8_ancestors wsX8_goes := goodIn_r _ [16, 17, 32, 33, 34, 35, 36, 37, 38, 39, 40, 41, 42, 43, 44, 45, 46, 47, 48, 49, 50, 51] (by decide +kernel) (by decide +kernel)
set_option maxRecDepth 20000 in
theorem gX8_ancestors_X8_goes : GoodIn wsX8_ancestors (wsV RX8 88 RX8 yX8_goes wsX8_goes) := goodIn_app (goodIn_of _ (by decide +kernel)) ggX8_ancestors_X8_goes
set_option maxRecDepth 20000 in
theorem ggX8_ancestors_X8_row : GoodIn wsX8_ancestors wsX8_row := goodIn_r _ [20] (by decide +kernel) (by decide +kernel)
set_option maxRecDepth 20000 in
theorem gX8_ancestors_X8_row : GoodIn wsX8_ancestors (va_wsS RX8 53 yX8_row wsX8_row) := goodIn_app (goodIn_of _ (by decide +kernel)) ggX8_ancestors_X8_row
set_option maxRecDepth 20000 in
theorem ggX8_ancestors_X8_reaches : GoodIn wsX8_ancestors wsX8_reaches := goodIn_r _ [24, 1, 2, 25, 26, 27, 5, 28, 29, 30, 31, 18, 19, 20, 32, 33, 34, 35, 36, 37, 38, 39, 40, 41, 42, 43, 44, 45, 46, 47, 48, 49, 50, 51] (by decide +kernel) (by decide +kernel)
set_option maxRecDepth 20000 in
theorem gX8_ancestors_X8_reaches : GoodIn wsX8_ancestors (wsV RX8 210 RX8 yX8_reaches wsX8_reaches) := goodIn_app (goodIn_of _ (by decide +kernel)) ggX8_ancestors_X8_reaches
theorem dX8_ancestors_0 : decode cX8_ancestors 0 = .ok (.aload_n 0, 1) := by decide +kernel
theorem dX8_ancestors_1 : decode cX8_ancestors 1 = .ok (.iload_n 1, 1) := by decide +kernel
theorem dX8_ancestors_2 : decode cX8_ancestors 2 = .ok (.invokestatic 81, 3) := by decide +kernel
theorem dX8_ancestors_5 : decode cX8_ancestors 5 = .ok (.ifCond .eq 14, 3) := by decide +kernel
theorem dX8_ancestors_8 : decode cX8_ancestors 8 = .ok (.iload_n 2, 1) := by decide +kernel
theorem dX8_ancestors_9 : decode cX8_ancestors 9 = .ok (.invokestatic 120, 3) := by decide +kernel
theorem dX8_ancestors_12 : decode cX8_ancestors 12 = .ok (.ifCond .eq 7, 3) := by decide +kernel
theorem dX8_ancestors_15 : decode cX8_ancestors 15 = .ok (.iconst 1, 1) := by decide +kernel
theorem dX8_ancestors_16 : decode cX8_ancestors 16 = .ok (.goto 4, 3) := by decide +kernel
theorem dX8_ancestors_19 : decode cX8_ancestors 19 = .ok (.iconst 0, 1) := by decide +kernel
theorem dX8_ancestors_20 : decode cX8_ancestors 20 = .ok (.iconst 1, 1) := by decide +kernel
theorem dX8_ancestors_21 : decode cX8_ancestors 21 = .ok (.iconst 1, 1) := by decide +kernel
theorem dX8_ancestors_22 : decode cX8_ancestors 22 = .ok (.invokevirtual 88, 3) := by decide +kernel
theorem dX8_ancestors_25 : decode cX8_ancestors 25 = .ok (.ifCond .ne 5, 3) := by decide +kernel
theorem dX8_ancestors_28 : decode cX8_ancestors 28 = .ok (.iconst 0, 1) := by decide +kernel
theorem dX8_ancestors_29 : decode cX8_ancestors 29 = .ok (.ireturn, 1) := by decide +kernel
theorem dX8_ancestors_30 : decode cX8_ancestors 30 = .ok (.aload_n 0, 1) := by decide +kernel
theorem dX8_ancestors_31 : decode cX8_ancestors 31 = .ok (.getfield 7, 3) := by decide +kernel
theorem dX8_ancestors_34 : decode cX8_ancestors 34 = .ok (.iload_n 1, 1) := by decide +kernel
theorem dX8_ancestors_35 : decode cX8_ancestors 35 = .ok (.iload_n 2, 1) := by decide +kernel
theorem dX8_ancestors_36 : decode cX8_ancestors 36 = .ok (.invokestatic 53, 3) := by decide +kernel
theorem dX8_ancestors_39 : decode cX8_ancestors 39 = .ok (.baload, 1) := by decide +kernel
theorem dX8_ancestors_40 : decode cX8_ancestors 40 = .ok (.ifCond .ne 6, 3) := by decide +kernel
theorem dX8_ancestors_43 : decode cX8_ancestors 43 = .ok (.bipush (-2), 2) := by decide +kernel
theorem dX8_ancestors_45 : decode cX8_ancestors 45 = .ok (.ireturn, 1) := by decide +kernel
theorem dX8_ancestors_46 : decode cX8_ancestors 46 = .ok (.iconst 0, 1) := by decide +kernel
theorem dX8_ancestors_47 : decode cX8_ancestors 47 = .ok (.istore_n 3, 1) := by decide +kernel
theorem dX8_ancestors_48 : decode cX8_ancestors 48 = .ok (.iload_n 3, 1) := by decide +kernel
theorem dX8_ancestors_49 : decode cX8_ancestors 49 = .ok (.bipush 80, 2) := by decide +kernel
theorem dX8_ancestors_51 : decode cX8_ancestors 51 = .ok (.if_icmp .ge 16, 3) := by decide +kernel
theorem dX8_ancestors_54 : decode cX8_ancestors 54 = .ok (.aload_n 0, 1) := by decide +kernel
theorem dX8_ancestors_55 : decode cX8_ancestors 55 = .ok (.getfield 42, 3) := by decide +kernel
theorem dX8_ancestors_58 : decode cX8_ancestors 58 = .ok (.iload_n 3, 1) := by decide +kernel
theorem dX8_ancestors_59 : decode cX8_ancestors 59 = .ok (.iconst 0, 1) := by decide +kernel
theorem dX8_ancestors_60 : decode cX8_ancestors 60 = .ok (.bastore, 1) := by decide +kernel
theorem dX8_ancestors_61 : decode cX8_ancestors 61 = .ok (.iinc 3 1, 3) := by decide +kernel
theorem dX8_ancestors_64 : decode cX8_ancestors 64 = .ok (.goto (-16), 3) := by decide +kernel
theorem dX8_ancestors_67 : decode cX8_ancestors 67 = .ok (.aload_n 0, 1) := by decide +kernel
theorem dX8_ancestors_68 : decode cX8_ancestors 68 = .ok (.iload_n 1, 1) := by decide +kernel
theorem dX8_ancestors_69 : decode cX8_ancestors 69 = .ok (.iload_n 2, 1) := by decide +kernel
theorem dX8_ancestors_70 : decode cX8_ancestors 70 = .ok (.invokestatic 53, 3) := by decide +kernel
theorem dX8_ancestors_73 : decode cX8_ancestors 73 = .ok (.invokevirtual 210, 3) := by decide +kernel
theorem dX8_ancestors_76 : decode cX8_ancestors 76 = .ok (.istore_n 3, 1) := by decide +kernel
theorem dX8_ancestors_77 : decode cX8_ancestors 77 = .ok (.iload_n 3, 1) := by decide +kernel
theorem dX8_ancestors_78 : decode cX8_ancestors 78 = .ok (.ifCond .eq 53, 3) := by decide +kernel
theorem dX8_ancestors_81 : decode cX8_ancestors 81 = .ok (.iconst 0, 1) := by decide +kernel
theorem dX8_ancestors_82 : decode cX8_ancestors 82 = .ok (.istore_n 3, 1) := by decide +kernel
theorem dX8_ancestors_83 : decode cX8_ancestors 83 = .ok (.iconst 0, 1) := by decide +kernel
theorem dX8_ancestors_84 : decode cX8_ancestors 84 = .ok (.istore 4, 2) := by decide +kernel
theorem dX8_ancestors_86 : decode cX8_ancestors 86 = .ok (.iload 4, 2) := by decide +kernel
theorem dX8_ancestors_88 : decode cX8_ancestors 88 = .ok (.bipush 80, 2) := by decide +kernel
theorem dX8_ancestors_90 : decode cX8_ancestors 90 = .ok (.if_icmp .ge 38, 3) := by decide +kernel
theorem dX8_ancestors_93 : decode cX8_ancestors 93 = .ok (.aload_n 0, 1) := by decide +kernel
theorem dX8_ancestors_94 : decode cX8_ancestors 94 = .ok (.getfield 42, 3) := by decide +kernel
theorem dX8_ancestors_97 : decode cX8_ancestors 97 = .ok (.iload 4, 2) := by decide +kernel
theorem dX8_ancestors_99 : decode cX8_ancestors 99 = .ok (.baload, 1) := by decide +kernel
theorem dX8_ancestors_100 : decode cX8_ancestors 100 = .ok (.ifCond .eq 12, 3) := by decide +kernel
theorem dX8_ancestors_103 : decode cX8_ancestors 103 = .ok (.aload_n 0, 1) := by decide +kernel
theorem dX8_ancestors_104 : decode cX8_ancestors 104 = .ok (.iload 4, 2) := by decide +kernel
theorem dX8_ancestors_106 : decode cX8_ancestors 106 = .ok (.invokevirtual 210, 3) := by decide +kernel
theorem dX8_ancestors_109 : decode cX8_ancestors 109 = .ok (.ifCond .ne 7, 3) := by decide +kernel
theorem dX8_ancestors_112 : decode cX8_ancestors 112 = .ok (.iload_n 3, 1) := by decide +kernel
theorem dX8_ancestors_113 : decode cX8_ancestors 113 = .ok (.ifCond .eq 7, 3) := by decide +kernel
theorem dX8_ancestors_116 : decode cX8_ancestors 116 = .ok (.iconst 1, 1) := by decide +kernel
theorem dX8_ancestors_117 : decode cX8_ancestors 117 = .ok (.goto 4, 3) := by decide +kernel
theorem dX8_ancestors_120 : decode cX8_ancestors 120 = .ok (.iconst 0, 1) := by decide +kernel
theorem dX8_ancestors_121 : decode cX8_ancestors 121 = .ok (.istore_n 3, 1) := by decide +kernel
theorem dX8_ancestors_122 : decode cX8_ancestors 122 = .ok (.iinc 4 1, 3) := by decide +kernel
theorem dX8_ancestors_125 : decode cX8_ancestors 125 = .ok (.goto (-39), 3) := by decide +kernel
theorem dX8_ancestors_128 : decode cX8_ancestors 128 = .ok (.goto (-51), 3) := by decide +kernel
theorem dX8_ancestors_131 : decode cX8_ancestors 131 = .ok (.iconst 0, 1) := by decide +kernel
theorem dX8_ancestors_132 : decode cX8_ancestors 132 = .ok (.istore 4, 2) := by decide +kernel
theorem dX8_ancestors_134 : decode cX8_ancestors 134 = .ok (.iconst 0, 1) := by decide +kernel
theorem dX8_ancestors_135 : decode cX8_ancestors 135 = .ok (.istore 5, 2) := by decide +kernel
theorem dX8_ancestors_137 : decode cX8_ancestors 137 = .ok (.iload 5, 2) := by decide +kernel
theorem dX8_ancestors_139 : decode cX8_ancestors 139 = .ok (.bipush 80, 2) := by decide +kernel
theorem dX8_ancestors_141 : decode cX8_ancestors 141 = .ok (.if_icmp .ge 29, 3) := by decide +kernel
theorem dX8_ancestors_144 : decode cX8_ancestors 144 = .ok (.iload 4, 2) := by decide +kernel
theorem dX8_ancestors_146 : decode cX8_ancestors 146 = .ok (.aload_n 0, 1) := by decide +kernel
theorem dX8_ancestors_147 : decode cX8_ancestors 147 = .ok (.getfield 42, 3) := by decide +kernel
theorem dX8_ancestors_150 : decode cX8_ancestors 150 = .ok (.iload 5, 2) := by decide +kernel
theorem dX8_ancestors_152 : decode cX8_ancestors 152 = .ok (.baload, 1) := by decide +kernel
theorem dX8_ancestors_153 : decode cX8_ancestors 153 = .ok (.ifCond .eq 7, 3) := by decide +kernel
theorem dX8_ancestors_156 : decode cX8_ancestors 156 = .ok (.iconst 1, 1) := by decide +kernel
theorem dX8_ancestors_157 : decode cX8_ancestors 157 = .ok (.goto 4, 3) := by decide +kernel
theorem dX8_ancestors_160 : decode cX8_ancestors 160 = .ok (.iconst 0, 1) := by decide +kernel
theorem dX8_ancestors_161 : decode cX8_ancestors 161 = .ok (.iadd, 1) := by decide +kernel
theorem dX8_ancestors_162 : decode cX8_ancestors 162 = .ok (.istore 4, 2) := by decide +kernel
theorem dX8_ancestors_164 : decode cX8_ancestors 164 = .ok (.iinc 5 1, 3) := by decide +kernel
theorem dX8_ancestors_167 : decode cX8_ancestors 167 = .ok (.goto (-30), 3) := by decide +kernel
theorem dX8_ancestors_170 : decode cX8_ancestors 170 = .ok (.iload 4, 2) := by decide +kernel
theorem dX8_ancestors_172 : decode cX8_ancestors 172 = .ok (.ireturn, 1) := by decide +kernel
set_option maxRecDepth 20000 in
theorem ggX8_constraint_X8_isTable : GoodIn wsX8_constraint wsX8_isTable := goodIn_r _ [8, 9, 10, 7, 11] (by decide +kernel) (by decide +kernel)
set_option maxRecDepth 20000 in
theorem gX8_constraint_X8_isTable : GoodIn wsX8_constraint (va_wsS RX8 81 yX8_isTable wsX8_isTable) := goodIn_app (goodIn_of _ (by decide +kernel)) ggX8_constraint_X8_isTable
set_option maxRecDepth 20000 in
theorem ggX8_constraint_X8_isColumn : GoodIn wsX8_constraint wsX8_isColumn := goodIn_r _ [14] (by decide +kernel) (by decide +kernel)
set_option maxRecDepth 20000 in
theorem gX8_constraint_X8_isColumn : GoodIn wsX8_constraint (va_wsS RX8 85 yX8_isColumn wsX8_isColumn) := goodIn_app (goodIn_of _ (by decide +kernel)) ggX8_constraint_X8_isColumn
set_option maxRecDepth 20000 in
theorem ggX8_constraint_X8_in : GoodIn wsX8_constraint wsX8_in := goodIn_r _ [11] (by decide +kernel) (by decide +kernel)
set_option maxRecDepth 20000 in
theorem gX8_constraint_X8_in : GoodIn wsX8_constraint (va_wsS RX8 49 yX8_in wsX8_in) := goodIn_app (goodIn_of _ (by decide +kernel)) ggX8_constraint_X8_in
set_option maxRecDepth 20000 in
theorem ggX8_constraint_X8_goes : GoodIn wsX8_constraint wsX8_goes := goodIn_r _ [18, 19, 33, 34, 35, 36, 37, 38, 39, 40, 41, 42, 43, 44, 45, 46, 47, 48, 49, 50, 51, 52] (by decide +kernel) (by decide +kernel)
set_option maxRecDepth 20000 in
theorem gX8_constraint_X8_goes : GoodIn wsX8_constraint (wsV RX8 88 RX8 yX8_goes wsX8_goes) := goodIn_app (goodIn_of _ (by decide +kernel)) ggX8_constraint_X8_goes
set_option maxRecDepth 20000 in
theorem ggX8_constraint_X8_violations : GoodIn wsX8_constraint wsX8_violations := goodIn_r _ [23, 24, 25, 26, 27, 7, 28, 1, 29, 2, 30, 31, 32, 33, 34, 35, 36, 37, 38, 39, 40, 41, 42, 43, 44, 45, 46, 47, 48, 49, 50, 51, 52] (by decide +kernel) (by decide +kernel)
set_option maxRecDepth 20000 in
theorem gX8_constraint_X8_violations : GoodIn wsX8_constraint (wsV RX8 60 RX8 yX8_violations wsX8_violations) := goodIn_app (goodIn_of _ (by decide +kernel)) ggX8_constraint_X8_violations
theorem dX8_constraint_0 : decode cX8_constraint 0 = .ok (.aload_n 0, 1) := by decide +kernel
theorem dX8_constraint_1 : decode cX8_constraint 1 = .ok (.iload_n 1, 1) := by decide +kernel
theorem dX8_constraint_2 : decode cX8_constraint 2 = .ok (.invokestatic 81, 3) := by decide +kernel
theorem dX8_constraint_5 : decode cX8_constraint 5 = .ok (.ifCond .eq 14, 3) := by decide +kernel
theorem dX8_constraint_8 : decode cX8_constraint 8 = .ok (.iload_n 2, 1) := by decide +kernel
theorem dX8_constraint_9 : decode cX8_constraint 9 = .ok (.invokestatic 85, 3) := by decide +kernel
theorem dX8_constraint_12 : decode cX8_constraint 12 = .ok (.ifCond .eq 7, 3) := by decide +kernel
theorem dX8_constraint_15 : decode cX8_constraint 15 = .ok (.iconst 1, 1) := by decide +kernel
theorem dX8_constraint_16 : decode cX8_constraint 16 = .ok (.goto 4, 3) := by decide +kernel
theorem dX8_constraint_19 : decode cX8_constraint 19 = .ok (.iconst 0, 1) := by decide +kernel
theorem dX8_constraint_20 : decode cX8_constraint 20 = .ok (.iload_n 3, 1) := by decide +kernel
theorem dX8_constraint_21 : decode cX8_constraint 21 = .ok (.iconst 0, 1) := by decide +kernel
theorem dX8_constraint_22 : decode cX8_constraint 22 = .ok (.iconst 3, 1) := by decide +kernel
theorem dX8_constraint_23 : decode cX8_constraint 23 = .ok (.invokestatic 49, 3) := by decide +kernel
theorem dX8_constraint_26 : decode cX8_constraint 26 = .ok (.iconst 1, 1) := by decide +kernel
theorem dX8_constraint_27 : decode cX8_constraint 27 = .ok (.invokevirtual 88, 3) := by decide +kernel
theorem dX8_constraint_30 : decode cX8_constraint 30 = .ok (.ifCond .ne 5, 3) := by decide +kernel
theorem dX8_constraint_33 : decode cX8_constraint 33 = .ok (.iconst 0, 1) := by decide +kernel
theorem dX8_constraint_34 : decode cX8_constraint 34 = .ok (.ireturn, 1) := by decide +kernel
theorem dX8_constraint_35 : decode cX8_constraint 35 = .ok (.iconst 2, 1) := by decide +kernel
theorem dX8_constraint_36 : decode cX8_constraint 36 = .ok (.iload_n 1, 1) := by decide +kernel
theorem dX8_constraint_37 : decode cX8_constraint 37 = .ok (.imul, 1) := by decide +kernel
theorem dX8_constraint_38 : decode cX8_constraint 38 = .ok (.iload_n 2, 1) := by decide +kernel
theorem dX8_constraint_39 : decode cX8_constraint 39 = .ok (.iadd, 1) := by decide +kernel
theorem dX8_constraint_40 : decode cX8_constraint 40 = .ok (.istore 4, 2) := by decide +kernel
theorem dX8_constraint_42 : decode cX8_constraint 42 = .ok (.aload_n 0, 1) := by decide +kernel
theorem dX8_constraint_43 : decode cX8_constraint 43 = .ok (.getfield 17, 3) := by decide +kernel
theorem dX8_constraint_46 : decode cX8_constraint 46 = .ok (.iload 4, 2) := by decide +kernel
theorem dX8_constraint_48 : decode cX8_constraint 48 = .ok (.baload, 1) := by decide +kernel
theorem dX8_constraint_49 : decode cX8_constraint 49 = .ok (.ifCond .ne 6, 3) := by decide +kernel
theorem dX8_constraint_52 : decode cX8_constraint 52 = .ok (.bipush (-2), 2) := by decide +kernel
theorem dX8_constraint_54 : decode cX8_constraint 54 = .ok (.ireturn, 1) := by decide +kernel
theorem dX8_constraint_55 : decode cX8_constraint 55 = .ok (.iload_n 3, 1) := by decide +kernel
theorem dX8_constraint_56 : decode cX8_constraint 56 = .ok (.ifCond .ne 13, 3) := by decide +kernel
theorem dX8_constraint_59 : decode cX8_constraint 59 = .ok (.aload_n 0, 1) := by decide +kernel
theorem dX8_constraint_60 : decode cX8_constraint 60 = .ok (.getfield 20, 3) := by decide +kernel
theorem dX8_constraint_63 : decode cX8_constraint 63 = .ok (.iload 4, 2) := by decide +kernel
theorem dX8_constraint_65 : decode cX8_constraint 65 = .ok (.iaload, 1) := by decide +kernel
theorem dX8_constraint_66 : decode cX8_constraint 66 = .ok (.goto 47, 3) := by decide +kernel
theorem dX8_constraint_69 : decode cX8_constraint 69 = .ok (.iload_n 3, 1) := by decide +kernel
theorem dX8_constraint_70 : decode cX8_constraint 70 = .ok (.iconst 1, 1) := by decide +kernel
theorem dX8_constraint_71 : decode cX8_constraint 71 = .ok (.if_icmp .ne 13, 3) := by decide +kernel
theorem dX8_constraint_74 : decode cX8_constraint 74 = .ok (.aload_n 0, 1) := by decide +kernel
theorem dX8_constraint_75 : decode cX8_constraint 75 = .ok (.getfield 23, 3) := by decide +kernel
theorem dX8_constraint_78 : decode cX8_constraint 78 = .ok (.iload 4, 2) := by decide +kernel
theorem dX8_constraint_80 : decode cX8_constraint 80 = .ok (.iaload, 1) := by decide +kernel
theorem dX8_constraint_81 : decode cX8_constraint 81 = .ok (.goto 32, 3) := by decide +kernel
theorem dX8_constraint_84 : decode cX8_constraint 84 = .ok (.iload_n 3, 1) := by decide +kernel
theorem dX8_constraint_85 : decode cX8_constraint 85 = .ok (.iconst 2, 1) := by decide +kernel
theorem dX8_constraint_86 : decode cX8_constraint 86 = .ok (.if_icmp .ne 21, 3) := by decide +kernel
theorem dX8_constraint_89 : decode cX8_constraint 89 = .ok (.aload_n 0, 1) := by decide +kernel
theorem dX8_constraint_90 : decode cX8_constraint 90 = .ok (.getfield 26, 3) := by decide +kernel
theorem dX8_constraint_93 : decode cX8_constraint 93 = .ok (.iload 4, 2) := by decide +kernel
theorem dX8_constraint_95 : decode cX8_constraint 95 = .ok (.baload, 1) := by decide +kernel
theorem dX8_constraint_96 : decode cX8_constraint 96 = .ok (.ifCond .eq 7, 3) := by decide +kernel
theorem dX8_constraint_99 : decode cX8_constraint 99 = .ok (.iconst 1, 1) := by decide +kernel
theorem dX8_constraint_100 : decode cX8_constraint 100 = .ok (.goto 13, 3) := by decide +kernel
theorem dX8_constraint_103 : decode cX8_constraint 103 = .ok (.iconst 0, 1) := by decide +kernel
theorem dX8_constraint_104 : decode cX8_constraint 104 = .ok (.goto 9, 3) := by decide +kernel
theorem dX8_constraint_107 : decode cX8_constraint 107 = .ok (.aload_n 0, 1) := by decide +kernel
theorem dX8_constraint_108 : decode cX8_constraint 108 = .ok (.iload 4, 2) := by decide +kernel
theorem dX8_constraint_110 : decode cX8_constraint 110 = .ok (.invokevirtual 60, 3) := by decide +kernel
theorem dX8_constraint_113 : decode cX8_constraint 113 = .ok (.ireturn, 1) := by decide +kernel
set_option maxRecDepth 20000 in
theorem ggX8_constraints_X8_manyConstraints : GoodIn wsX8_constraints wsX8_manyConstraints := goodIn_r _ [6, 7, 8, 9, 10, 11, 12, 13, 14, 15, 16, 17, 18, 19, 20, 21, 22, 23, 24, 25, 26, 27] (by decide +kernel) (by decide +kernel)
set_option maxRecDepth 20000 in
theorem gX8_constraints_X8_manyConstraints : GoodIn wsX8_constraints (wsV RX8 92 RX8 yX8_manyConstraints wsX8_manyConstraints) := goodIn_app (goodIn_of _ (by decide +kernel)) ggX8_constraints_X8_manyConstraints
theorem dX8_constraints_0 : decode cX8_constraints 0 = .ok (.aload_n 0, 1) := by decide +kernel
theorem dX8_constraints_1 : decode cX8_constraints 1 = .ok (.iconst 0, 1) := by decide +kernel
theorem dX8_constraints_2 : decode cX8_constraints 2 = .ok (.putfield 45, 3) := by decide +kernel
theorem dX8_constraints_5 : decode cX8_constraints 5 = .ok (.aload_n 0, 1) := by decide +kernel
theorem dX8_constraints_6 : decode cX8_constraints 6 = .ok (.invokevirtual 92, 3) := by decide +kernel
theorem dX8_constraints_9 : decode cX8_constraints 9 = .ok (.ireturn, 1) := by decide +kernel
set_option maxRecDepth 20000 in
theorem ggX8_firstViolation_X8_violated : GoodIn wsX8_firstViolation wsX8_violated := goodIn_r _ [6, 7, 8, 9, 10, 5, 11, 12, 13, 14, 15, 16, 17, 18, 19, 20, 21, 22, 23, 24, 25, 26, 27, 28, 29, 30, 31, 32, 33, 34, 35, 36, 37, 38, 39, 40, 41, 42, 43, 44, 45] (by decide +kernel) (by decide +kernel)
set_option maxRecDepth 20000 in
theorem gX8_firstViolation_X8_violated : GoodIn wsX8_firstViolation (wsV RX8 74 RX8 yX8_violated wsX8_violated) := goodIn_app (goodIn_of _ (by decide +kernel)) ggX8_firstViolation_X8_violated
theorem dX8_firstViolation_0 : decode cX8_firstViolation 0 = .ok (.aload_n 0, 1) := by decide +kernel
theorem dX8_firstViolation_1 : decode cX8_firstViolation 1 = .ok (.iconst 0, 1) := by decide +kernel
theorem dX8_firstViolation_2 : decode cX8_firstViolation 2 = .ok (.putfield 45, 3) := by decide +kernel
theorem dX8_firstViolation_5 : decode cX8_firstViolation 5 = .ok (.aload_n 0, 1) := by decide +kernel
theorem dX8_firstViolation_6 : decode cX8_firstViolation 6 = .ok (.iconst 1, 1) := by decide +kernel
theorem dX8_firstViolation_7 : decode cX8_firstViolation 7 = .ok (.invokevirtual 74, 3) := by decide +kernel
theorem dX8_firstViolation_10 : decode cX8_firstViolation 10 = .ok (.ireturn, 1) := by decide +kernel
set_option maxRecDepth 20000 in
theorem ggX8_ifDeleted_X8_isTable : GoodIn wsX8_ifDeleted wsX8_isTable := goodIn_r _ [6, 7, 8, 5, 9] (by decide +kernel) (by decide +kernel)
set_option maxRecDepth 20000 in
theorem gX8_ifDeleted_X8_isTable : GoodIn wsX8_ifDeleted (va_wsS RX8 81 yX8_isTable wsX8_isTable) := goodIn_app (goodIn_of _ (by decide +kernel)) ggX8_ifDeleted_X8_isTable
set_option maxRecDepth 20000 in
theorem ggX8_ifDeleted_X8_isKey : GoodIn wsX8_ifDeleted wsX8_isKey := goodIn_r _ [12, 7, 8, 5, 9] (by decide +kernel) (by decide +kernel)
set_option maxRecDepth 20000 in
theorem gX8_ifDeleted_X8_isKey : GoodIn wsX8_ifDeleted (va_wsS RX8 120 yX8_isKey wsX8_isKey) := goodIn_app (goodIn_of _ (by decide +kernel)) ggX8_ifDeleted_X8_isKey
set_option maxRecDepth 20000 in
theorem ggX8_ifDeleted_X8_goes : GoodIn wsX8_ifDeleted wsX8_goes := goodIn_r _ [16, 17, 75, 76, 77, 78, 79, 80, 81, 82, 83, 84, 85, 86, 87, 88, 89, 90, 91, 92, 93, 94] (by decide +kernel) (by decide +kernel)
set_option maxRecDepth 20000 in
theorem gX8_ifDeleted_X8_goes : GoodIn wsX8_ifDeleted (wsV RX8 88 RX8 yX8_goes wsX8_goes) := goodIn_app (goodIn_of _ (by decide +kernel)) ggX8_ifDeleted_X8_goes
set_option maxRecDepth 20000 in
theorem ggX8_ifDeleted_X8_row : GoodIn wsX8_ifDeleted wsX8_row := goodIn_r _ [20] (by decide +kernel) (by decide +kernel)
set_option maxRecDepth 20000 in
theorem gX8_ifDeleted_X8_row : GoodIn wsX8_ifDeleted (va_wsS RX8 53 yX8_row wsX8_row) := goodIn_app (goodIn_of _ (by decide +kernel)) ggX8_ifDeleted_X8_row
set_option maxRecDepth 20000 in
theorem ggX8_ifDeleted_X8_deletes : GoodIn wsX8_ifDeleted wsX8_deletes := goodIn_r _ [24, 2, 18, 19, 5, 20, 25, 26, 27, 28, 29, 30, 31, 32, 33, 34, 1, 35, 36, 37, 38, 39, 40, 41, 42, 43, 44, 45, 46, 47, 48, 49, 50, 51, 52, 53, 54, 55, 56, 57, 58, 59, 60, 61, 62, 63, 64, 65, 66, 67, 68, 69, 70, 71, 72, 73, 74, 75, 76, 77, 78, 79, 80, 81, 82, 83, 84, 85, 86, 87, 88, 89, 90, 91, 92, 93, 94] (by decide +kernel) (by decide +kernel)
set_option maxRecDepth 20000 in
theorem gX8_ifDeleted_X8_deletes : GoodIn wsX8_ifDeleted (wsV RX8 133 RX8 yX8_deletes wsX8_deletes) := goodIn_app (goodIn_of _ (by decide +kernel)) ggX8_ifDeleted_X8_deletes
set_option maxRecDepth 20000 in
theorem ggX8_ifDeleted_X8_undoes : GoodIn wsX8_ifDeleted wsX8_undoes := goodIn_r _ [74, 2, 39, 1, 40, 75, 76, 77, 78, 79, 80, 81, 82, 83, 84, 85, 86, 87, 88, 89, 90, 91, 92, 93, 94] (by decide +kernel) (by decide +kernel)
set_option maxRecDepth 20000 in
theorem gX8_ifDeleted_X8_undoes : GoodIn wsX8_ifDeleted (wsV RX8 78 RX8 yX8_undoes wsX8_undoes) := goodIn_app (goodIn_of _ (by decide +kernel)) ggX8_ifDeleted_X8_undoes
theorem dX8_ifDeleted_0 : decode cX8_ifDeleted 0 = .ok (.aload_n 0, 1) := by decide +kernel
theorem dX8_ifDeleted_1 : decode cX8_ifDeleted 1 = .ok (.iload_n 1, 1) := by decide +kernel
theorem dX8_ifDeleted_2 : decode cX8_ifDeleted 2 = .ok (.invokestatic 81, 3) := by decide +kernel
theorem dX8_ifDeleted_5 : decode cX8_ifDeleted 5 = .ok (.ifCond .eq 14, 3) := by decide +kernel
theorem dX8_ifDeleted_8 : decode cX8_ifDeleted 8 = .ok (.iload_n 2, 1) := by decide +kernel
theorem dX8_ifDeleted_9 : decode cX8_ifDeleted 9 = .ok (.invokestatic 120, 3) := by decide +kernel
theorem dX8_ifDeleted_12 : decode cX8_ifDeleted 12 = .ok (.ifCond .eq 7, 3) := by decide +kernel
theorem dX8_ifDeleted_15 : decode cX8_ifDeleted 15 = .ok (.iconst 1, 1) := by decide +kernel
theorem dX8_ifDeleted_16 : decode cX8_ifDeleted 16 = .ok (.goto 4, 3) := by decide +kernel
theorem dX8_ifDeleted_19 : decode cX8_ifDeleted 19 = .ok (.iconst 0, 1) := by decide +kernel
theorem dX8_ifDeleted_20 : decode cX8_ifDeleted 20 = .ok (.iconst 1, 1) := by decide +kernel
theorem dX8_ifDeleted_21 : decode cX8_ifDeleted 21 = .ok (.iconst 1, 1) := by decide +kernel
theorem dX8_ifDeleted_22 : decode cX8_ifDeleted 22 = .ok (.invokevirtual 88, 3) := by decide +kernel
theorem dX8_ifDeleted_25 : decode cX8_ifDeleted 25 = .ok (.ifCond .ne 5, 3) := by decide +kernel
theorem dX8_ifDeleted_28 : decode cX8_ifDeleted 28 = .ok (.iconst 0, 1) := by decide +kernel
theorem dX8_ifDeleted_29 : decode cX8_ifDeleted 29 = .ok (.ireturn, 1) := by decide +kernel
theorem dX8_ifDeleted_30 : decode cX8_ifDeleted 30 = .ok (.aload_n 0, 1) := by decide +kernel
theorem dX8_ifDeleted_31 : decode cX8_ifDeleted 31 = .ok (.getfield 7, 3) := by decide +kernel
theorem dX8_ifDeleted_34 : decode cX8_ifDeleted 34 = .ok (.iload_n 1, 1) := by decide +kernel
theorem dX8_ifDeleted_35 : decode cX8_ifDeleted 35 = .ok (.iload_n 2, 1) := by decide +kernel
theorem dX8_ifDeleted_36 : decode cX8_ifDeleted 36 = .ok (.invokestatic 53, 3) := by decide +kernel
theorem dX8_ifDeleted_39 : decode cX8_ifDeleted 39 = .ok (.baload, 1) := by decide +kernel
theorem dX8_ifDeleted_40 : decode cX8_ifDeleted 40 = .ok (.ifCond .ne 6, 3) := by decide +kernel
theorem dX8_ifDeleted_43 : decode cX8_ifDeleted 43 = .ok (.bipush (-2), 2) := by decide +kernel
theorem dX8_ifDeleted_45 : decode cX8_ifDeleted 45 = .ok (.ireturn, 1) := by decide +kernel
theorem dX8_ifDeleted_46 : decode cX8_ifDeleted 46 = .ok (.aload_n 0, 1) := by decide +kernel
theorem dX8_ifDeleted_47 : decode cX8_ifDeleted 47 = .ok (.getfield 67, 3) := by decide +kernel
theorem dX8_ifDeleted_50 : decode cX8_ifDeleted 50 = .ok (.istore_n 3, 1) := by decide +kernel
theorem dX8_ifDeleted_51 : decode cX8_ifDeleted 51 = .ok (.aload_n 0, 1) := by decide +kernel
theorem dX8_ifDeleted_52 : decode cX8_ifDeleted 52 = .ok (.iload_n 1, 1) := by decide +kernel
theorem dX8_ifDeleted_53 : decode cX8_ifDeleted 53 = .ok (.iload_n 2, 1) := by decide +kernel
theorem dX8_ifDeleted_54 : decode cX8_ifDeleted 54 = .ok (.invokevirtual 133, 3) := by decide +kernel
theorem dX8_ifDeleted_57 : decode cX8_ifDeleted 57 = .ok (.istore 4, 2) := by decide +kernel
theorem dX8_ifDeleted_59 : decode cX8_ifDeleted 59 = .ok (.aload_n 0, 1) := by decide +kernel
theorem dX8_ifDeleted_60 : decode cX8_ifDeleted 60 = .ok (.iload_n 3, 1) := by decide +kernel
theorem dX8_ifDeleted_61 : decode cX8_ifDeleted 61 = .ok (.invokevirtual 78, 3) := by decide +kernel
theorem dX8_ifDeleted_64 : decode cX8_ifDeleted 64 = .ok (.istore 5, 2) := by decide +kernel
theorem dX8_ifDeleted_66 : decode cX8_ifDeleted 66 = .ok (.iload 4, 2) := by decide +kernel
theorem dX8_ifDeleted_68 : decode cX8_ifDeleted 68 = .ok (.ireturn, 1) := by decide +kernel
theorem dX8_changes_0 : decode cX8_changes 0 = .ok (.aload_n 0, 1) := by decide +kernel
theorem dX8_changes_1 : decode cX8_changes 1 = .ok (.iconst 0, 1) := by decide +kernel
theorem dX8_changes_2 : decode cX8_changes 2 = .ok (.putfield 45, 3) := by decide +kernel
theorem dX8_changes_5 : decode cX8_changes 5 = .ok (.aload_n 0, 1) := by decide +kernel
theorem dX8_changes_6 : decode cX8_changes 6 = .ok (.getfield 67, 3) := by decide +kernel
theorem dX8_changes_9 : decode cX8_changes 9 = .ok (.ireturn, 1) := by decide +kernel
theorem dX8_savePoints_0 : decode cX8_savePoints 0 = .ok (.aload_n 0, 1) := by decide +kernel
theorem dX8_savePoints_1 : decode cX8_savePoints 1 = .ok (.iconst 0, 1) := by decide +kernel
theorem dX8_savePoints_2 : decode cX8_savePoints 2 = .ok (.putfield 45, 3) := by decide +kernel
theorem dX8_savePoints_5 : decode cX8_savePoints 5 = .ok (.aload_n 0, 1) := by decide +kernel
theorem dX8_savePoints_6 : decode cX8_savePoints 6 = .ok (.getfield 136, 3) := by decide +kernel
theorem dX8_savePoints_9 : decode cX8_savePoints 9 = .ok (.ireturn, 1) := by decide +kernel
theorem dX8_textLength_0 : decode cX8_textLength 0 = .ok (.aload_n 0, 1) := by decide +kernel
theorem dX8_textLength_1 : decode cX8_textLength 1 = .ok (.iconst 0, 1) := by decide +kernel
theorem dX8_textLength_2 : decode cX8_textLength 2 = .ok (.putfield 45, 3) := by decide +kernel
theorem dX8_textLength_5 : decode cX8_textLength 5 = .ok (.aload_n 0, 1) := by decide +kernel
theorem dX8_textLength_6 : decode cX8_textLength 6 = .ok (.getfield 139, 3) := by decide +kernel
theorem dX8_textLength_9 : decode cX8_textLength 9 = .ok (.ireturn, 1) := by decide +kernel
