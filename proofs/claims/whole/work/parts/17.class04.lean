set_option maxRecDepth 20000 in
theorem ggX1_bookInFirstOrder_X1_lowestFree : GoodIn wsX1_bookInFirstOrder wsX1_lowestFree := goodIn_r _ [7, 2, 8, 9, 10, 6, 11, 12, 13, 14, 15, 16, 17, 18, 19, 20, 21] (by decide +kernel) (by decide +kernel)
set_option maxRecDepth 20000 in
theorem gX1_bookInFirstOrder_X1_lowestFree : GoodIn wsX1_bookInFirstOrder (wsV RX1 96 RX1 yX1_lowestFree wsX1_lowestFree) := goodIn_app (goodIn_of _ (by decide +kernel)) ggX1_bookInFirstOrder_X1_lowestFree
theorem dX1_bookInFirstOrder_0 : decode cX1_bookInFirstOrder 0 = .ok (.aload_n 0, 1) := by decide +kernel
theorem dX1_bookInFirstOrder_1 : decode cX1_bookInFirstOrder 1 = .ok (.getfield 37, 3) := by decide +kernel
theorem dX1_bookInFirstOrder_4 : decode cX1_bookInFirstOrder 4 = .ok (.ifCond .eq 11, 3) := by decide +kernel
theorem dX1_bookInFirstOrder_7 : decode cX1_bookInFirstOrder 7 = .ok (.iload_n 1, 1) := by decide +kernel
theorem dX1_bookInFirstOrder_8 : decode cX1_bookInFirstOrder 8 = .ok (.aload_n 0, 1) := by decide +kernel
theorem dX1_bookInFirstOrder_9 : decode cX1_bookInFirstOrder 9 = .ok (.getfield 40, 3) := by decide +kernel
theorem dX1_bookInFirstOrder_12 : decode cX1_bookInFirstOrder 12 = .ok (.if_icmp .lt 5, 3) := by decide +kernel
theorem dX1_bookInFirstOrder_15 : decode cX1_bookInFirstOrder 15 = .ok (.iconst (-1), 1) := by decide +kernel
theorem dX1_bookInFirstOrder_16 : decode cX1_bookInFirstOrder 16 = .ok (.ireturn, 1) := by decide +kernel
theorem dX1_bookInFirstOrder_17 : decode cX1_bookInFirstOrder 17 = .ok (.iconst 0, 1) := by decide +kernel
theorem dX1_bookInFirstOrder_18 : decode cX1_bookInFirstOrder 18 = .ok (.istore_n 2, 1) := by decide +kernel
theorem dX1_bookInFirstOrder_19 : decode cX1_bookInFirstOrder 19 = .ok (.aload_n 0, 1) := by decide +kernel
theorem dX1_bookInFirstOrder_20 : decode cX1_bookInFirstOrder 20 = .ok (.iload_n 2, 1) := by decide +kernel
theorem dX1_bookInFirstOrder_21 : decode cX1_bookInFirstOrder 21 = .ok (.invokevirtual 96, 3) := by decide +kernel
theorem dX1_bookInFirstOrder_24 : decode cX1_bookInFirstOrder 24 = .ok (.istore_n 3, 1) := by decide +kernel
theorem dX1_bookInFirstOrder_25 : decode cX1_bookInFirstOrder 25 = .ok (.iconst 0, 1) := by decide +kernel
theorem dX1_bookInFirstOrder_26 : decode cX1_bookInFirstOrder 26 = .ok (.istore 4, 2) := by decide +kernel
theorem dX1_bookInFirstOrder_28 : decode cX1_bookInFirstOrder 28 = .ok (.iload 4, 2) := by decide +kernel
theorem dX1_bookInFirstOrder_30 : decode cX1_bookInFirstOrder 30 = .ok (.iload_n 1, 1) := by decide +kernel
theorem dX1_bookInFirstOrder_31 : decode cX1_bookInFirstOrder 31 = .ok (.if_icmp .ge 26, 3) := by decide +kernel
theorem dX1_bookInFirstOrder_34 : decode cX1_bookInFirstOrder 34 = .ok (.iload_n 3, 1) := by decide +kernel
theorem dX1_bookInFirstOrder_35 : decode cX1_bookInFirstOrder 35 = .ok (.iconst (-1), 1) := by decide +kernel
theorem dX1_bookInFirstOrder_36 : decode cX1_bookInFirstOrder 36 = .ok (.if_icmp .eq 21, 3) := by decide +kernel
theorem dX1_bookInFirstOrder_39 : decode cX1_bookInFirstOrder 39 = .ok (.iload_n 2, 1) := by decide +kernel
theorem dX1_bookInFirstOrder_40 : decode cX1_bookInFirstOrder 40 = .ok (.iconst 1, 1) := by decide +kernel
theorem dX1_bookInFirstOrder_41 : decode cX1_bookInFirstOrder 41 = .ok (.iload_n 3, 1) := by decide +kernel
theorem dX1_bookInFirstOrder_42 : decode cX1_bookInFirstOrder 42 = .ok (.ishl, 1) := by decide +kernel
theorem dX1_bookInFirstOrder_43 : decode cX1_bookInFirstOrder 43 = .ok (.ior, 1) := by decide +kernel
theorem dX1_bookInFirstOrder_44 : decode cX1_bookInFirstOrder 44 = .ok (.istore_n 2, 1) := by decide +kernel
theorem dX1_bookInFirstOrder_45 : decode cX1_bookInFirstOrder 45 = .ok (.aload_n 0, 1) := by decide +kernel
theorem dX1_bookInFirstOrder_46 : decode cX1_bookInFirstOrder 46 = .ok (.iload_n 2, 1) := by decide +kernel
theorem dX1_bookInFirstOrder_47 : decode cX1_bookInFirstOrder 47 = .ok (.invokevirtual 96, 3) := by decide +kernel
theorem dX1_bookInFirstOrder_50 : decode cX1_bookInFirstOrder 50 = .ok (.istore_n 3, 1) := by decide +kernel
theorem dX1_bookInFirstOrder_51 : decode cX1_bookInFirstOrder 51 = .ok (.iinc 4 1, 3) := by decide +kernel
theorem dX1_bookInFirstOrder_54 : decode cX1_bookInFirstOrder 54 = .ok (.goto (-26), 3) := by decide +kernel
theorem dX1_bookInFirstOrder_57 : decode cX1_bookInFirstOrder 57 = .ok (.iload_n 3, 1) := by decide +kernel
theorem dX1_bookInFirstOrder_58 : decode cX1_bookInFirstOrder 58 = .ok (.ireturn, 1) := by decide +kernel
set_option maxRecDepth 20000 in
theorem ggX1_leastPlace_J6_bitCount_0f7a4 : GoodIn wsX1_leastPlace wsJ6_bitCount_0f7a4 := goodIn_r _ [6, 7, 8, 9] (by decide +kernel) (by decide +kernel)
set_option maxRecDepth 20000 in
theorem gX1_leastPlace_J6_bitCount_0f7a4 : GoodIn wsX1_leastPlace (va_wsS RX1 80 yJ6_bitCount_0f7a4 wsJ6_bitCount_0f7a4) := goodIn_app (goodIn_of _ (by decide +kernel)) ggX1_leastPlace_J6_bitCount_0f7a4
theorem dX1_leastPlace_0 : decode cX1_leastPlace 0 = .ok (.aload_n 0, 1) := by decide +kernel
theorem dX1_leastPlace_1 : decode cX1_leastPlace 1 = .ok (.getfield 37, 3) := by decide +kernel
theorem dX1_leastPlace_4 : decode cX1_leastPlace 4 = .ok (.ifCond .eq 15, 3) := by decide +kernel
theorem dX1_leastPlace_7 : decode cX1_leastPlace 7 = .ok (.aload_n 0, 1) := by decide +kernel
theorem dX1_leastPlace_8 : decode cX1_leastPlace 8 = .ok (.getfield 24, 3) := by decide +kernel
theorem dX1_leastPlace_11 : decode cX1_leastPlace 11 = .ok (.iload_n 1, 1) := by decide +kernel
theorem dX1_leastPlace_12 : decode cX1_leastPlace 12 = .ok (.iaload, 1) := by decide +kernel
theorem dX1_leastPlace_13 : decode cX1_leastPlace 13 = .ok (.invokestatic 80, 3) := by decide +kernel
theorem dX1_leastPlace_16 : decode cX1_leastPlace 16 = .ok (.goto 4, 3) := by decide +kernel
theorem dX1_leastPlace_19 : decode cX1_leastPlace 19 = .ok (.iconst (-1), 1) := by decide +kernel
theorem dX1_leastPlace_20 : decode cX1_leastPlace 20 = .ok (.ireturn, 1) := by decide +kernel
set_option maxRecDepth 20000 in
theorem ggX1_greatestPlace_J6_bitCount_0f7a4 : GoodIn wsX1_greatestPlace wsJ6_bitCount_0f7a4 := goodIn_r _ [7, 8, 9, 10] (by decide +kernel) (by decide +kernel)
set_option maxRecDepth 20000 in
theorem gX1_greatestPlace_J6_bitCount_0f7a4 : GoodIn wsX1_greatestPlace (va_wsS RX1 80 yJ6_bitCount_0f7a4 wsJ6_bitCount_0f7a4) := goodIn_app (goodIn_of _ (by decide +kernel)) ggX1_greatestPlace_J6_bitCount_0f7a4
theorem dX1_greatestPlace_0 : decode cX1_greatestPlace 0 = .ok (.aload_n 0, 1) := by decide +kernel
theorem dX1_greatestPlace_1 : decode cX1_greatestPlace 1 = .ok (.getfield 37, 3) := by decide +kernel
theorem dX1_greatestPlace_4 : decode cX1_greatestPlace 4 = .ok (.ifCond .eq 22, 3) := by decide +kernel
theorem dX1_greatestPlace_7 : decode cX1_greatestPlace 7 = .ok (.aload_n 0, 1) := by decide +kernel
theorem dX1_greatestPlace_8 : decode cX1_greatestPlace 8 = .ok (.getfield 40, 3) := by decide +kernel
theorem dX1_greatestPlace_11 : decode cX1_greatestPlace 11 = .ok (.iconst 1, 1) := by decide +kernel
theorem dX1_greatestPlace_12 : decode cX1_greatestPlace 12 = .ok (.isub, 1) := by decide +kernel
theorem dX1_greatestPlace_13 : decode cX1_greatestPlace 13 = .ok (.aload_n 0, 1) := by decide +kernel
theorem dX1_greatestPlace_14 : decode cX1_greatestPlace 14 = .ok (.getfield 27, 3) := by decide +kernel
theorem dX1_greatestPlace_17 : decode cX1_greatestPlace 17 = .ok (.iload_n 1, 1) := by decide +kernel
theorem dX1_greatestPlace_18 : decode cX1_greatestPlace 18 = .ok (.iaload, 1) := by decide +kernel
theorem dX1_greatestPlace_19 : decode cX1_greatestPlace 19 = .ok (.invokestatic 80, 3) := by decide +kernel
theorem dX1_greatestPlace_22 : decode cX1_greatestPlace 22 = .ok (.isub, 1) := by decide +kernel
theorem dX1_greatestPlace_23 : decode cX1_greatestPlace 23 = .ok (.goto 4, 3) := by decide +kernel
theorem dX1_greatestPlace_26 : decode cX1_greatestPlace 26 = .ok (.iconst (-1), 1) := by decide +kernel
theorem dX1_greatestPlace_27 : decode cX1_greatestPlace 27 = .ok (.ireturn, 1) := by decide +kernel
set_option maxRecDepth 20000 in
theorem ggX1_ordersWithFirst_X1_allBooks : GoodIn wsX1_ordersWithFirst wsX1_allBooks := goodIn_r _ [7, 8, 22, 23, 24, 25, 26, 27, 28, 29, 30, 31] (by decide +kernel) (by decide +kernel)
set_option maxRecDepth 20000 in
theorem gX1_ordersWithFirst_X1_allBooks : GoodIn wsX1_ordersWithFirst (wsV RX1 86 RX1 yX1_allBooks wsX1_allBooks) := goodIn_app (goodIn_of _ (by decide +kernel)) ggX1_ordersWithFirst_X1_allBooks
set_option maxRecDepth 20000 in
theorem ggX1_ordersWithFirst_X1_ordersOf : GoodIn wsX1_ordersWithFirst wsX1_ordersOf := goodIn_r _ [12, 13, 14, 15, 16, 17, 6, 18, 8, 2, 3, 4, 5, 7, 19, 20, 21, 22, 23, 24, 25, 26, 27, 28, 29, 30, 31] (by decide +kernel) (by decide +kernel)
set_option maxRecDepth 20000 in
theorem gX1_ordersWithFirst_X1_ordersOf : GoodIn wsX1_ordersWithFirst (wsV RX1 90 RX1 yX1_ordersOf wsX1_ordersOf) := goodIn_app (goodIn_of _ (by decide +kernel)) ggX1_ordersWithFirst_X1_ordersOf
theorem dX1_ordersWithFirst_0 : decode cX1_ordersWithFirst 0 = .ok (.aload_n 0, 1) := by decide +kernel
theorem dX1_ordersWithFirst_1 : decode cX1_ordersWithFirst 1 = .ok (.getfield 37, 3) := by decide +kernel
theorem dX1_ordersWithFirst_4 : decode cX1_ordersWithFirst 4 = .ok (.ifCond .eq 27, 3) := by decide +kernel
theorem dX1_ordersWithFirst_7 : decode cX1_ordersWithFirst 7 = .ok (.aload_n 0, 1) := by decide +kernel
theorem dX1_ordersWithFirst_8 : decode cX1_ordersWithFirst 8 = .ok (.getfield 9, 3) := by decide +kernel
theorem dX1_ordersWithFirst_11 : decode cX1_ordersWithFirst 11 = .ok (.iload_n 1, 1) := by decide +kernel
theorem dX1_ordersWithFirst_12 : decode cX1_ordersWithFirst 12 = .ok (.iaload, 1) := by decide +kernel
theorem dX1_ordersWithFirst_13 : decode cX1_ordersWithFirst 13 = .ok (.ifCond .ne 18, 3) := by decide +kernel
theorem dX1_ordersWithFirst_16 : decode cX1_ordersWithFirst 16 = .ok (.aload_n 0, 1) := by decide +kernel
theorem dX1_ordersWithFirst_17 : decode cX1_ordersWithFirst 17 = .ok (.aload_n 0, 1) := by decide +kernel
theorem dX1_ordersWithFirst_18 : decode cX1_ordersWithFirst 18 = .ok (.invokevirtual 86, 3) := by decide +kernel
theorem dX1_ordersWithFirst_21 : decode cX1_ordersWithFirst 21 = .ok (.iconst 1, 1) := by decide +kernel
theorem dX1_ordersWithFirst_22 : decode cX1_ordersWithFirst 22 = .ok (.iload_n 1, 1) := by decide +kernel
theorem dX1_ordersWithFirst_23 : decode cX1_ordersWithFirst 23 = .ok (.ishl, 1) := by decide +kernel
theorem dX1_ordersWithFirst_24 : decode cX1_ordersWithFirst 24 = .ok (.ixor, 1) := by decide +kernel
theorem dX1_ordersWithFirst_25 : decode cX1_ordersWithFirst 25 = .ok (.invokevirtual 90, 3) := by decide +kernel
theorem dX1_ordersWithFirst_28 : decode cX1_ordersWithFirst 28 = .ok (.goto 4, 3) := by decide +kernel
theorem dX1_ordersWithFirst_31 : decode cX1_ordersWithFirst 31 = .ok (.iconst 0, 1) := by decide +kernel
theorem dX1_ordersWithFirst_32 : decode cX1_ordersWithFirst 32 = .ok (.ireturn, 1) := by decide +kernel
set_option maxRecDepth 20000 in
theorem ggX1_leastWrongBooks_X1_allBooks : GoodIn wsX1_leastWrongBooks wsX1_allBooks := goodIn_r _ [6, 7, 29, 30, 31, 32, 33, 34, 35, 36, 37, 38] (by decide +kernel) (by decide +kernel)
set_option maxRecDepth 20000 in
theorem gX1_leastWrongBooks_X1_allBooks : GoodIn wsX1_leastWrongBooks (wsV RX1 86 RX1 yX1_allBooks wsX1_allBooks) := goodIn_app (goodIn_of _ (by decide +kernel)) ggX1_leastWrongBooks_X1_allBooks
set_option maxRecDepth 20000 in
theorem ggX1_leastWrongBooks_J6_bitCount_0f7a4 : GoodIn wsX1_leastWrongBooks wsJ6_bitCount_0f7a4 := goodIn_r _ [11, 12, 13, 14] (by decide +kernel) (by decide +kernel)
set_option maxRecDepth 20000 in
theorem gX1_leastWrongBooks_J6_bitCount_0f7a4 : GoodIn wsX1_leastWrongBooks (va_wsS RX1 80 yJ6_bitCount_0f7a4 wsJ6_bitCount_0f7a4) := goodIn_app (goodIn_of _ (by decide +kernel)) ggX1_leastWrongBooks_J6_bitCount_0f7a4
set_option maxRecDepth 20000 in
theorem ggX1_leastWrongBooks_X1_ordersOf : GoodIn wsX1_leastWrongBooks wsX1_ordersOf := goodIn_r _ [18, 19, 20, 21, 22, 23, 5, 24, 7, 25, 2, 3, 4, 6, 26, 27, 28, 29, 30, 31, 32, 33, 34, 35, 36, 37, 38] (by decide +kernel) (by decide +kernel)
set_option maxRecDepth 20000 in
theorem gX1_leastWrongBooks_X1_ordersOf : GoodIn wsX1_leastWrongBooks (wsV RX1 90 RX1 yX1_ordersOf wsX1_ordersOf) := goodIn_app (goodIn_of _ (by decide +kernel)) ggX1_leastWrongBooks_X1_ordersOf
theorem dX1_leastWrongBooks_0 : decode cX1_leastWrongBooks 0 = .ok (.aload_n 0, 1) := by decide +kernel
theorem dX1_leastWrongBooks_1 : decode cX1_leastWrongBooks 1 = .ok (.getfield 37, 3) := by decide +kernel
theorem dX1_leastWrongBooks_4 : decode cX1_leastWrongBooks 4 = .ok (.ifCond .eq 5, 3) := by decide +kernel
theorem dX1_leastWrongBooks_7 : decode cX1_leastWrongBooks 7 = .ok (.iconst 0, 1) := by decide +kernel
theorem dX1_leastWrongBooks_8 : decode cX1_leastWrongBooks 8 = .ok (.ireturn, 1) := by decide +kernel
theorem dX1_leastWrongBooks_9 : decode cX1_leastWrongBooks 9 = .ok (.aload_n 0, 1) := by decide +kernel
theorem dX1_leastWrongBooks_10 : decode cX1_leastWrongBooks 10 = .ok (.invokevirtual 86, 3) := by decide +kernel
theorem dX1_leastWrongBooks_13 : decode cX1_leastWrongBooks 13 = .ok (.istore_n 1, 1) := by decide +kernel
theorem dX1_leastWrongBooks_14 : decode cX1_leastWrongBooks 14 = .ok (.iconst 0, 1) := by decide +kernel
theorem dX1_leastWrongBooks_15 : decode cX1_leastWrongBooks 15 = .ok (.istore_n 2, 1) := by decide +kernel
theorem dX1_leastWrongBooks_16 : decode cX1_leastWrongBooks 16 = .ok (.iload_n 2, 1) := by decide +kernel
theorem dX1_leastWrongBooks_17 : decode cX1_leastWrongBooks 17 = .ok (.aload_n 0, 1) := by decide +kernel
theorem dX1_leastWrongBooks_18 : decode cX1_leastWrongBooks 18 = .ok (.invokevirtual 86, 3) := by decide +kernel
theorem dX1_leastWrongBooks_21 : decode cX1_leastWrongBooks 21 = .ok (.if_icmp .gt 35, 3) := by decide +kernel
theorem dX1_leastWrongBooks_24 : decode cX1_leastWrongBooks 24 = .ok (.iload_n 2, 1) := by decide +kernel
theorem dX1_leastWrongBooks_25 : decode cX1_leastWrongBooks 25 = .ok (.invokestatic 80, 3) := by decide +kernel
theorem dX1_leastWrongBooks_28 : decode cX1_leastWrongBooks 28 = .ok (.iload_n 1, 1) := by decide +kernel
theorem dX1_leastWrongBooks_29 : decode cX1_leastWrongBooks 29 = .ok (.invokestatic 80, 3) := by decide +kernel
theorem dX1_leastWrongBooks_32 : decode cX1_leastWrongBooks 32 = .ok (.if_icmp .ge 18, 3) := by decide +kernel
theorem dX1_leastWrongBooks_35 : decode cX1_leastWrongBooks 35 = .ok (.aload_n 0, 1) := by decide +kernel
theorem dX1_leastWrongBooks_36 : decode cX1_leastWrongBooks 36 = .ok (.aload_n 0, 1) := by decide +kernel
theorem dX1_leastWrongBooks_37 : decode cX1_leastWrongBooks 37 = .ok (.invokevirtual 86, 3) := by decide +kernel
theorem dX1_leastWrongBooks_40 : decode cX1_leastWrongBooks 40 = .ok (.iload_n 2, 1) := by decide +kernel
theorem dX1_leastWrongBooks_41 : decode cX1_leastWrongBooks 41 = .ok (.ixor, 1) := by decide +kernel
theorem dX1_leastWrongBooks_42 : decode cX1_leastWrongBooks 42 = .ok (.invokevirtual 90, 3) := by decide +kernel
theorem dX1_leastWrongBooks_45 : decode cX1_leastWrongBooks 45 = .ok (.ifCond .le 5, 3) := by decide +kernel
theorem dX1_leastWrongBooks_48 : decode cX1_leastWrongBooks 48 = .ok (.iload_n 2, 1) := by decide +kernel
theorem dX1_leastWrongBooks_49 : decode cX1_leastWrongBooks 49 = .ok (.istore_n 1, 1) := by decide +kernel
theorem dX1_leastWrongBooks_50 : decode cX1_leastWrongBooks 50 = .ok (.iinc 2 1, 3) := by decide +kernel
theorem dX1_leastWrongBooks_53 : decode cX1_leastWrongBooks 53 = .ok (.goto (-37), 3) := by decide +kernel
theorem dX1_leastWrongBooks_56 : decode cX1_leastWrongBooks 56 = .ok (.iload_n 1, 1) := by decide +kernel
theorem dX1_leastWrongBooks_57 : decode cX1_leastWrongBooks 57 = .ok (.ireturn, 1) := by decide +kernel
set_option maxRecDepth 20000 in
theorem ggX3_acceptsPress_X3_isDigit : GoodIn wsX3_acceptsPress wsX3_isDigit := goodIn_r _ [10] (by decide +kernel) (by decide +kernel)
set_option maxRecDepth 20000 in
theorem gX3_acceptsPress_X3_isDigit : GoodIn wsX3_acceptsPress (va_wsS RX3 72 yX3_isDigit wsX3_isDigit) := goodIn_app (goodIn_of _ (by decide +kernel)) ggX3_acceptsPress_X3_isDigit
set_option maxRecDepth 20000 in
theorem ggX3_acceptsPress_X4_isPress : GoodIn wsX3_acceptsPress wsX4_isPress := goodIn_r _ [13] (by decide +kernel) (by decide +kernel)
set_option maxRecDepth 20000 in
theorem gX3_acceptsPress_X4_isPress_n75 : GoodIn wsX3_acceptsPress (wsX4_isPress) := ggX3_acceptsPress_X4_isPress
theorem dX3_acceptsPress_0 : decode cX3_acceptsPress 0 = .ok (.iload_n 1, 1) := by decide +kernel
theorem dX3_acceptsPress_1 : decode cX3_acceptsPress 1 = .ok (.invokestatic 72, 3) := by decide +kernel
theorem dX3_acceptsPress_4 : decode cX3_acceptsPress 4 = .ok (.ifCond .eq 13, 3) := by decide +kernel
theorem dX3_acceptsPress_7 : decode cX3_acceptsPress 7 = .ok (.iload_n 1, 1) := by decide +kernel
theorem dX3_acceptsPress_8 : decode cX3_acceptsPress 8 = .ok (.bipush 48, 2) := by decide +kernel
theorem dX3_acceptsPress_10 : decode cX3_acceptsPress 10 = .ok (.isub, 1) := by decide +kernel
theorem dX3_acceptsPress_11 : decode cX3_acceptsPress 11 = .ok (.invokestatic 75, 3) := by decide +kernel
theorem dX3_acceptsPress_14 : decode cX3_acceptsPress 14 = .ok (.ifCond .ne 5, 3) := by decide +kernel
theorem dX3_acceptsPress_17 : decode cX3_acceptsPress 17 = .ok (.iconst 0, 1) := by decide +kernel
theorem dX3_acceptsPress_18 : decode cX3_acceptsPress 18 = .ok (.ireturn, 1) := by decide +kernel
theorem dX3_acceptsPress_19 : decode cX3_acceptsPress 19 = .ok (.aload_n 0, 1) := by decide +kernel
theorem dX3_acceptsPress_20 : decode cX3_acceptsPress 20 = .ok (.dup, 1) := by decide +kernel
theorem dX3_acceptsPress_21 : decode cX3_acceptsPress 21 = .ok (.getfield 18, 3) := by decide +kernel
theorem dX3_acceptsPress_24 : decode cX3_acceptsPress 24 = .ok (.iconst 1, 1) := by decide +kernel
theorem dX3_acceptsPress_25 : decode cX3_acceptsPress 25 = .ok (.iadd, 1) := by decide +kernel
theorem dX3_acceptsPress_26 : decode cX3_acceptsPress 26 = .ok (.putfield 18, 3) := by decide +kernel
theorem dX3_acceptsPress_29 : decode cX3_acceptsPress 29 = .ok (.aload_n 0, 1) := by decide +kernel
theorem dX3_acceptsPress_30 : decode cX3_acceptsPress 30 = .ok (.iload_n 1, 1) := by decide +kernel
theorem dX3_acceptsPress_31 : decode cX3_acceptsPress 31 = .ok (.bipush 48, 2) := by decide +kernel
theorem dX3_acceptsPress_33 : decode cX3_acceptsPress 33 = .ok (.isub, 1) := by decide +kernel
theorem dX3_acceptsPress_34 : decode cX3_acceptsPress 34 = .ok (.putfield 32, 3) := by decide +kernel
theorem dX3_acceptsPress_37 : decode cX3_acceptsPress 37 = .ok (.aload_n 0, 1) := by decide +kernel
theorem dX3_acceptsPress_38 : decode cX3_acceptsPress 38 = .ok (.iconst 0, 1) := by decide +kernel
theorem dX3_acceptsPress_39 : decode cX3_acceptsPress 39 = .ok (.putfield 35, 3) := by decide +kernel
theorem dX3_acceptsPress_42 : decode cX3_acceptsPress 42 = .ok (.aload_n 0, 1) := by decide +kernel
theorem dX3_acceptsPress_43 : decode cX3_acceptsPress 43 = .ok (.iconst (-1), 1) := by decide +kernel
theorem dX3_acceptsPress_44 : decode cX3_acceptsPress 44 = .ok (.putfield 38, 3) := by decide +kernel
theorem dX3_acceptsPress_47 : decode cX3_acceptsPress 47 = .ok (.aload_n 0, 1) := by decide +kernel
theorem dX3_acceptsPress_48 : decode cX3_acceptsPress 48 = .ok (.iconst (-1), 1) := by decide +kernel
theorem dX3_acceptsPress_49 : decode cX3_acceptsPress 49 = .ok (.putfield 41, 3) := by decide +kernel
theorem dX3_acceptsPress_52 : decode cX3_acceptsPress 52 = .ok (.aload_n 0, 1) := by decide +kernel
theorem dX3_acceptsPress_53 : decode cX3_acceptsPress 53 = .ok (.iconst 1, 1) := by decide +kernel
theorem dX3_acceptsPress_54 : decode cX3_acceptsPress 54 = .ok (.putfield 22, 3) := by decide +kernel
theorem dX3_acceptsPress_57 : decode cX3_acceptsPress 57 = .ok (.iconst 1, 1) := by decide +kernel
theorem dX3_acceptsPress_58 : decode cX3_acceptsPress 58 = .ok (.ireturn, 1) := by decide +kernel
theorem dX3_acceptsNoLetter_0 : decode cX3_acceptsNoLetter 0 = .ok (.iload_n 1, 1) := by decide +kernel
theorem dX3_acceptsNoLetter_1 : decode cX3_acceptsNoLetter 1 = .ok (.bipush 45, 2) := by decide +kernel
theorem dX3_acceptsNoLetter_3 : decode cX3_acceptsNoLetter 3 = .ok (.if_icmp .eq 5, 3) := by decide +kernel
theorem dX3_acceptsNoLetter_6 : decode cX3_acceptsNoLetter 6 = .ok (.iconst 0, 1) := by decide +kernel
theorem dX3_acceptsNoLetter_7 : decode cX3_acceptsNoLetter 7 = .ok (.ireturn, 1) := by decide +kernel
theorem dX3_acceptsNoLetter_8 : decode cX3_acceptsNoLetter 8 = .ok (.aload_n 0, 1) := by decide +kernel
theorem dX3_acceptsNoLetter_9 : decode cX3_acceptsNoLetter 9 = .ok (.iconst 3, 1) := by decide +kernel
theorem dX3_acceptsNoLetter_10 : decode cX3_acceptsNoLetter 10 = .ok (.putfield 22, 3) := by decide +kernel
theorem dX3_acceptsNoLetter_13 : decode cX3_acceptsNoLetter 13 = .ok (.iconst 1, 1) := by decide +kernel
theorem dX3_acceptsNoLetter_14 : decode cX3_acceptsNoLetter 14 = .ok (.ireturn, 1) := by decide +kernel
theorem dX3_isDigit_0 : decode cX3_isDigit 0 = .ok (.iload_n 0, 1) := by decide +kernel
theorem dX3_isDigit_1 : decode cX3_isDigit 1 = .ok (.bipush 48, 2) := by decide +kernel
theorem dX3_isDigit_3 : decode cX3_isDigit 3 = .ok (.if_icmp .lt 13, 3) := by decide +kernel
theorem dX3_isDigit_6 : decode cX3_isDigit 6 = .ok (.iload_n 0, 1) := by decide +kernel
theorem dX3_isDigit_7 : decode cX3_isDigit 7 = .ok (.bipush 57, 2) := by decide +kernel
theorem dX3_isDigit_9 : decode cX3_isDigit 9 = .ok (.if_icmp .gt 7, 3) := by decide +kernel
theorem dX3_isDigit_12 : decode cX3_isDigit 12 = .ok (.iconst 1, 1) := by decide +kernel
theorem dX3_isDigit_13 : decode cX3_isDigit 13 = .ok (.goto 4, 3) := by decide +kernel
theorem dX3_isDigit_16 : decode cX3_isDigit 16 = .ok (.iconst 0, 1) := by decide +kernel
theorem dX3_isDigit_17 : decode cX3_isDigit 17 = .ok (.ireturn, 1) := by decide +kernel
theorem dX4_isPress_0 : decode cX4_isPress 0 = .ok (.iload_n 0, 1) := by decide +kernel
theorem dX4_isPress_1 : decode cX4_isPress 1 = .ok (.ifCond .lt 12, 3) := by decide +kernel
theorem dX4_isPress_4 : decode cX4_isPress 4 = .ok (.iload_n 0, 1) := by decide +kernel
theorem dX4_isPress_5 : decode cX4_isPress 5 = .ok (.iconst 3, 1) := by decide +kernel
theorem dX4_isPress_6 : decode cX4_isPress 6 = .ok (.if_icmp .ge 7, 3) := by decide +kernel
theorem dX4_isPress_9 : decode cX4_isPress 9 = .ok (.iconst 1, 1) := by decide +kernel
theorem dX4_isPress_10 : decode cX4_isPress 10 = .ok (.goto 4, 3) := by decide +kernel
theorem dX4_isPress_13 : decode cX4_isPress 13 = .ok (.iconst 0, 1) := by decide +kernel
theorem dX4_isPress_14 : decode cX4_isPress 14 = .ok (.ireturn, 1) := by decide +kernel
def f_X1_bookInFirstOrder (p1 : Int32) (x0_isAnyOrder : Int32) (x0_size : Int32) (f1 : Nat → Int32) : Option (Int32) := (jn (u0 (some (-1))) (fun K1 => (if x0_isAnyOrder = 0 then K1 () else (if p1 < x0_size then (f_X1_lowestFree 0 x0_size f1).bind (u1 fun (r2 : Int32) => (wl (u3 fun (l2_3 : Int32) (l3_4 : Int32) (l4_5 : Int32) => (if p1 ≤ l4_5 then some (Sum.inr l3_4) else (if l3_4 = (-1) then some (Sum.inr l3_4) else (f_X1_lowestFree (l2_3 ||| ((1 : Int32) <<< (l3_4 &&& 31))) x0_size f1).bind (u1 fun (r7 : Int32) => some (Sum.inl ((l2_3 ||| ((1 : Int32) <<< (l3_4 &&& 31))), r7, (l4_5 + 1))))))) 9999 (0, r2, 0)).bind (u1 fun (l3_6 : Int32) => some l3_6)) else K1 ()))))
theorem in_X1_bookInFirstOrder_X1 : ∀ w ∈ wsX10, w ∈ wsX1_bookInFirstOrder := by decide +kernel
theorem fl_X1_bookInFirstOrder_37 : Cond.fieldLink RX1 37 "ColophonHunt$Reading" "isAnyOrder" "Z" ∈ wsX1_bookInFirstOrder := by decide +kernel
theorem fl_X1_bookInFirstOrder_40 : Cond.fieldLink RX1 40 "ColophonHunt$Reading" "size" "I" ∈ wsX1_bookInFirstOrder := by decide +kernel
theorem hd_X1_bookInFirstOrder : yX1_bookInFirstOrder.cls = RX1 ∧ yX1_bookInFirstOrder.cls ≠ "java/lang/invoke/MethodHandle" ∧ yX1_bookInFirstOrder.cls ≠ "java/lang/invoke/VarHandle" ∧ (parseMethodDescriptor yX1_bookInFirstOrder.desc).map (fun d => d.parameters.length) = some 1 := by decide +kernel
set_option maxRecDepth 100000 in
set_option maxHeartbeats 4000000 in
theorem c_X1_bookInFirstOrder (l : Launch) (D : va_G) (cI cS cL : ClassId) (a0 : Nat) (a1 : Nat) (b0_1 : Nat) (b0_2 : Nat) (b0_3 : Nat) (b0_4 : Nat) (b0_5 : Nat) (b0_6 : Nat) (p1 : Int32) (x0_areOrdersCounted : Int32) (x0_isAnyOrder : Int32) (x0_size : Int32) (f1 : Nat → Int32) (rr : Int32) (hc : f_X1_bookInFirstOrder p1 x0_isAnyOrder x0_size f1 = some rr) : KM l yX1_bookInFirstOrder wsX1_bookInFirstOrder { frames := 2, cells := 0, slots := 0, locals := 43 } D (tyS cI cS cL) [.ref a0, .int p1] [(a0, .inr (1, [.ref a1, .ref b0_1, .ref b0_2, .ref b0_3, .ref b0_4, .ref b0_5, .ref b0_6, .int x0_areOrdersCounted, .int x0_isAnyOrder, .int x0_size])), (a1, .inl (cI, 10, .inl f1))] (some (.int rr)) (fun w => w = [(a0, .inr (1, [.ref a1, .ref b0_1, .ref b0_2, .ref b0_3, .ref b0_4, .ref b0_5, .ref b0_6, .int x0_areOrdersCounted, .int x0_isAnyOrder, .int x0_size])), (a1, .inl (cI, 10, .inl f1))]) 0 0 := by
  refine g_entry (cc := cX1_bookInFirstOrder) (nL := 5) (rt := (some .int)) (by decide) rfl (Nat.le_of_ble_eq_true rfl) ?_
  intro p e s m args below meth c A (X : GC p s m args c cX1_bookInFirstOrder 5 RX1 wsX1_bookInFirstOrder D (tyS cI cS cL) A) hr hlk _ _
  have h := hc
  unfold f_X1_bookInFirstOrder at h
  refine g_lv (lv' := [(0, .ref a0), (1, .int p1)]) [0, 1] rfl ?_
  refine g_aload_n X (j := 0) dX1_bookInFirstOrder_0 rfl ?_
  refine g_get (q0 := 0) (k := 8) (ci := 1) X in_X1_bookInFirstOrder_X1 fl_X1_bookInFirstOrder_37 rfl rfl (Nat.le_of_ble_eq_true rfl) rfl dX1_bookInFirstOrder_1 ?_
  refine jn_g h (u0 ([(a0, .inr (1, [.ref a1, .ref b0_1, .ref b0_2, .ref b0_3, .ref b0_4, .ref b0_5, .ref b0_6, .int x0_areOrdersCounted, .int x0_isAnyOrder, .int x0_size])), (a1, .inl (cI, 10, .inl f1))])) (u0 ([])) (u0 ([])) 15 ?_ ?_
  · rintro ⟨⟩ h
    dsimp only [u0] at h ⊢
    refine g_iconst (v := (-1)) X dX1_bookInFirstOrder_15 (by decide) ?_
    have h := Option.some.inj h
    subst h
    exact g_iret X hr hlk dX1_bookInFirstOrder_16 rfl rfl
  · intro K1 hK1 h
    refine g_if_eq (tgt := 15) X h dX1_bookInFirstOrder_4 (by decide) (fun h => ?_) (fun h => ?_)
    · refine g_lv (lv' := []) [] rfl ?_
      exact hK1 () h
    · refine g_iload_n X (j := 1) dX1_bookInFirstOrder_7 rfl ?_
      refine g_aload_n X (j := 0) dX1_bookInFirstOrder_8 rfl ?_
      refine g_get (q0 := 0) (k := 9) (ci := 1) X in_X1_bookInFirstOrder_X1 fl_X1_bookInFirstOrder_40 rfl rfl (Nat.le_of_ble_eq_true rfl) rfl dX1_bookInFirstOrder_9 ?_
      refine g_icmp_lt (tgt := 17) X h dX1_bookInFirstOrder_12 (by decide) (fun h => ?_) (fun h => ?_)
      · refine g_iconst (v := 0) X dX1_bookInFirstOrder_17 (by decide) ?_
        refine g_istore_n (lv' := [(2, .int 0), (0, .ref a0), (1, .int p1)]) X dX1_bookInFirstOrder_18 rfl (by decide) rfl ?_
        refine g_aload_n X (j := 1) dX1_bookInFirstOrder_19 rfl ?_
        refine g_iload_n X (j := 0) dX1_bookInFirstOrder_20 rfl ?_
        obtain ⟨r2, hc, h⟩ := bd1 h
        refine g_callV (q0 := 0) (ci := 1) (is := [0, 1]) (As := [.int 0]) (ws' := [(a0, .inr (1, [.ref a1, .ref b0_1, .ref b0_2, .ref b0_3, .ref b0_4, .ref b0_5, .ref b0_6, .int x0_areOrdersCounted, .int x0_isAnyOrder, .int x0_size])), (a1, .inl (cI, 10, .inl f1))]) (st := []) X (c_X1_lowestFree l D cI cS cL a0 a1 b0_1 b0_2 b0_3 b0_4 b0_5 b0_6 0 x0_areOrdersCounted x0_isAnyOrder x0_size f1 r2 hc) gX1_bookInFirstOrder_X1_lowestFree rfl ⟨rfl, rfl⟩ hd_X1_lowestFree ⟨Nat.le_of_ble_eq_true rfl, Nat.le_of_ble_eq_true rfl⟩ ⟨Nat.zero_le _, Nat.zero_le _⟩ rfl rfl rfl rfl rfl rfl rfl (Nat.le_of_ble_eq_true rfl) rfl dX1_bookInFirstOrder_21 ?_
        refine g_istore_n (lv' := [(3, .int r2), (2, .int 0), (0, .ref a0), (1, .int p1)]) X dX1_bookInFirstOrder_24 rfl (by decide) rfl ?_
        refine g_iconst (v := 0) X dX1_bookInFirstOrder_25 (by decide) ?_
        refine g_istore (lv' := [(4, .int 0), (3, .int r2), (2, .int 0), (0, .ref a0), (1, .int p1)]) X dX1_bookInFirstOrder_26 (by decide) rfl ?_
        refine g_lv (lv' := [(0, .ref a0), (1, .int p1), (2, .int 0), (3, .int r2), (4, .int 0)]) [3, 4, 2, 1, 0] rfl ?_
        refine wl_g1 h (u3 fun l2_3 l3_4 l4_5 => [(a0, .inr (1, [.ref a1, .ref b0_1, .ref b0_2, .ref b0_3, .ref b0_4, .ref b0_5, .ref b0_6, .int x0_areOrdersCounted, .int x0_isAnyOrder, .int x0_size])), (a1, .inl (cI, 10, .inl f1))]) (u3 fun l2_3 l3_4 l4_5 => [(0, .ref a0), (1, .int p1), (2, .int l2_3), (3, .int l3_4), (4, .int l4_5)]) rfl rfl (u1 fun l3_6 => [(a0, .inr (1, [.ref a1, .ref b0_1, .ref b0_2, .ref b0_3, .ref b0_4, .ref b0_5, .ref b0_6, .int x0_areOrdersCounted, .int x0_isAnyOrder, .int x0_size])), (a1, .inl (cI, 10, .inl f1))]) (u1 fun l3_6 => [(3, .int l3_6)]) 57 ?_ ?_
        · rintro l3_6 h
          dsimp only [u1] at h ⊢
          refine g_iload_n X (j := 0) dX1_bookInFirstOrder_57 rfl ?_
          have h := Option.some.inj h
          subst h
          exact g_iret X hr hlk dX1_bookInFirstOrder_58 rfl rfl
        · rintro ⟨l2_3, l3_4, l4_5⟩ o h hI hE
          dsimp only [u3] at h ⊢
          refine g_iload X (j := 4) dX1_bookInFirstOrder_28 rfl ?_
          refine g_iload_n X (j := 1) dX1_bookInFirstOrder_30 rfl ?_
          refine g_icmp_ge (tgt := 57) X h dX1_bookInFirstOrder_31 (by decide) (fun h => ?_) (fun h => ?_)
          · refine g_lv (lv' := [(3, .int l3_4)]) [3] rfl ?_
            exact hE l3_4 (Option.some.inj h).symm
          · refine g_iload_n X (j := 3) dX1_bookInFirstOrder_34 rfl ?_
            refine g_iconst (v := (-1)) X dX1_bookInFirstOrder_35 (by decide) ?_
            refine g_icmp_eq (tgt := 57) X h dX1_bookInFirstOrder_36 (by decide) (fun h => ?_) (fun h => ?_)
            · refine g_lv (lv' := [(3, .int l3_4)]) [3] rfl ?_
              exact hE l3_4 (Option.some.inj h).symm
            · refine g_iload_n X (j := 2) dX1_bookInFirstOrder_39 rfl ?_
              refine g_iconst (v := 1) X dX1_bookInFirstOrder_40 (by decide) ?_
              refine g_iload_n X (j := 3) dX1_bookInFirstOrder_41 rfl ?_
              refine g_ishl X dX1_bookInFirstOrder_42 ?_
              refine g_ior X dX1_bookInFirstOrder_43 ?_
              refine g_istore_n (lv' := [(2, .int (l2_3 ||| ((1 : Int32) <<< (l3_4 &&& 31)))), (0, .ref a0), (1, .int p1), (3, .int l3_4), (4, .int l4_5)]) X dX1_bookInFirstOrder_44 rfl (by decide) rfl ?_
              refine g_aload_n X (j := 1) dX1_bookInFirstOrder_45 rfl ?_
              refine g_iload_n X (j := 0) dX1_bookInFirstOrder_46 rfl ?_
              obtain ⟨r7, hc, h⟩ := bd1 h
              refine g_callV (q0 := 0) (ci := 1) (is := [0, 1]) (As := [.int (l2_3 ||| ((1 : Int32) <<< (l3_4 &&& 31)))]) (ws' := [(a0, .inr (1, [.ref a1, .ref b0_1, .ref b0_2, .ref b0_3, .ref b0_4, .ref b0_5, .ref b0_6, .int x0_areOrdersCounted, .int x0_isAnyOrder, .int x0_size])), (a1, .inl (cI, 10, .inl f1))]) (st := []) X (c_X1_lowestFree l D cI cS cL a0 a1 b0_1 b0_2 b0_3 b0_4 b0_5 b0_6 (l2_3 ||| ((1 : Int32) <<< (l3_4 &&& 31))) x0_areOrdersCounted x0_isAnyOrder x0_size f1 r7 hc) gX1_bookInFirstOrder_X1_lowestFree rfl ⟨rfl, rfl⟩ hd_X1_lowestFree ⟨Nat.le_of_ble_eq_true rfl, Nat.le_of_ble_eq_true rfl⟩ ⟨Nat.zero_le _, Nat.zero_le _⟩ rfl rfl rfl rfl rfl rfl rfl (Nat.le_of_ble_eq_true rfl) rfl dX1_bookInFirstOrder_47 ?_
              refine g_istore_n (lv' := [(3, .int r7), (2, .int (l2_3 ||| ((1 : Int32) <<< (l3_4 &&& 31)))), (0, .ref a0), (1, .int p1), (4, .int l4_5)]) X dX1_bookInFirstOrder_50 rfl (by decide) rfl ?_
              refine g_iinc (j := 4) (lv' := [(4, .int (l4_5 + 1)), (3, .int r7), (2, .int (l2_3 ||| ((1 : Int32) <<< (l3_4 &&& 31)))), (0, .ref a0), (1, .int p1)]) X (l4_5 + 1) dX1_bookInFirstOrder_51 rfl rfl (by decide) rfl ?_
              refine g_goto (tgt := 28) X dX1_bookInFirstOrder_54 (by decide) ?_
              refine g_lv (lv' := [(0, .ref a0), (1, .int p1), (2, .int (l2_3 ||| ((1 : Int32) <<< (l3_4 &&& 31)))), (3, .int r7), (4, .int (l4_5 + 1))]) [3, 4, 2, 1, 0] rfl ?_
              exact hI ((l2_3 ||| ((1 : Int32) <<< (l3_4 &&& 31))), r7, (l4_5 + 1)) (Option.some.inj h).symm
      · refine g_lv (lv' := []) [] rfl ?_
        exact hK1 () h
def f_X1_leastPlace (p1 : Int32) (x0_isAnyOrder : Int32) (f1 : Nat → Int32) : Option (Int32) := (jn (u1 fun (s1 : Int32) => some s1) (fun K2 => (if x0_isAnyOrder = 0 then K2 (-1) else (rdA f1 10 p1).bind (fun v3 => (f_J6_bitCount_0f7a4 v3).bind (u1 fun (r4 : Int32) => K2 r4)))))
theorem in_X1_leastPlace_X1 : ∀ w ∈ wsX10, w ∈ wsX1_leastPlace := by decide +kernel
theorem fl_X1_leastPlace_37 : Cond.fieldLink RX1 37 "ColophonHunt$Reading" "isAnyOrder" "Z" ∈ wsX1_leastPlace := by decide +kernel
theorem fl_X1_leastPlace_24 : Cond.fieldLink RX1 24 "ColophonHunt$Reading" "allBefore" "[I" ∈ wsX1_leastPlace := by decide +kernel
theorem hd_X1_leastPlace : yX1_leastPlace.cls = RX1 ∧ yX1_leastPlace.cls ≠ "java/lang/invoke/MethodHandle" ∧ yX1_leastPlace.cls ≠ "java/lang/invoke/VarHandle" ∧ (parseMethodDescriptor yX1_leastPlace.desc).map (fun d => d.parameters.length) = some 1 := by decide +kernel
set_option maxRecDepth 100000 in
set_option maxHeartbeats 4000000 in
theorem c_X1_leastPlace (l : Launch) (D : va_G) (cI cS cL : ClassId) (a0 : Nat) (a1 : Nat) (b0_0 : Nat) (b0_1 : Nat) (b0_2 : Nat) (b0_3 : Nat) (b0_5 : Nat) (b0_6 : Nat) (p1 : Int32) (x0_areOrdersCounted : Int32) (x0_isAnyOrder : Int32) (x0_size : Int32) (f1 : Nat → Int32) (rr : Int32) (hc : f_X1_leastPlace p1 x0_isAnyOrder f1 = some rr) : KM l yX1_leastPlace wsX1_leastPlace { frames := 1, cells := 0, slots := 0, locals := 20 } D (tyS cI cS cL) [.ref a0, .int p1] [(a0, .inr (1, [.ref b0_0, .ref b0_1, .ref b0_2, .ref b0_3, .ref a1, .ref b0_5, .ref b0_6, .int x0_areOrdersCounted, .int x0_isAnyOrder, .int x0_size])), (a1, .inl (cI, 10, .inl f1))] (some (.int rr)) (fun w => w = [(a0, .inr (1, [.ref b0_0, .ref b0_1, .ref b0_2, .ref b0_3, .ref a1, .ref b0_5, .ref b0_6, .int x0_areOrdersCounted, .int x0_isAnyOrder, .int x0_size])), (a1, .inl (cI, 10, .inl f1))]) 0 0 := by
  refine g_entry (cc := cX1_leastPlace) (nL := 2) (rt := (some .int)) (by decide) rfl (Nat.le_of_ble_eq_true rfl) ?_
  intro p e s m args below meth c A (X : GC p s m args c cX1_leastPlace 2 RX1 wsX1_leastPlace D (tyS cI cS cL) A) hr hlk _ _
  have h := hc
  unfold f_X1_leastPlace at h
  refine g_lv (lv' := [(0, .ref a0), (1, .int p1)]) [0, 1] rfl ?_
  refine g_aload_n X (j := 0) dX1_leastPlace_0 rfl ?_
  refine g_get (q0 := 0) (k := 8) (ci := 1) X in_X1_leastPlace_X1 fl_X1_leastPlace_37 rfl rfl (Nat.le_of_ble_eq_true rfl) rfl dX1_leastPlace_1 ?_
  refine jn_g h (u1 fun s1 => [(a0, .inr (1, [.ref b0_0, .ref b0_1, .ref b0_2, .ref b0_3, .ref a1, .ref b0_5, .ref b0_6, .int x0_areOrdersCounted, .int x0_isAnyOrder, .int x0_size])), (a1, .inl (cI, 10, .inl f1))]) (u1 fun s1 => []) (u1 fun s1 => [.int s1]) 20 ?_ ?_
  · rintro s1 h
    dsimp only [u1] at h ⊢
    have h := Option.some.inj h
    subst h
    exact g_iret X hr hlk dX1_leastPlace_20 rfl rfl
  · intro K2 hK2 h
    refine g_if_eq (tgt := 19) X h dX1_leastPlace_4 (by decide) (fun h => ?_) (fun h => ?_)
    · refine g_iconst (v := (-1)) X dX1_leastPlace_19 (by decide) ?_
      refine g_lv (lv' := []) [] rfl ?_
      exact hK2 (-1) h
    · refine g_aload_n X (j := 0) dX1_leastPlace_7 rfl ?_
      refine g_get (q0 := 0) (k := 4) (ci := 1) X in_X1_leastPlace_X1 fl_X1_leastPlace_24 rfl rfl (Nat.le_of_ble_eq_true rfl) rfl dX1_leastPlace_8 ?_
      refine g_iload_n X (j := 1) dX1_leastPlace_11 rfl ?_
      refine g_iald (q0 := 1) (t0 := 0) X h rfl rfl dX1_leastPlace_12 (fun v3 h => ?_)
      obtain ⟨r4, hc, h⟩ := bd1 h
      refine g_callS (is := []) (As := [.int v3]) (ws' := [(a0, .inr (1, [.ref b0_0, .ref b0_1, .ref b0_2, .ref b0_3, .ref a1, .ref b0_5, .ref b0_6, .int x0_areOrdersCounted, .int x0_isAnyOrder, .int x0_size])), (a1, .inl (cI, 10, .inl f1))]) (st := []) X (c_J6_bitCount_0f7a4 l D cI cS cL v3 r4 hc) gX1_leastPlace_J6_bitCount_0f7a4 rfl ⟨rfl, rfl⟩ hd_J6_bitCount_0f7a4.2 ⟨Nat.le_of_ble_eq_true rfl, Nat.le_of_ble_eq_true rfl⟩ ⟨Nat.zero_le _, Nat.zero_le _⟩ rfl rfl rfl rfl rfl (Nat.le_of_ble_eq_true rfl) rfl dX1_leastPlace_13 ?_
      refine g_goto (tgt := 20) X dX1_leastPlace_16 (by decide) ?_
      refine g_lv (lv' := []) [] rfl ?_
      exact hK2 r4 h
def f_X1_greatestPlace (p1 : Int32) (x0_isAnyOrder : Int32) (x0_size : Int32) (f1 : Nat → Int32) : Option (Int32) := (jn (u1 fun (s1 : Int32) => some s1) (fun K2 => (if x0_isAnyOrder = 0 then K2 (-1) else (rdA f1 10 p1).bind (fun v3 => (f_J6_bitCount_0f7a4 v3).bind (u1 fun (r4 : Int32) => K2 ((x0_size - 1) - r4))))))
theorem in_X1_greatestPlace_X1 : ∀ w ∈ wsX10, w ∈ wsX1_greatestPlace := by decide +kernel
theorem fl_X1_greatestPlace_37 : Cond.fieldLink RX1 37 "ColophonHunt$Reading" "isAnyOrder" "Z" ∈ wsX1_greatestPlace := by decide +kernel
theorem fl_X1_greatestPlace_40 : Cond.fieldLink RX1 40 "ColophonHunt$Reading" "size" "I" ∈ wsX1_greatestPlace := by decide +kernel
theorem fl_X1_greatestPlace_27 : Cond.fieldLink RX1 27 "ColophonHunt$Reading" "allBehind" "[I" ∈ wsX1_greatestPlace := by decide +kernel
theorem hd_X1_greatestPlace : yX1_greatestPlace.cls = RX1 ∧ yX1_greatestPlace.cls ≠ "java/lang/invoke/MethodHandle" ∧ yX1_greatestPlace.cls ≠ "java/lang/invoke/VarHandle" ∧ (parseMethodDescriptor yX1_greatestPlace.desc).map (fun d => d.parameters.length) = some 1 := by decide +kernel
set_option maxRecDepth 100000 in
set_option maxHeartbeats 4000000 in
theorem c_X1_greatestPlace (l : Launch) (D : va_G) (cI cS cL : ClassId) (a0 : Nat) (a1 : Nat) (b0_0 : Nat) (b0_1 : Nat) (b0_2 : Nat) (b0_3 : Nat) (b0_4 : Nat) (b0_6 : Nat) (p1 : Int32) (x0_areOrdersCounted : Int32) (x0_isAnyOrder : Int32) (x0_size : Int32) (f1 : Nat → Int32) (rr : Int32) (hc : f_X1_greatestPlace p1 x0_isAnyOrder x0_size f1 = some rr) : KM l yX1_greatestPlace wsX1_greatestPlace { frames := 1, cells := 0, slots := 0, locals := 20 } D (tyS cI cS cL) [.ref a0, .int p1] [(a0, .inr (1, [.ref b0_0, .ref b0_1, .ref b0_2, .ref b0_3, .ref b0_4, .ref a1, .ref b0_6, .int x0_areOrdersCounted, .int x0_isAnyOrder, .int x0_size])), (a1, .inl (cI, 10, .inl f1))] (some (.int rr)) (fun w => w = [(a0, .inr (1, [.ref b0_0, .ref b0_1, .ref b0_2, .ref b0_3, .ref b0_4, .ref a1, .ref b0_6, .int x0_areOrdersCounted, .int x0_isAnyOrder, .int x0_size])), (a1, .inl (cI, 10, .inl f1))]) 0 0 := by
  refine g_entry (cc := cX1_greatestPlace) (nL := 2) (rt := (some .int)) (by decide) rfl (Nat.le_of_ble_eq_true rfl) ?_
  intro p e s m args below meth c A (X : GC p s m args c cX1_greatestPlace 2 RX1 wsX1_greatestPlace D (tyS cI cS cL) A) hr hlk _ _
  have h := hc
  unfold f_X1_greatestPlace at h
  refine g_lv (lv' := [(0, .ref a0), (1, .int p1)]) [0, 1] rfl ?_
  refine g_aload_n X (j := 0) dX1_greatestPlace_0 rfl ?_
  refine g_get (q0 := 0) (k := 8) (ci := 1) X in_X1_greatestPlace_X1 fl_X1_greatestPlace_37 rfl rfl (Nat.le_of_ble_eq_true rfl) rfl dX1_greatestPlace_1 ?_
  refine jn_g h (u1 fun s1 => [(a0, .inr (1, [.ref b0_0, .ref b0_1, .ref b0_2, .ref b0_3, .ref b0_4, .ref a1, .ref b0_6, .int x0_areOrdersCounted, .int x0_isAnyOrder, .int x0_size])), (a1, .inl (cI, 10, .inl f1))]) (u1 fun s1 => []) (u1 fun s1 => [.int s1]) 27 ?_ ?_
  · rintro s1 h
    dsimp only [u1] at h ⊢
    have h := Option.some.inj h
    subst h
    exact g_iret X hr hlk dX1_greatestPlace_27 rfl rfl
  · intro K2 hK2 h
    refine g_if_eq (tgt := 26) X h dX1_greatestPlace_4 (by decide) (fun h => ?_) (fun h => ?_)
    · refine g_iconst (v := (-1)) X dX1_greatestPlace_26 (by decide) ?_
      refine g_lv (lv' := []) [] rfl ?_
      exact hK2 (-1) h
    · refine g_aload_n X (j := 0) dX1_greatestPlace_7 rfl ?_
      refine g_get (q0 := 0) (k := 9) (ci := 1) X in_X1_greatestPlace_X1 fl_X1_greatestPlace_40 rfl rfl (Nat.le_of_ble_eq_true rfl) rfl dX1_greatestPlace_8 ?_
      refine g_iconst (v := 1) X dX1_greatestPlace_11 (by decide) ?_
      refine g_isub X dX1_greatestPlace_12 ?_
      refine g_aload_n X (j := 0) dX1_greatestPlace_13 rfl ?_
      refine g_get (q0 := 0) (k := 5) (ci := 1) X in_X1_greatestPlace_X1 fl_X1_greatestPlace_27 rfl rfl (Nat.le_of_ble_eq_true rfl) rfl dX1_greatestPlace_14 ?_
      refine g_iload_n X (j := 1) dX1_greatestPlace_17 rfl ?_
      refine g_iald (q0 := 1) (t0 := 0) X h rfl rfl dX1_greatestPlace_18 (fun v3 h => ?_)
      obtain ⟨r4, hc, h⟩ := bd1 h
      refine g_callS (is := []) (As := [.int v3]) (ws' := [(a0, .inr (1, [.ref b0_0, .ref b0_1, .ref b0_2, .ref b0_3, .ref b0_4, .ref a1, .ref b0_6, .int x0_areOrdersCounted, .int x0_isAnyOrder, .int x0_size])), (a1, .inl (cI, 10, .inl f1))]) (st := [.int (x0_size - 1)]) X (c_J6_bitCount_0f7a4 l D cI cS cL v3 r4 hc) gX1_greatestPlace_J6_bitCount_0f7a4 rfl ⟨rfl, rfl⟩ hd_J6_bitCount_0f7a4.2 ⟨Nat.le_of_ble_eq_true rfl, Nat.le_of_ble_eq_true rfl⟩ ⟨Nat.zero_le _, Nat.zero_le _⟩ rfl rfl rfl rfl rfl (Nat.le_of_ble_eq_true rfl) rfl dX1_greatestPlace_19 ?_
      refine g_isub X dX1_greatestPlace_22 ?_
      refine g_goto (tgt := 27) X dX1_greatestPlace_23 (by decide) ?_
      refine g_lv (lv' := []) [] rfl ?_
      exact hK2 ((x0_size - 1) - r4) h
def f_X1_ordersWithFirst (p1 : Int32) (x0_areOrdersCounted : Int32) (x0_isAnyOrder : Int32) (x0_size : Int32) (f1 : Nat → Int32) (f2 : Nat → Int32) : Option (Int32 × Int32 × (Nat → Int32)) := (jn (u3 fun (w1 : Int32) (w2 : Nat → Int32) (s3 : Int32) => some (s3, w1, w2)) (fun K4 => jn (u0 (K4 (x0_areOrdersCounted, f2, 0))) (fun K5 => (if x0_isAnyOrder = 0 then K5 () else (rdA f1 10 p1).bind (fun v6 => (if v6 = 0 then (f_X1_allBooks x0_size).bind (u1 fun (r7 : Int32) => (f_X1_ordersOf (r7 ^^^ ((1 : Int32) <<< (p1 &&& 31))) x0_areOrdersCounted x0_size f1 f2).bind (u3 fun (r8 : Int32) (o9 : Int32) (o10 : Nat → Int32) => K4 (o9, o10, r8))) else K5 ()))))))
theorem in_X1_ordersWithFirst_X1 : ∀ w ∈ wsX10, w ∈ wsX1_ordersWithFirst := by decide +kernel
theorem fl_X1_ordersWithFirst_37 : Cond.fieldLink RX1 37 "ColophonHunt$Reading" "isAnyOrder" "Z" ∈ wsX1_ordersWithFirst := by decide +kernel
theorem fl_X1_ordersWithFirst_9 : Cond.fieldLink RX1 9 "ColophonHunt$Reading" "before" "[I" ∈ wsX1_ordersWithFirst := by decide +kernel
theorem hd_X1_ordersWithFirst : yX1_ordersWithFirst.cls = RX1 ∧ yX1_ordersWithFirst.cls ≠ "java/lang/invoke/MethodHandle" ∧ yX1_ordersWithFirst.cls ≠ "java/lang/invoke/VarHandle" ∧ (parseMethodDescriptor yX1_ordersWithFirst.desc).map (fun d => d.parameters.length) = some 1 := by decide +kernel
set_option maxRecDepth 100000 in
set_option maxHeartbeats 4000000 in
theorem c_X1_ordersWithFirst (l : Launch) (D : va_G) (cI cS cL : ClassId) (a0 : Nat) (a1 : Nat) (a2 : Nat) (b0_1 : Nat) (b0_2 : Nat) (b0_3 : Nat) (b0_4 : Nat) (b0_5 : Nat) (p1 : Int32) (x0_areOrdersCounted : Int32) (x0_isAnyOrder : Int32) (x0_size : Int32) (f1 : Nat → Int32) (f2 : Nat → Int32) (rr : Int32) (y0 : Int32) (y1 : Nat → Int32) (hc : f_X1_ordersWithFirst p1 x0_areOrdersCounted x0_isAnyOrder x0_size f1 f2 = some (rr, y0, y1)) : KM l yX1_ordersWithFirst wsX1_ordersWithFirst { frames := 3, cells := 0, slots := 0, locals := 65 } D (tyS cI cS cL) [.ref a0, .int p1] [(a0, .inr (1, [.ref a1, .ref b0_1, .ref b0_2, .ref b0_3, .ref b0_4, .ref b0_5, .ref a2, .int x0_areOrdersCounted, .int x0_isAnyOrder, .int x0_size])), (a1, .inl (cI, 10, .inl f1)), (a2, .inl (cI, 1024, .inl f2))] (some (.int rr)) (fun w => w = [(a0, .inr (1, [.ref a1, .ref b0_1, .ref b0_2, .ref b0_3, .ref b0_4, .ref b0_5, .ref a2, .int y0, .int x0_isAnyOrder, .int x0_size])), (a1, .inl (cI, 10, .inl f1)), (a2, .inl (cI, 1024, .inl y1))]) 0 0 := by
  refine g_entry (cc := cX1_ordersWithFirst) (nL := 2) (rt := (some .int)) (by decide) rfl (Nat.le_of_ble_eq_true rfl) ?_
  intro p e s m args below meth c A (X : GC p s m args c cX1_ordersWithFirst 2 RX1 wsX1_ordersWithFirst D (tyS cI cS cL) A) hr hlk _ _
  have h := hc
  unfold f_X1_ordersWithFirst at h
  refine g_lv (lv' := [(0, .ref a0), (1, .int p1)]) [0, 1] rfl ?_
  refine g_aload_n X (j := 0) dX1_ordersWithFirst_0 rfl ?_
  refine g_get (q0 := 0) (k := 8) (ci := 1) X in_X1_ordersWithFirst_X1 fl_X1_ordersWithFirst_37 rfl rfl (Nat.le_of_ble_eq_true rfl) rfl dX1_ordersWithFirst_1 ?_
  refine jn_g h (u3 fun w1 w2 s3 => [(a0, .inr (1, [.ref a1, .ref b0_1, .ref b0_2, .ref b0_3, .ref b0_4, .ref b0_5, .ref a2, .int w1, .int x0_isAnyOrder, .int x0_size])), (a1, .inl (cI, 10, .inl f1)), (a2, .inl (cI, 1024, .inl w2))]) (u3 fun w1 w2 s3 => []) (u3 fun w1 w2 s3 => [.int s3]) 32 ?_ ?_
  · rintro ⟨w1, w2, s3⟩ h
    dsimp only [u3] at h ⊢
    have h := Option.some.inj h
    simp only [Prod.mk.injEq] at h
    obtain ⟨rfl, rfl, rfl⟩ := h
    exact g_iret X hr hlk dX1_ordersWithFirst_32 rfl rfl
  · intro K4 hK4 h
    refine jn_g h (u0 ([(a0, .inr (1, [.ref a1, .ref b0_1, .ref b0_2, .ref b0_3, .ref b0_4, .ref b0_5, .ref a2, .int x0_areOrdersCounted, .int x0_isAnyOrder, .int x0_size])), (a1, .inl (cI, 10, .inl f1)), (a2, .inl (cI, 1024, .inl f2))])) (u0 ([])) (u0 ([])) 31 ?_ ?_
    · rintro ⟨⟩ h
      dsimp only [u0] at h ⊢
      refine g_iconst (v := 0) X dX1_ordersWithFirst_31 (by decide) ?_
      exact hK4 (x0_areOrdersCounted, f2, 0) h
    · intro K5 hK5 h
      refine g_if_eq (tgt := 31) X h dX1_ordersWithFirst_4 (by decide) (fun h => ?_) (fun h => ?_)
      · refine g_lv (lv' := []) [] rfl ?_
        exact hK5 () h
      · refine g_aload_n X (j := 0) dX1_ordersWithFirst_7 rfl ?_
        refine g_get (q0 := 0) (k := 0) (ci := 1) X in_X1_ordersWithFirst_X1 fl_X1_ordersWithFirst_9 rfl rfl (Nat.le_of_ble_eq_true rfl) rfl dX1_ordersWithFirst_8 ?_
        refine g_iload_n X (j := 1) dX1_ordersWithFirst_11 rfl ?_
        refine g_iald (q0 := 1) (t0 := 0) X h rfl rfl dX1_ordersWithFirst_12 (fun v6 h => ?_)
        refine g_if_ne (tgt := 31) X h dX1_ordersWithFirst_13 (by decide) (fun h => ?_) (fun h => ?_)
        · refine g_lv (lv' := []) [] rfl ?_
          exact hK5 () h
        · refine g_aload_n X (j := 0) dX1_ordersWithFirst_16 rfl ?_
          refine g_aload_n X (j := 0) dX1_ordersWithFirst_17 rfl ?_
          obtain ⟨r7, hc, h⟩ := bd1 h
          refine g_callV (q0 := 0) (ci := 1) (is := [0]) (As := []) (ws' := [(a0, .inr (1, [.ref a1, .ref b0_1, .ref b0_2, .ref b0_3, .ref b0_4, .ref b0_5, .ref a2, .int x0_areOrdersCounted, .int x0_isAnyOrder, .int x0_size])), (a1, .inl (cI, 10, .inl f1)), (a2, .inl (cI, 1024, .inl f2))]) (st := [.ref a0]) X (c_X1_allBooks l D cI cS cL a0 a1 b0_1 b0_2 b0_3 b0_4 b0_5 a2 x0_areOrdersCounted x0_isAnyOrder x0_size r7 hc) gX1_ordersWithFirst_X1_allBooks rfl ⟨rfl, rfl⟩ hd_X1_allBooks ⟨Nat.le_of_ble_eq_true rfl, Nat.le_of_ble_eq_true rfl⟩ ⟨Nat.zero_le _, Nat.zero_le _⟩ rfl rfl rfl rfl rfl rfl rfl (Nat.le_of_ble_eq_true rfl) rfl dX1_ordersWithFirst_18 ?_
          refine g_iconst (v := 1) X dX1_ordersWithFirst_21 (by decide) ?_
          refine g_iload_n X (j := 1) dX1_ordersWithFirst_22 rfl ?_
          refine g_ishl X dX1_ordersWithFirst_23 ?_
          refine g_ixor X dX1_ordersWithFirst_24 ?_
          obtain ⟨r8, o9, o10, hc, h⟩ := bd3 h
          refine g_callV (q0 := 0) (ci := 1) (is := [0, 1, 2]) (As := [.int (r7 ^^^ ((1 : Int32) <<< (p1 &&& 31)))]) (ws' := [(a0, .inr (1, [.ref a1, .ref b0_1, .ref b0_2, .ref b0_3, .ref b0_4, .ref b0_5, .ref a2, .int o9, .int x0_isAnyOrder, .int x0_size])), (a1, .inl (cI, 10, .inl f1)), (a2, .inl (cI, 1024, .inl o10))]) (st := []) X (c_X1_ordersOf l D cI cS cL a0 a1 a2 b0_1 b0_2 b0_3 b0_4 b0_5 (r7 ^^^ ((1 : Int32) <<< (p1 &&& 31))) x0_areOrdersCounted x0_isAnyOrder x0_size f1 f2 r8 o9 o10 hc) gX1_ordersWithFirst_X1_ordersOf rfl ⟨rfl, rfl⟩ hd_X1_ordersOf ⟨Nat.le_of_ble_eq_true rfl, Nat.le_of_ble_eq_true rfl⟩ ⟨Nat.zero_le _, Nat.zero_le _⟩ rfl rfl rfl rfl rfl rfl rfl (Nat.le_of_ble_eq_true rfl) rfl dX1_ordersWithFirst_25 ?_
          refine g_goto (tgt := 32) X dX1_ordersWithFirst_28 (by decide) ?_
          refine g_lv (lv' := []) [] rfl ?_
          exact hK4 (o9, o10, r8) h
def f_X1_leastWrongBooks (x0_areOrdersCounted : Int32) (x0_isAnyOrder : Int32) (x0_size : Int32) (f1 : Nat → Int32) (f2 : Nat → Int32) : Option (Int32 × Int32 × (Nat → Int32)) := (if x0_isAnyOrder = 0 then (f_X1_allBooks x0_size).bind (u1 fun (r1 : Int32) => (wl (u4 fun (l1_2 : Int32) (l2_3 : Int32) (w4 : Int32) (w5 : Nat → Int32) => (f_X1_allBooks x0_size).bind (u1 fun (r9 : Int32) => (if r9 < l2_3 then some (Sum.inr (l1_2, w4, w5)) else (f_J6_bitCount_0f7a4 l2_3).bind (u1 fun (r10 : Int32) => (f_J6_bitCount_0f7a4 l1_2).bind (u1 fun (r11 : Int32) => (jn (u3 fun (l1_12 : Int32) (w13 : Int32) (w14 : Nat → Int32) => some (Sum.inl (l1_12, (l2_3 + 1), w13, w14))) (fun K15 => (if r11 ≤ r10 then K15 (l1_2, w4, w5) else (f_X1_allBooks x0_size).bind (u1 fun (r16 : Int32) => (f_X1_ordersOf (r16 ^^^ l2_3) w4 x0_size f1 w5).bind (u3 fun (r17 : Int32) (o18 : Int32) (o19 : Nat → Int32) => (if r17 ≤ 0 then K15 (l1_2, o18, o19) else K15 (l2_3, o18, o19)))))))))))) 9999 (r1, 0, x0_areOrdersCounted, f2)).bind (u3 fun (l1_6 : Int32) (w7 : Int32) (w8 : Nat → Int32) => some (l1_6, w7, w8))) else some (0, x0_areOrdersCounted, f2))
theorem in_X1_leastWrongBooks_X1 : ∀ w ∈ wsX10, w ∈ wsX1_leastWrongBooks := by decide +kernel
theorem fl_X1_leastWrongBooks_37 : Cond.fieldLink RX1 37 "ColophonHunt$Reading" "isAnyOrder" "Z" ∈ wsX1_leastWrongBooks := by decide +kernel
theorem hd_X1_leastWrongBooks : yX1_leastWrongBooks.cls = RX1 ∧ yX1_leastWrongBooks.cls ≠ "java/lang/invoke/MethodHandle" ∧ yX1_leastWrongBooks.cls ≠ "java/lang/invoke/VarHandle" ∧ (parseMethodDescriptor yX1_leastWrongBooks.desc).map (fun d => d.parameters.length) = some 0 := by decide +kernel
set_option maxRecDepth 100000 in
set_option maxHeartbeats 4000000 in
theorem c_X1_leastWrongBooks (l : Launch) (D : va_G) (cI cS cL : ClassId) (a0 : Nat) (a1 : Nat) (a2 : Nat) (b0_1 : Nat) (b0_2 : Nat) (b0_3 : Nat) (b0_4 : Nat) (b0_5 : Nat) (x0_areOrdersCounted : Int32) (x0_isAnyOrder : Int32) (x0_size : Int32) (f1 : Nat → Int32) (f2 : Nat → Int32) (rr : Int32) (y0 : Int32) (y1 : Nat → Int32) (hc : f_X1_leastWrongBooks x0_areOrdersCounted x0_isAnyOrder x0_size f1 f2 = some (rr, y0, y1)) : KM l yX1_leastWrongBooks wsX1_leastWrongBooks { frames := 3, cells := 0, slots := 0, locals := 65 } D (tyS cI cS cL) [.ref a0] [(a0, .inr (1, [.ref a1, .ref b0_1, .ref b0_2, .ref b0_3, .ref b0_4, .ref b0_5, .ref a2, .int x0_areOrdersCounted, .int x0_isAnyOrder, .int x0_size])), (a1, .inl (cI, 10, .inl f1)), (a2, .inl (cI, 1024, .inl f2))] (some (.int rr)) (fun w => w = [(a0, .inr (1, [.ref a1, .ref b0_1, .ref b0_2, .ref b0_3, .ref b0_4, .ref b0_5, .ref a2, .int y0, .int x0_isAnyOrder, .int x0_size])), (a1, .inl (cI, 10, .inl f1)), (a2, .inl (cI, 1024, .inl y1))]) 0 0 := by
  refine g_entry (cc := cX1_leastWrongBooks) (nL := 3) (rt := (some .int)) (by decide) rfl (Nat.le_of_ble_eq_true rfl) ?_
  intro p e s m args below meth c A (X : GC p s m args c cX1_leastWrongBooks 3 RX1 wsX1_leastWrongBooks D (tyS cI cS cL) A) hr hlk _ _
  have h := hc
  unfold f_X1_leastWrongBooks at h
  refine g_lv (lv' := [(0, .ref a0)]) [0] rfl ?_
  refine g_aload_n X (j := 0) dX1_leastWrongBooks_0 rfl ?_
  refine g_get (q0 := 0) (k := 8) (ci := 1) X in_X1_leastWrongBooks_X1 fl_X1_leastWrongBooks_37 rfl rfl (Nat.le_of_ble_eq_true rfl) rfl dX1_leastWrongBooks_1 ?_
  refine g_if_eq (tgt := 9) X h dX1_leastWrongBooks_4 (by decide) (fun h => ?_) (fun h => ?_)
  · refine g_aload_n X (j := 0) dX1_leastWrongBooks_9 rfl ?_
    obtain ⟨r1, hc, h⟩ := bd1 h
    refine g_callV (q0 := 0) (ci := 1) (is := [0]) (As := []) (ws' := [(a0, .inr (1, [.ref a1, .ref b0_1, .ref b0_2, .ref b0_3, .ref b0_4, .ref b0_5, .ref a2, .int x0_areOrdersCounted, .int x0_isAnyOrder, .int x0_size])), (a1, .inl (cI, 10, .inl f1)), (a2, .inl (cI, 1024, .inl f2))]) (st := []) X (c_X1_allBooks l D cI cS cL a0 a1 b0_1 b0_2 b0_3 b0_4 b0_5 a2 x0_areOrdersCounted x0_isAnyOrder x0_size r1 hc) gX1_leastWrongBooks_X1_allBooks rfl ⟨rfl, rfl⟩ hd_X1_allBooks ⟨Nat.le_of_ble_eq_true rfl, Nat.le_of_ble_eq_true rfl⟩ ⟨Nat.zero_le _, Nat.zero_le _⟩ rfl rfl rfl rfl rfl rfl rfl (Nat.le_of_ble_eq_true rfl) rfl dX1_leastWrongBooks_10 ?_
    refine g_istore_n (lv' := [(1, .int r1), (0, .ref a0)]) X dX1_leastWrongBooks_13 rfl (by decide) rfl ?_
    refine g_iconst (v := 0) X dX1_leastWrongBooks_14 (by decide) ?_
    refine g_istore_n (lv' := [(2, .int 0), (1, .int r1), (0, .ref a0)]) X dX1_leastWrongBooks_15 rfl (by decide) rfl ?_
    refine g_lv (lv' := [(0, .ref a0), (1, .int r1), (2, .int 0)]) [2, 1, 0] rfl ?_
    refine wl_g1 h (u4 fun l1_2 l2_3 w4 w5 => [(a0, .inr (1, [.ref a1, .ref b0_1, .ref b0_2, .ref b0_3, .ref b0_4, .ref b0_5, .ref a2, .int w4, .int x0_isAnyOrder, .int x0_size])), (a1, .inl (cI, 10, .inl f1)), (a2, .inl (cI, 1024, .inl w5))]) (u4 fun l1_2 l2_3 w4 w5 => [(0, .ref a0), (1, .int l1_2), (2, .int l2_3)]) rfl rfl (u3 fun l1_6 w7 w8 => [(a0, .inr (1, [.ref a1, .ref b0_1, .ref b0_2, .ref b0_3, .ref b0_4, .ref b0_5, .ref a2, .int w7, .int x0_isAnyOrder, .int x0_size])), (a1, .inl (cI, 10, .inl f1)), (a2, .inl (cI, 1024, .inl w8))]) (u3 fun l1_6 w7 w8 => [(1, .int l1_6)]) 56 ?_ ?_
    · rintro ⟨l1_6, w7, w8⟩ h
      dsimp only [u3] at h ⊢
      refine g_iload_n X (j := 0) dX1_leastWrongBooks_56 rfl ?_
      have h := Option.some.inj h
      simp only [Prod.mk.injEq] at h
      obtain ⟨rfl, rfl, rfl⟩ := h
      exact g_iret X hr hlk dX1_leastWrongBooks_57 rfl rfl
    · rintro ⟨l1_2, l2_3, w4, w5⟩ o h hI hE
      dsimp only [u4] at h ⊢
      refine g_iload_n X (j := 2) dX1_leastWrongBooks_16 rfl ?_
      refine g_aload_n X (j := 0) dX1_leastWrongBooks_17 rfl ?_
      obtain ⟨r9, hc, h⟩ := bd1 h
      refine g_callV (q0 := 0) (ci := 1) (is := [0]) (As := []) (ws' := [(a0, .inr (1, [.ref a1, .ref b0_1, .ref b0_2, .ref b0_3, .ref b0_4, .ref b0_5, .ref a2, .int w4, .int x0_isAnyOrder, .int x0_size])), (a1, .inl (cI, 10, .inl f1)), (a2, .inl (cI, 1024, .inl w5))]) (st := [.int l2_3]) X (c_X1_allBooks l D cI cS cL a0 a1 b0_1 b0_2 b0_3 b0_4 b0_5 a2 w4 x0_isAnyOrder x0_size r9 hc) gX1_leastWrongBooks_X1_allBooks rfl ⟨rfl, rfl⟩ hd_X1_allBooks ⟨Nat.le_of_ble_eq_true rfl, Nat.le_of_ble_eq_true rfl⟩ ⟨Nat.zero_le _, Nat.zero_le _⟩ rfl rfl rfl rfl rfl rfl rfl (Nat.le_of_ble_eq_true rfl) rfl dX1_leastWrongBooks_18 ?_
      refine g_icmp_gt (tgt := 56) X h dX1_leastWrongBooks_21 (by decide) (fun h => ?_) (fun h => ?_)
      · refine g_lv (lv' := [(1, .int l1_2)]) [1] rfl ?_
        exact hE (l1_2, w4, w5) (Option.some.inj h).symm
      · refine g_iload_n X (j := 2) dX1_leastWrongBooks_24 rfl ?_
        obtain ⟨r10, hc, h⟩ := bd1 h
        refine g_callS (is := []) (As := [.int l2_3]) (ws' := [(a0, .inr (1, [.ref a1, .ref b0_1, .ref b0_2, .ref b0_3, .ref b0_4, .ref b0_5, .ref a2, .int w4, .int x0_isAnyOrder, .int x0_size])), (a1, .inl (cI, 10, .inl f1)), (a2, .inl (cI, 1024, .inl w5))]) (st := []) X (c_J6_bitCount_0f7a4 l D cI cS cL l2_3 r10 hc) gX1_leastWrongBooks_J6_bitCount_0f7a4 rfl ⟨rfl, rfl⟩ hd_J6_bitCount_0f7a4.2 ⟨Nat.le_of_ble_eq_true rfl, Nat.le_of_ble_eq_true rfl⟩ ⟨Nat.zero_le _, Nat.zero_le _⟩ rfl rfl rfl rfl rfl (Nat.le_of_ble_eq_true rfl) rfl dX1_leastWrongBooks_25 ?_
        refine g_iload_n X (j := 1) dX1_leastWrongBooks_28 rfl ?_
        obtain ⟨r11, hc, h⟩ := bd1 h
        refine g_callS (is := []) (As := [.int l1_2]) (ws' := [(a0, .inr (1, [.ref a1, .ref b0_1, .ref b0_2, .ref b0_3, .ref b0_4, .ref b0_5, .ref a2, .int w4, .int x0_isAnyOrder, .int x0_size])), (a1, .inl (cI, 10, .inl f1)), (a2, .inl (cI, 1024, .inl w5))]) (st := [.int r10]) X (c_J6_bitCount_0f7a4 l D cI cS cL l1_2 r11 hc) gX1_leastWrongBooks_J6_bitCount_0f7a4 rfl ⟨rfl, rfl⟩ hd_J6_bitCount_0f7a4.2 ⟨Nat.le_of_ble_eq_true rfl, Nat.le_of_ble_eq_true rfl⟩ ⟨Nat.zero_le _, Nat.zero_le _⟩ rfl rfl rfl rfl rfl (Nat.le_of_ble_eq_true rfl) rfl dX1_leastWrongBooks_29 ?_
        refine jn_g h (u3 fun l1_12 w13 w14 => [(a0, .inr (1, [.ref a1, .ref b0_1, .ref b0_2, .ref b0_3, .ref b0_4, .ref b0_5, .ref a2, .int w13, .int x0_isAnyOrder, .int x0_size])), (a1, .inl (cI, 10, .inl f1)), (a2, .inl (cI, 1024, .inl w14))]) (u3 fun l1_12 w13 w14 => [(0, .ref a0), (1, .int l1_12), (2, .int l2_3)]) (u3 fun l1_12 w13 w14 => []) 50 ?_ ?_
        · rintro ⟨l1_12, w13, w14⟩ h
          dsimp only [u3] at h ⊢
          refine g_iinc (j := 2) (lv' := [(2, .int (l2_3 + 1)), (0, .ref a0), (1, .int l1_12)]) X (l2_3 + 1) dX1_leastWrongBooks_50 rfl rfl (by decide) rfl ?_
          refine g_goto (tgt := 16) X dX1_leastWrongBooks_53 (by decide) ?_
          refine g_lv (lv' := [(0, .ref a0), (1, .int l1_12), (2, .int (l2_3 + 1))]) [1, 2, 0] rfl ?_
          exact hI (l1_12, (l2_3 + 1), w13, w14) (Option.some.inj h).symm
        · intro K15 hK15 h
          refine g_icmp_ge (tgt := 50) X h dX1_leastWrongBooks_32 (by decide) (fun h => ?_) (fun h => ?_)
          · exact hK15 (l1_2, w4, w5) h
          · refine g_aload_n X (j := 0) dX1_leastWrongBooks_35 rfl ?_
            refine g_aload_n X (j := 0) dX1_leastWrongBooks_36 rfl ?_
            obtain ⟨r16, hc, h⟩ := bd1 h
            refine g_callV (q0 := 0) (ci := 1) (is := [0]) (As := []) (ws' := [(a0, .inr (1, [.ref a1, .ref b0_1, .ref b0_2, .ref b0_3, .ref b0_4, .ref b0_5, .ref a2, .int w4, .int x0_isAnyOrder, .int x0_size])), (a1, .inl (cI, 10, .inl f1)), (a2, .inl (cI, 1024, .inl w5))]) (st := [.ref a0]) X (c_X1_allBooks l D cI cS cL a0 a1 b0_1 b0_2 b0_3 b0_4 b0_5 a2 w4 x0_isAnyOrder x0_size r16 hc) gX1_leastWrongBooks_X1_allBooks rfl ⟨rfl, rfl⟩ hd_X1_allBooks ⟨Nat.le_of_ble_eq_true rfl, Nat.le_of_ble_eq_true rfl⟩ ⟨Nat.zero_le _, Nat.zero_le _⟩ rfl rfl rfl rfl rfl rfl rfl (Nat.le_of_ble_eq_true rfl) rfl dX1_leastWrongBooks_37 ?_
            refine g_iload_n X (j := 2) dX1_leastWrongBooks_40 rfl ?_
            refine g_ixor X dX1_leastWrongBooks_41 ?_
            obtain ⟨r17, o18, o19, hc, h⟩ := bd3 h
            refine g_callV (q0 := 0) (ci := 1) (is := [0, 1, 2]) (As := [.int (r16 ^^^ l2_3)]) (ws' := [(a0, .inr (1, [.ref a1, .ref b0_1, .ref b0_2, .ref b0_3, .ref b0_4, .ref b0_5, .ref a2, .int o18, .int x0_isAnyOrder, .int x0_size])), (a1, .inl (cI, 10, .inl f1)), (a2, .inl (cI, 1024, .inl o19))]) (st := []) X (c_X1_ordersOf l D cI cS cL a0 a1 a2 b0_1 b0_2 b0_3 b0_4 b0_5 (r16 ^^^ l2_3) w4 x0_isAnyOrder x0_size f1 w5 r17 o18 o19 hc) gX1_leastWrongBooks_X1_ordersOf rfl ⟨rfl, rfl⟩ hd_X1_ordersOf ⟨Nat.le_of_ble_eq_true rfl, Nat.le_of_ble_eq_true rfl⟩ ⟨Nat.zero_le _, Nat.zero_le _⟩ rfl rfl rfl rfl rfl rfl rfl (Nat.le_of_ble_eq_true rfl) rfl dX1_leastWrongBooks_42 ?_
            refine g_if_le (tgt := 50) X h dX1_leastWrongBooks_45 (by decide) (fun h => ?_) (fun h => ?_)
            · exact hK15 (l1_2, o18, o19) h
            · refine g_iload_n X (j := 2) dX1_leastWrongBooks_48 rfl ?_
              refine g_istore_n (lv' := [(1, .int l2_3), (0, .ref a0), (2, .int l2_3)]) X dX1_leastWrongBooks_49 rfl (by decide) rfl ?_
              refine g_lv (lv' := [(0, .ref a0), (1, .int l2_3), (2, .int l2_3)]) [1, 0, 2] rfl ?_
              exact hK15 (l2_3, o18, o19) h
  · refine g_iconst (v := 0) X dX1_leastWrongBooks_7 (by decide) ?_
    have h := Option.some.inj h
    simp only [Prod.mk.injEq] at h
    obtain ⟨rfl, rfl, rfl⟩ := h
    exact g_iret X hr hlk dX1_leastWrongBooks_8 rfl rfl
def f_X3_isDigit (p0 : Int32) : Option (Int32) := (jn (u1 fun (s1 : Int32) => gB s1 (some s1)) (fun K2 => jn (u0 (K2 0)) (fun K3 => (if p0 < 48 then K3 () else (if 57 < p0 then K3 () else K2 1)))))
theorem hd_X3_isDigit : yX3_isDigit.cls = RX3 ∧ yX3_isDigit.cls ≠ "java/lang/invoke/MethodHandle" ∧ yX3_isDigit.cls ≠ "java/lang/invoke/VarHandle" ∧ (parseMethodDescriptor yX3_isDigit.desc).map (fun d => d.parameters.length) = some 1 := by decide +kernel
set_option maxRecDepth 100000 in
set_option maxHeartbeats 4000000 in
theorem c_X3_isDigit (l : Launch) (D : va_G) (cI cS cL : ClassId) (p0 : Int32) (rr : Int32) (hc : f_X3_isDigit p0 = some rr) : KM l yX3_isDigit wsX3_isDigit { frames := 0, cells := 0, slots := 0, locals := 0 } D (tyS cI cS cL) [.int p0] [] (some (.int rr)) (fun w => w = []) 0 0 := by
  refine g_entry (cc := cX3_isDigit) (nL := 1) (rt := (some .boolean)) (by decide) rfl (Nat.le_of_ble_eq_true rfl) ?_
  intro p e s m args below meth c A (X : GC p s m args c cX3_isDigit 1 RX3 wsX3_isDigit D (tyS cI cS cL) A) hr hlk _ _
  have h := hc
  unfold f_X3_isDigit at h
  refine g_lv (lv' := [(0, .int p0)]) [0] rfl ?_
  refine g_iload_n X (j := 0) dX3_isDigit_0 rfl ?_
  refine g_bipush (v := 48) X dX3_isDigit_1 (by decide) ?_
  refine jn_g h (u1 fun s1 => []) (u1 fun s1 => []) (u1 fun s1 => [.int s1]) 17 ?_ ?_
  · rintro s1 h
    dsimp only [u1] at h ⊢
    obtain ⟨hz, h⟩ := gB_e h
    have h := Option.some.inj h
    subst h
    exact g_zret X hr hlk hz dX3_isDigit_17 rfl rfl
  · intro K2 hK2 h
    refine jn_g h (u0 ([])) (u0 ([])) (u0 ([])) 16 ?_ ?_
    · rintro ⟨⟩ h
      dsimp only [u0] at h ⊢
      refine g_iconst (v := 0) X dX3_isDigit_16 (by decide) ?_
      exact hK2 0 h
    · intro K3 hK3 h
      refine g_icmp_lt (tgt := 16) X h dX3_isDigit_3 (by decide) (fun h => ?_) (fun h => ?_)
      · refine g_lv (lv' := []) [] rfl ?_
        exact hK3 () h
      · refine g_iload_n X (j := 0) dX3_isDigit_6 rfl ?_
        refine g_bipush (v := 57) X dX3_isDigit_7 (by decide) ?_
        refine g_icmp_gt (tgt := 16) X h dX3_isDigit_9 (by decide) (fun h => ?_) (fun h => ?_)
        · refine g_lv (lv' := []) [] rfl ?_
          exact hK3 () h
        · refine g_iconst (v := 1) X dX3_isDigit_12 (by decide) ?_
          refine g_goto (tgt := 17) X dX3_isDigit_13 (by decide) ?_
          refine g_lv (lv' := []) [] rfl ?_
          exact hK2 1 h
def f_X4_isPress (p0 : Int32) : Option (Int32) := (jn (u1 fun (s1 : Int32) => gB s1 (some s1)) (fun K2 => jn (u0 (K2 0)) (fun K3 => (if p0 < 0 then K3 () else (if 3 ≤ p0 then K3 () else K2 1)))))
theorem hd_X4_isPress : yX4_isPress.cls = RX4 ∧ yX4_isPress.cls ≠ "java/lang/invoke/MethodHandle" ∧ yX4_isPress.cls ≠ "java/lang/invoke/VarHandle" ∧ (parseMethodDescriptor yX4_isPress.desc).map (fun d => d.parameters.length) = some 1 := by decide +kernel
set_option maxRecDepth 100000 in
set_option maxHeartbeats 4000000 in
theorem c_X4_isPress (l : Launch) (D : va_G) (cI cS cL : ClassId) (p0 : Int32) (rr : Int32) (hc : f_X4_isPress p0 = some rr) : KM l yX4_isPress wsX4_isPress { frames := 0, cells := 0, slots := 0, locals := 0 } D (tyS cI cS cL) [.int p0] [] (some (.int rr)) (fun w => w = []) 0 0 := by
  refine g_entry (cc := cX4_isPress) (nL := 1) (rt := (some .boolean)) (by decide) rfl (Nat.le_of_ble_eq_true rfl) ?_
  intro p e s m args below meth c A (X : GC p s m args c cX4_isPress 1 RX4 wsX4_isPress D (tyS cI cS cL) A) hr hlk _ _
  have h := hc
  unfold f_X4_isPress at h
  refine g_lv (lv' := [(0, .int p0)]) [0] rfl ?_
  refine g_iload_n X (j := 0) dX4_isPress_0 rfl ?_
  refine jn_g h (u1 fun s1 => []) (u1 fun s1 => []) (u1 fun s1 => [.int s1]) 14 ?_ ?_
  · rintro s1 h
    dsimp only [u1] at h ⊢
    obtain ⟨hz, h⟩ := gB_e h
    have h := Option.some.inj h
    subst h
    exact g_zret X hr hlk hz dX4_isPress_14 rfl rfl
  · intro K2 hK2 h
    refine jn_g h (u0 ([])) (u0 ([])) (u0 ([])) 13 ?_ ?_
    · rintro ⟨⟩ h
      dsimp only [u0] at h ⊢
      refine g_iconst (v := 0) X dX4_isPress_13 (by decide) ?_
      exact hK2 0 h
    · intro K3 hK3 h
      refine g_if_lt (tgt := 13) X h dX4_isPress_1 (by decide) (fun h => ?_) (fun h => ?_)
      · refine g_lv (lv' := []) [] rfl ?_
        exact hK3 () h
      · refine g_iload_n X (j := 0) dX4_isPress_4 rfl ?_
        refine g_iconst (v := 3) X dX4_isPress_5 (by decide) ?_
        refine g_icmp_ge (tgt := 13) X h dX4_isPress_6 (by decide) (fun h => ?_) (fun h => ?_)
        · refine g_lv (lv' := []) [] rfl ?_
          exact hK3 () h
        · refine g_iconst (v := 1) X dX4_isPress_9 (by decide) ?_
          refine g_goto (tgt := 14) X dX4_isPress_10 (by decide) ?_
          refine g_lv (lv' := []) [] rfl ?_
          exact hK2 1 h
def f_X3_acceptsPress (p1 : Int32) (x0_parts : Int32) (x0_state : Int32) (x0_press : Int32) (x0_letters : Int32) (x0_mould : Int32) (x0_year : Int32) : Option (Int32 × Int32 × Int32 × Int32 × Int32 × Int32 × Int32) := (f_X3_isDigit p1).bind (u1 fun (r1 : Int32) => (jn (u0 (some (0, x0_parts, x0_state, x0_press, x0_letters, x0_mould, x0_year))) (fun K2 => (if r1 = 0 then K2 () else (f_X4_isPress (p1 - 48)).bind (u1 fun (r3 : Int32) => (if r3 = 0 then K2 () else some (1, (x0_parts + 1), 1, (p1 - 48), 0, (-1), (-1))))))))
theorem ns_X3_acceptsPress_75a : Cond.static yX4_isPress ∈ wsX3_acceptsPress := by decide +kernel
theorem ns_X3_acceptsPress_75b : Cond.initialized yX4_isPress.cls ∈ wsX3_acceptsPress := by decide +kernel
theorem in_X3_acceptsPress_X3 : ∀ w ∈ wsX30, w ∈ wsX3_acceptsPress := by decide +kernel
theorem fl_X3_acceptsPress_18 : Cond.fieldLink RX3 18 "ColophonHunt$TextReader" "parts" "I" ∈ wsX3_acceptsPress := by decide +kernel
theorem fl_X3_acceptsPress_32 : Cond.fieldLink RX3 32 "ColophonHunt$TextReader" "press" "I" ∈ wsX3_acceptsPress := by decide +kernel
theorem fl_X3_acceptsPress_35 : Cond.fieldLink RX3 35 "ColophonHunt$TextReader" "letters" "I" ∈ wsX3_acceptsPress := by decide +kernel
theorem fl_X3_acceptsPress_38 : Cond.fieldLink RX3 38 "ColophonHunt$TextReader" "mould" "I" ∈ wsX3_acceptsPress := by decide +kernel
theorem fl_X3_acceptsPress_41 : Cond.fieldLink RX3 41 "ColophonHunt$TextReader" "year" "I" ∈ wsX3_acceptsPress := by decide +kernel
theorem fl_X3_acceptsPress_22 : Cond.fieldLink RX3 22 "ColophonHunt$TextReader" "state" "I" ∈ wsX3_acceptsPress := by decide +kernel
theorem hd_X3_acceptsPress : yX3_acceptsPress.cls = RX3 ∧ yX3_acceptsPress.cls ≠ "java/lang/invoke/MethodHandle" ∧ yX3_acceptsPress.cls ≠ "java/lang/invoke/VarHandle" ∧ (parseMethodDescriptor yX3_acceptsPress.desc).map (fun d => d.parameters.length) = some 1 := by decide +kernel
set_option maxRecDepth 100000 in
set_option maxHeartbeats 4000000 in
theorem c_X3_acceptsPress (l : Launch) (D : va_G) (cI cS cL : ClassId) (a0 : Nat) (b0_0 : Nat) (p1 : Int32) (x0_parts : Int32) (x0_state : Int32) (x0_press : Int32) (x0_letters : Int32) (x0_mould : Int32) (x0_year : Int32) (x0_yearScale : Int32) (rr : Int32) (y0 : Int32) (y1 : Int32) (y2 : Int32) (y3 : Int32) (y4 : Int32) (y5 : Int32) (hc : f_X3_acceptsPress p1 x0_parts x0_state x0_press x0_letters x0_mould x0_year = some (rr, y0, y1, y2, y3, y4, y5)) : KM l yX3_acceptsPress wsX3_acceptsPress { frames := 1, cells := 0, slots := 0, locals := 20 } D (tyS cI cS cL) [.ref a0, .int p1] [(a0, .inr (3, [.ref b0_0, .int x0_parts, .int x0_state, .int x0_press, .int x0_letters, .int x0_mould, .int x0_year, .int x0_yearScale]))] (some (.int rr)) (fun w => w = [(a0, .inr (3, [.ref b0_0, .int y0, .int y1, .int y2, .int y3, .int y4, .int y5, .int x0_yearScale]))]) 0 0 := by
  refine g_entry (cc := cX3_acceptsPress) (nL := 2) (rt := (some .boolean)) (by decide) rfl (Nat.le_of_ble_eq_true rfl) ?_
  intro p e s m args below meth c A (X : GC p s m args c cX3_acceptsPress 2 RX3 wsX3_acceptsPress D (tyS cI cS cL) A) hr hlk _ _
  have h := hc
  unfold f_X3_acceptsPress at h
  refine g_lv (lv' := [(0, .ref a0), (1, .int p1)]) [0, 1] rfl ?_
  refine g_iload_n X (j := 1) dX3_acceptsPress_0 rfl ?_
  obtain ⟨r1, hc, h⟩ := bd1 h
  refine g_callS (is := []) (As := [.int p1]) (ws' := [(a0, .inr (3, [.ref b0_0, .int x0_parts, .int x0_state, .int x0_press, .int x0_letters, .int x0_mould, .int x0_year, .int x0_yearScale]))]) (st := []) X (c_X3_isDigit l D cI cS cL p1 r1 hc) gX3_acceptsPress_X3_isDigit rfl ⟨rfl, rfl⟩ hd_X3_isDigit.2 ⟨Nat.le_of_ble_eq_true rfl, Nat.le_of_ble_eq_true rfl⟩ ⟨Nat.zero_le _, Nat.zero_le _⟩ rfl rfl rfl rfl rfl (Nat.le_of_ble_eq_true rfl) rfl dX3_acceptsPress_1 ?_
  refine jn_g h (u0 ([(a0, .inr (3, [.ref b0_0, .int x0_parts, .int x0_state, .int x0_press, .int x0_letters, .int x0_mould, .int x0_year, .int x0_yearScale]))])) (u0 ([])) (u0 ([])) 17 ?_ ?_
  · rintro ⟨⟩ h
    dsimp only [u0] at h ⊢
    refine g_iconst (v := 0) X dX3_acceptsPress_17 (by decide) ?_
    have h := Option.some.inj h
    simp only [Prod.mk.injEq] at h
    obtain ⟨rfl, rfl, rfl, rfl, rfl, rfl, rfl⟩ := h
    exact g_zret X hr hlk (by decide) dX3_acceptsPress_18 rfl rfl
  · intro K2 hK2 h
    refine g_if_eq (tgt := 17) X h dX3_acceptsPress_4 (by decide) (fun h => ?_) (fun h => ?_)
    · refine g_lv (lv' := []) [] rfl ?_
      exact hK2 () h
    · refine g_iload_n X (j := 1) dX3_acceptsPress_7 rfl ?_
      refine g_bipush (v := 48) X dX3_acceptsPress_8 (by decide) ?_
      refine g_isub X dX3_acceptsPress_10 ?_
      obtain ⟨r3, hc, h⟩ := bd1 h
      refine g_callSN (is := []) (As := [.int (p1 - 48)]) (ws' := [(a0, .inr (3, [.ref b0_0, .int x0_parts, .int x0_state, .int x0_press, .int x0_letters, .int x0_mould, .int x0_year, .int x0_yearScale]))]) (st := []) X (c_X4_isPress l D cI cS cL (p1 - 48) r3 hc) X.2.2.2.2.2.2.2.1 gX3_acceptsPress_X4_isPress_n75 ns_X3_acceptsPress_75a ns_X3_acceptsPress_75b rfl ⟨rfl, rfl⟩ hd_X4_isPress.2 ⟨Nat.le_of_ble_eq_true rfl, Nat.le_of_ble_eq_true rfl⟩ ⟨Nat.zero_le _, Nat.zero_le _⟩ rfl rfl rfl rfl rfl (Nat.le_of_ble_eq_true rfl) rfl dX3_acceptsPress_11 ?_
      refine g_if_ne (tgt := 19) X h dX3_acceptsPress_14 (by decide) (fun h => ?_) (fun h => ?_)
      · refine g_aload_n X (j := 0) dX3_acceptsPress_19 rfl ?_
        refine g_dup X dX3_acceptsPress_20 rfl ?_
        refine g_get (q0 := 0) (k := 1) (ci := 3) X in_X3_acceptsPress_X3 fl_X3_acceptsPress_18 rfl rfl (Nat.le_of_ble_eq_true rfl) rfl dX3_acceptsPress_21 ?_
        refine g_iconst (v := 1) X dX3_acceptsPress_24 (by decide) ?_
        refine g_iadd X dX3_acceptsPress_25 ?_
        refine g_put (q0 := 0) (k := 1) (ci := 3) (ws' := [(a0, .inr (3, [.ref b0_0, .int (x0_parts + 1), .int x0_state, .int x0_press, .int x0_letters, .int x0_mould, .int x0_year, .int x0_yearScale]))]) X tyX3_ok nmX3 in_X3_acceptsPress_X3 fl_X3_acceptsPress_18 rfl rfl (Nat.le_of_ble_eq_true rfl) rfl rfl rfl (Nat.le_of_ble_eq_true rfl) dX3_acceptsPress_26 rfl ?_
        refine g_aload_n X (j := 0) dX3_acceptsPress_29 rfl ?_
        refine g_iload_n X (j := 1) dX3_acceptsPress_30 rfl ?_
        refine g_bipush (v := 48) X dX3_acceptsPress_31 (by decide) ?_
        refine g_isub X dX3_acceptsPress_33 ?_
        refine g_put (q0 := 0) (k := 3) (ci := 3) (ws' := [(a0, .inr (3, [.ref b0_0, .int (x0_parts + 1), .int x0_state, .int (p1 - 48), .int x0_letters, .int x0_mould, .int x0_year, .int x0_yearScale]))]) X tyX3_ok nmX3 in_X3_acceptsPress_X3 fl_X3_acceptsPress_32 rfl rfl (Nat.le_of_ble_eq_true rfl) rfl rfl rfl (Nat.le_of_ble_eq_true rfl) dX3_acceptsPress_34 rfl ?_
        refine g_aload_n X (j := 0) dX3_acceptsPress_37 rfl ?_
        refine g_iconst (v := 0) X dX3_acceptsPress_38 (by decide) ?_
        refine g_put (q0 := 0) (k := 4) (ci := 3) (ws' := [(a0, .inr (3, [.ref b0_0, .int (x0_parts + 1), .int x0_state, .int (p1 - 48), .int 0, .int x0_mould, .int x0_year, .int x0_yearScale]))]) X tyX3_ok nmX3 in_X3_acceptsPress_X3 fl_X3_acceptsPress_35 rfl rfl (Nat.le_of_ble_eq_true rfl) rfl rfl rfl (Nat.le_of_ble_eq_true rfl) dX3_acceptsPress_39 rfl ?_
        refine g_aload_n X (j := 0) dX3_acceptsPress_42 rfl ?_
        refine g_iconst (v := (-1)) X dX3_acceptsPress_43 (by decide) ?_
        refine g_put (q0 := 0) (k := 5) (ci := 3) (ws' := [(a0, .inr (3, [.ref b0_0, .int (x0_parts + 1), .int x0_state, .int (p1 - 48), .int 0, .int (-1), .int x0_year, .int x0_yearScale]))]) X tyX3_ok nmX3 in_X3_acceptsPress_X3 fl_X3_acceptsPress_38 rfl rfl (Nat.le_of_ble_eq_true rfl) rfl rfl rfl (Nat.le_of_ble_eq_true rfl) dX3_acceptsPress_44 rfl ?_
        refine g_aload_n X (j := 0) dX3_acceptsPress_47 rfl ?_
        refine g_iconst (v := (-1)) X dX3_acceptsPress_48 (by decide) ?_
        refine g_put (q0 := 0) (k := 6) (ci := 3) (ws' := [(a0, .inr (3, [.ref b0_0, .int (x0_parts + 1), .int x0_state, .int (p1 - 48), .int 0, .int (-1), .int (-1), .int x0_yearScale]))]) X tyX3_ok nmX3 in_X3_acceptsPress_X3 fl_X3_acceptsPress_41 rfl rfl (Nat.le_of_ble_eq_true rfl) rfl rfl rfl (Nat.le_of_ble_eq_true rfl) dX3_acceptsPress_49 rfl ?_
        refine g_aload_n X (j := 0) dX3_acceptsPress_52 rfl ?_
        refine g_iconst (v := 1) X dX3_acceptsPress_53 (by decide) ?_
        refine g_put (q0 := 0) (k := 2) (ci := 3) (ws' := [(a0, .inr (3, [.ref b0_0, .int (x0_parts + 1), .int 1, .int (p1 - 48), .int 0, .int (-1), .int (-1), .int x0_yearScale]))]) X tyX3_ok nmX3 in_X3_acceptsPress_X3 fl_X3_acceptsPress_22 rfl rfl (Nat.le_of_ble_eq_true rfl) rfl rfl rfl (Nat.le_of_ble_eq_true rfl) dX3_acceptsPress_54 rfl ?_
        refine g_iconst (v := 1) X dX3_acceptsPress_57 (by decide) ?_
        have h := Option.some.inj h
        simp only [Prod.mk.injEq] at h
        obtain ⟨rfl, rfl, rfl, rfl, rfl, rfl, rfl⟩ := h
        exact g_zret X hr hlk (by decide) dX3_acceptsPress_58 rfl rfl
      · refine g_lv (lv' := []) [] rfl ?_
        exact hK2 () h
def f_X3_acceptsNoLetter (p1 : Int32) (x0_state : Int32) : Option (Int32 × Int32) := (if p1 = 45 then some (1, 3) else some (0, x0_state))
theorem in_X3_acceptsNoLetter_X3 : ∀ w ∈ wsX30, w ∈ wsX3_acceptsNoLetter := by decide +kernel
theorem fl_X3_acceptsNoLetter_22 : Cond.fieldLink RX3 22 "ColophonHunt$TextReader" "state" "I" ∈ wsX3_acceptsNoLetter := by decide +kernel
theorem hd_X3_acceptsNoLetter : yX3_acceptsNoLetter.cls = RX3 ∧ yX3_acceptsNoLetter.cls ≠ "java/lang/invoke/MethodHandle" ∧ yX3_acceptsNoLetter.cls ≠ "java/lang/invoke/VarHandle" ∧ (parseMethodDescriptor yX3_acceptsNoLetter.desc).map (fun d => d.parameters.length) = some 1 := by decide +kernel
set_option maxRecDepth 100000 in
set_option maxHeartbeats 4000000 in
theorem c_X3_acceptsNoLetter (l : Launch) (D : va_G) (cI cS cL : ClassId) (a0 : Nat) (b0_0 : Nat) (p1 : Int32) (x0_parts : Int32) (x0_state : Int32) (x0_press : Int32) (x0_letters : Int32) (x0_mould : Int32) (x0_year : Int32) (x0_yearScale : Int32) (rr : Int32) (y0 : Int32) (hc : f_X3_acceptsNoLetter p1 x0_state = some (rr, y0)) : KM l yX3_acceptsNoLetter wsX3_acceptsNoLetter { frames := 0, cells := 0, slots := 0, locals := 0 } D (tyS cI cS cL) [.ref a0, .int p1] [(a0, .inr (3, [.ref b0_0, .int x0_parts, .int x0_state, .int x0_press, .int x0_letters, .int x0_mould, .int x0_year, .int x0_yearScale]))] (some (.int rr)) (fun w => w = [(a0, .inr (3, [.ref b0_0, .int x0_parts, .int y0, .int x0_press, .int x0_letters, .int x0_mould, .int x0_year, .int x0_yearScale]))]) 0 0 := by
  refine g_entry (cc := cX3_acceptsNoLetter) (nL := 2) (rt := (some .boolean)) (by decide) rfl (Nat.le_of_ble_eq_true rfl) ?_
  intro p e s m args below meth c A (X : GC p s m args c cX3_acceptsNoLetter 2 RX3 wsX3_acceptsNoLetter D (tyS cI cS cL) A) hr hlk _ _
  have h := hc
  unfold f_X3_acceptsNoLetter at h
  refine g_lv (lv' := [(0, .ref a0), (1, .int p1)]) [0, 1] rfl ?_
  refine g_iload_n X (j := 1) dX3_acceptsNoLetter_0 rfl ?_
  refine g_bipush (v := 45) X dX3_acceptsNoLetter_1 (by decide) ?_
  refine g_icmp_eq (tgt := 8) X h dX3_acceptsNoLetter_3 (by decide) (fun h => ?_) (fun h => ?_)
  · refine g_aload_n X (j := 0) dX3_acceptsNoLetter_8 rfl ?_
    refine g_iconst (v := 3) X dX3_acceptsNoLetter_9 (by decide) ?_
    refine g_put (q0 := 0) (k := 2) (ci := 3) (ws' := [(a0, .inr (3, [.ref b0_0, .int x0_parts, .int 3, .int x0_press, .int x0_letters, .int x0_mould, .int x0_year, .int x0_yearScale]))]) X tyX3_ok nmX3 in_X3_acceptsNoLetter_X3 fl_X3_acceptsNoLetter_22 rfl rfl (Nat.le_of_ble_eq_true rfl) rfl rfl rfl (Nat.le_of_ble_eq_true rfl) dX3_acceptsNoLetter_10 rfl ?_
    refine g_iconst (v := 1) X dX3_acceptsNoLetter_13 (by decide) ?_
    have h := Option.some.inj h
    simp only [Prod.mk.injEq] at h
    obtain ⟨rfl, rfl⟩ := h
    exact g_zret X hr hlk (by decide) dX3_acceptsNoLetter_14 rfl rfl
  · refine g_iconst (v := 0) X dX3_acceptsNoLetter_6 (by decide) ?_
    have h := Option.some.inj h
    simp only [Prod.mk.injEq] at h
    obtain ⟨rfl, rfl⟩ := h
    exact g_zret X hr hlk (by decide) dX3_acceptsNoLetter_7 rfl rfl
