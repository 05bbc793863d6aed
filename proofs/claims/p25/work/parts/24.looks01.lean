set_option maxRecDepth 20000 in
theorem ggX4_bookOf_X4_isBook : GoodIn wsX4_bookOf wsX4_isBook := goodIn_r _ [9, 10, 11, 88, 89, 90, 91, 92, 93, 94, 95, 96, 97, 98, 99, 100, 101] (by decide +kernel) (by decide +kernel)
set_option maxRecDepth 20000 in
theorem gX4_bookOf_X4_isBook : GoodIn wsX4_bookOf (wsV RX4 90 RX4 yX4_isBook wsX4_isBook) := goodIn_app (goodIn_of _ (by decide +kernel)) ggX4_bookOf_X4_isBook
set_option maxRecDepth 20000 in
theorem ggX4_bookOf_X4_numberOfBook : GoodIn wsX4_bookOf wsX4_numberOfBook := goodIn_r _ [15, 10, 16, 17, 18, 19, 20, 21, 22, 23, 24, 25, 26, 8, 27, 28, 29, 30, 31, 32, 33, 34, 35, 36, 37, 38, 39, 40, 41, 42, 43, 44, 45, 46, 47, 48, 49, 50, 51, 52, 53, 54, 55, 56, 57, 58, 59, 60, 61, 62, 63, 64, 65, 66, 67, 68, 69, 70, 71, 72, 73, 74, 75, 76, 77, 78, 79, 80, 81, 82, 83, 84, 85, 86, 87, 88, 89, 90, 91, 92, 93, 94, 95, 96, 97, 98, 99, 100, 101, 102, 103, 104, 105, 106, 107, 108, 109, 110, 111] (by decide +kernel) (by decide +kernel)
set_option maxRecDepth 20000 in
theorem gX4_bookOf_X4_numberOfBook : GoodIn wsX4_bookOf (wsV RX4 176 RX4 yX4_numberOfBook wsX4_numberOfBook) := goodIn_app (goodIn_of _ (by decide +kernel)) ggX4_bookOf_X4_numberOfBook
theorem dX4_bookOf_0 : decode cX4_bookOf 0 = .ok (.aload_n 0, 1) := by decide +kernel
theorem dX4_bookOf_1 : decode cX4_bookOf 1 = .ok (.iload_n 1, 1) := by decide +kernel
theorem dX4_bookOf_2 : decode cX4_bookOf 2 = .ok (.invokevirtual 90, 3) := by decide +kernel
theorem dX4_bookOf_5 : decode cX4_bookOf 5 = .ok (.ifCond .ne 13, 3) := by decide +kernel
theorem dX4_bookOf_8 : decode cX4_bookOf 8 = .ok (.new 93, 3) := by decide +kernel
theorem dX4_bookOf_11 : decode cX4_bookOf 11 = .ok (.dup, 1) := by decide +kernel
theorem dX4_bookOf_12 : decode cX4_bookOf 12 = .ok (.ldc 95, 2) := by decide +kernel
theorem dX4_bookOf_14 : decode cX4_bookOf 14 = .ok (.invokespecial 97, 3) := by decide +kernel
theorem dX4_bookOf_17 : decode cX4_bookOf 17 = .ok (.athrow, 1) := by decide +kernel
theorem dX4_bookOf_18 : decode cX4_bookOf 18 = .ok (.iload_n 2, 1) := by decide +kernel
theorem dX4_bookOf_19 : decode cX4_bookOf 19 = .ok (.ifCond .lt 9, 3) := by decide +kernel
theorem dX4_bookOf_22 : decode cX4_bookOf 22 = .ok (.iload_n 2, 1) := by decide +kernel
theorem dX4_bookOf_23 : decode cX4_bookOf 23 = .ok (.bipush 10, 2) := by decide +kernel
theorem dX4_bookOf_25 : decode cX4_bookOf 25 = .ok (.if_icmp .le 13, 3) := by decide +kernel
theorem dX4_bookOf_28 : decode cX4_bookOf 28 = .ok (.new 68, 3) := by decide +kernel
theorem dX4_bookOf_31 : decode cX4_bookOf 31 = .ok (.dup, 1) := by decide +kernel
theorem dX4_bookOf_32 : decode cX4_bookOf 32 = .ok (.ldc 174, 2) := by decide +kernel
theorem dX4_bookOf_34 : decode cX4_bookOf 34 = .ok (.invokespecial 72, 3) := by decide +kernel
theorem dX4_bookOf_37 : decode cX4_bookOf 37 = .ok (.athrow, 1) := by decide +kernel
theorem dX4_bookOf_38 : decode cX4_bookOf 38 = .ok (.aload_n 0, 1) := by decide +kernel
theorem dX4_bookOf_39 : decode cX4_bookOf 39 = .ok (.iload_n 1, 1) := by decide +kernel
theorem dX4_bookOf_40 : decode cX4_bookOf 40 = .ok (.iload_n 2, 1) := by decide +kernel
theorem dX4_bookOf_41 : decode cX4_bookOf 41 = .ok (.invokevirtual 176, 3) := by decide +kernel
theorem dX4_bookOf_44 : decode cX4_bookOf 44 = .ok (.ireturn, 1) := by decide +kernel
set_option maxRecDepth 20000 in
theorem ggX4_ahead_X4_isBook : GoodIn wsX4_ahead wsX4_isBook := goodIn_r _ [10, 5, 11, 21, 22, 23, 24, 25, 26, 27, 28, 29, 30, 31, 32, 33, 34] (by decide +kernel) (by decide +kernel)
set_option maxRecDepth 20000 in
theorem gX4_ahead_X4_isBook : GoodIn wsX4_ahead (wsV RX4 90 RX4 yX4_isBook wsX4_isBook) := goodIn_app (goodIn_of _ (by decide +kernel)) ggX4_ahead_X4_isBook
set_option maxRecDepth 20000 in
theorem ggX4_ahead_X2_reasonsAhead : GoodIn wsX4_ahead wsX2_reasonsAhead := goodIn_r _ [16, 17, 18, 19, 20, 30, 31, 32, 33, 34] (by decide +kernel) (by decide +kernel)
set_option maxRecDepth 20000 in
theorem gX4_ahead_X2_reasonsAhead : GoodIn wsX4_ahead (wsV RX4 182 RX2 yX2_reasonsAhead wsX2_reasonsAhead) := goodIn_app (goodIn_of _ (by decide +kernel)) ggX4_ahead_X2_reasonsAhead
theorem dX4_ahead_0 : decode cX4_ahead 0 = .ok (.aload_n 0, 1) := by decide +kernel
theorem dX4_ahead_1 : decode cX4_ahead 1 = .ok (.iload_n 1, 1) := by decide +kernel
theorem dX4_ahead_2 : decode cX4_ahead 2 = .ok (.invokevirtual 90, 3) := by decide +kernel
theorem dX4_ahead_5 : decode cX4_ahead 5 = .ok (.ifCond .eq 11, 3) := by decide +kernel
theorem dX4_ahead_8 : decode cX4_ahead 8 = .ok (.aload_n 0, 1) := by decide +kernel
theorem dX4_ahead_9 : decode cX4_ahead 9 = .ok (.iload_n 2, 1) := by decide +kernel
theorem dX4_ahead_10 : decode cX4_ahead 10 = .ok (.invokevirtual 90, 3) := by decide +kernel
theorem dX4_ahead_13 : decode cX4_ahead 13 = .ok (.ifCond .ne 13, 3) := by decide +kernel
theorem dX4_ahead_16 : decode cX4_ahead 16 = .ok (.new 93, 3) := by decide +kernel
theorem dX4_ahead_19 : decode cX4_ahead 19 = .ok (.dup, 1) := by decide +kernel
theorem dX4_ahead_20 : decode cX4_ahead 20 = .ok (.ldc 95, 2) := by decide +kernel
theorem dX4_ahead_22 : decode cX4_ahead 22 = .ok (.invokespecial 97, 3) := by decide +kernel
theorem dX4_ahead_25 : decode cX4_ahead 25 = .ok (.athrow, 1) := by decide +kernel
theorem dX4_ahead_26 : decode cX4_ahead 26 = .ok (.iload_n 1, 1) := by decide +kernel
theorem dX4_ahead_27 : decode cX4_ahead 27 = .ok (.iload_n 2, 1) := by decide +kernel
theorem dX4_ahead_28 : decode cX4_ahead 28 = .ok (.if_icmp .ne 13, 3) := by decide +kernel
theorem dX4_ahead_31 : decode cX4_ahead 31 = .ok (.new 68, 3) := by decide +kernel
theorem dX4_ahead_34 : decode cX4_ahead 34 = .ok (.dup, 1) := by decide +kernel
theorem dX4_ahead_35 : decode cX4_ahead 35 = .ok (.ldc 180, 2) := by decide +kernel
theorem dX4_ahead_37 : decode cX4_ahead 37 = .ok (.invokespecial 72, 3) := by decide +kernel
theorem dX4_ahead_40 : decode cX4_ahead 40 = .ok (.athrow, 1) := by decide +kernel
theorem dX4_ahead_41 : decode cX4_ahead 41 = .ok (.aload_n 0, 1) := by decide +kernel
theorem dX4_ahead_42 : decode cX4_ahead 42 = .ok (.getfield 12, 3) := by decide +kernel
theorem dX4_ahead_45 : decode cX4_ahead 45 = .ok (.iload_n 1, 1) := by decide +kernel
theorem dX4_ahead_46 : decode cX4_ahead 46 = .ok (.iload_n 2, 1) := by decide +kernel
theorem dX4_ahead_47 : decode cX4_ahead 47 = .ok (.invokevirtual 182, 3) := by decide +kernel
theorem dX4_ahead_50 : decode cX4_ahead 50 = .ok (.ireturn, 1) := by decide +kernel
set_option maxRecDepth 20000 in
theorem ggX4_count_X4_numberOfAll : GoodIn wsX4_count wsX4_numberOfAll := goodIn_r _ [7, 8, 9, 10, 11, 12, 13, 14, 6, 15, 16, 17, 18, 19, 20, 21, 22, 23, 24, 25, 26, 27, 28, 29, 30, 31, 32, 33, 34, 35, 36, 37, 38, 39, 40, 41, 42, 43, 44, 45, 46, 47, 48, 49, 50, 51, 52, 53, 54, 55, 56, 57, 58, 59, 60, 61, 62, 63, 64, 65, 66, 67, 68, 69, 70, 71, 72, 73, 74, 75, 76, 77, 78, 79, 80, 81, 82, 83, 84, 85, 86, 87, 88, 89, 90, 91, 92, 93, 94, 95, 96, 97, 98, 99, 100, 101, 102, 103, 104, 105, 106, 107, 108, 109, 110, 111, 112, 113, 114, 115, 116, 117, 118, 119, 120, 121, 122, 123, 124, 125, 126, 127, 128, 129, 130, 131, 132, 133, 134, 135, 136, 137, 138, 139] (by decide +kernel) (by decide +kernel)
set_option maxRecDepth 20000 in
theorem gX4_count_X4_numberOfAll : GoodIn wsX4_count (wsV RX4 187 RX4 yX4_numberOfAll wsX4_numberOfAll) := goodIn_app (goodIn_of _ (by decide +kernel)) ggX4_count_X4_numberOfAll
theorem dX4_count_0 : decode cX4_count 0 = .ok (.iload_n 1, 1) := by decide +kernel
theorem dX4_count_1 : decode cX4_count 1 = .ok (.ifCond .lt 9, 3) := by decide +kernel
theorem dX4_count_4 : decode cX4_count 4 = .ok (.iload_n 1, 1) := by decide +kernel
theorem dX4_count_5 : decode cX4_count 5 = .ok (.bipush 9, 2) := by decide +kernel
theorem dX4_count_7 : decode cX4_count 7 = .ok (.if_icmp .le 13, 3) := by decide +kernel
theorem dX4_count_10 : decode cX4_count 10 = .ok (.new 68, 3) := by decide +kernel
theorem dX4_count_13 : decode cX4_count 13 = .ok (.dup, 1) := by decide +kernel
theorem dX4_count_14 : decode cX4_count 14 = .ok (.ldc 185, 2) := by decide +kernel
theorem dX4_count_16 : decode cX4_count 16 = .ok (.invokespecial 72, 3) := by decide +kernel
theorem dX4_count_19 : decode cX4_count 19 = .ok (.athrow, 1) := by decide +kernel
theorem dX4_count_20 : decode cX4_count 20 = .ok (.aload_n 0, 1) := by decide +kernel
theorem dX4_count_21 : decode cX4_count 21 = .ok (.iload_n 1, 1) := by decide +kernel
theorem dX4_count_22 : decode cX4_count 22 = .ok (.invokevirtual 187, 3) := by decide +kernel
theorem dX4_count_25 : decode cX4_count 25 = .ok (.ireturn, 1) := by decide +kernel
set_option maxRecDepth 20000 in
theorem ggX4_order_X4_currentReading : GoodIn wsX4_order wsX4_currentReading := goodIn_r _ [7, 8, 9, 10, 11, 12, 13, 14, 15, 16, 17, 18, 19, 20, 21, 22, 23, 24, 25, 26, 27, 28, 29, 30, 31, 32, 33, 34, 35, 36, 37, 38, 39, 40, 41, 42, 43, 44, 45, 46, 47, 48, 49, 50, 51, 52, 53, 54, 55, 56, 57, 66, 67, 68, 69, 70, 71, 72, 73, 74, 75, 76, 77, 78, 79, 80, 81, 82, 83, 84, 85, 86, 87, 88, 89] (by decide +kernel) (by decide +kernel)
set_option maxRecDepth 20000 in
theorem gX4_order_X4_currentReading : GoodIn wsX4_order (wsV RX4 129 RX4 yX4_currentReading wsX4_currentReading) := goodIn_app (goodIn_of _ (by decide +kernel)) ggX4_order_X4_currentReading
set_option maxRecDepth 20000 in
theorem ggX4_order_X1_bookInFirstOrder : GoodIn wsX4_order wsX1_bookInFirstOrder := goodIn_r _ [61, 40, 17, 62, 63, 64, 14, 65, 23, 41, 42, 43, 80, 81, 82, 83, 84, 85, 86, 87, 88, 89] (by decide +kernel) (by decide +kernel)
set_option maxRecDepth 20000 in
theorem gX4_order_X1_bookInFirstOrder : GoodIn wsX4_order (wsV RX4 193 RX1 yX1_bookInFirstOrder wsX1_bookInFirstOrder) := goodIn_app (goodIn_of _ (by decide +kernel)) ggX4_order_X1_bookInFirstOrder
theorem dX4_order_0 : decode cX4_order 0 = .ok (.iload_n 1, 1) := by decide +kernel
theorem dX4_order_1 : decode cX4_order 1 = .ok (.ifCond .ge 13, 3) := by decide +kernel
theorem dX4_order_4 : decode cX4_order 4 = .ok (.new 68, 3) := by decide +kernel
theorem dX4_order_7 : decode cX4_order 7 = .ok (.dup, 1) := by decide +kernel
theorem dX4_order_8 : decode cX4_order 8 = .ok (.ldc 191, 2) := by decide +kernel
theorem dX4_order_10 : decode cX4_order 10 = .ok (.invokespecial 72, 3) := by decide +kernel
theorem dX4_order_13 : decode cX4_order 13 = .ok (.athrow, 1) := by decide +kernel
theorem dX4_order_14 : decode cX4_order 14 = .ok (.aload_n 0, 1) := by decide +kernel
theorem dX4_order_15 : decode cX4_order 15 = .ok (.invokevirtual 129, 3) := by decide +kernel
theorem dX4_order_18 : decode cX4_order 18 = .ok (.iload_n 1, 1) := by decide +kernel
theorem dX4_order_19 : decode cX4_order 19 = .ok (.invokevirtual 193, 3) := by decide +kernel
theorem dX4_order_22 : decode cX4_order 22 = .ok (.ireturn, 1) := by decide +kernel
set_option maxRecDepth 20000 in
theorem ggX4_place_X4_isBook : GoodIn wsX4_place wsX4_isBook := goodIn_r _ [9, 10, 11, 101, 102, 103, 104, 105, 106, 107, 108, 109, 110, 111, 112, 113, 114] (by decide +kernel) (by decide +kernel)
set_option maxRecDepth 20000 in
theorem gX4_place_X4_isBook : GoodIn wsX4_place (wsV RX4 90 RX4 yX4_isBook wsX4_isBook) := goodIn_app (goodIn_of _ (by decide +kernel)) ggX4_place_X4_isBook
set_option maxRecDepth 20000 in
theorem ggX4_place_X4_numberOfPlaces : GoodIn wsX4_place wsX4_numberOfPlaces := goodIn_r _ [15, 16, 17, 18, 8, 19, 20, 21, 10, 22, 23, 24, 25, 26, 27, 28, 29, 30, 31, 32, 33, 34, 35, 36, 37, 38, 39, 40, 41, 42, 43, 44, 45, 46, 47, 48, 49, 50, 51, 52, 53, 54, 55, 56, 57, 58, 59, 60, 61, 62, 63, 64, 65, 66, 67, 68, 69, 70, 71, 72, 73, 74, 75, 76, 77, 78, 79, 80, 81, 82, 83, 84, 85, 86, 87, 88, 89, 90, 91, 92, 93, 94, 95, 96, 97, 98, 99, 100, 101, 102, 103, 104, 105, 106, 107, 108, 109, 110, 111, 112, 113, 114, 115, 116, 117, 118, 119, 120, 121, 122, 123, 124] (by decide +kernel) (by decide +kernel)
set_option maxRecDepth 20000 in
theorem gX4_place_X4_numberOfPlaces : GoodIn wsX4_place (wsV RX4 198 RX4 yX4_numberOfPlaces wsX4_numberOfPlaces) := goodIn_app (goodIn_of _ (by decide +kernel)) ggX4_place_X4_numberOfPlaces
theorem dX4_place_0 : decode cX4_place 0 = .ok (.aload_n 0, 1) := by decide +kernel
theorem dX4_place_1 : decode cX4_place 1 = .ok (.iload_n 1, 1) := by decide +kernel
theorem dX4_place_2 : decode cX4_place 2 = .ok (.invokevirtual 90, 3) := by decide +kernel
theorem dX4_place_5 : decode cX4_place 5 = .ok (.ifCond .ne 13, 3) := by decide +kernel
theorem dX4_place_8 : decode cX4_place 8 = .ok (.new 93, 3) := by decide +kernel
theorem dX4_place_11 : decode cX4_place 11 = .ok (.dup, 1) := by decide +kernel
theorem dX4_place_12 : decode cX4_place 12 = .ok (.ldc 95, 2) := by decide +kernel
theorem dX4_place_14 : decode cX4_place 14 = .ok (.invokespecial 97, 3) := by decide +kernel
theorem dX4_place_17 : decode cX4_place 17 = .ok (.athrow, 1) := by decide +kernel
theorem dX4_place_18 : decode cX4_place 18 = .ok (.iload_n 2, 1) := by decide +kernel
theorem dX4_place_19 : decode cX4_place 19 = .ok (.ifCond .lt 8, 3) := by decide +kernel
theorem dX4_place_22 : decode cX4_place 22 = .ok (.iload_n 2, 1) := by decide +kernel
theorem dX4_place_23 : decode cX4_place 23 = .ok (.iconst 2, 1) := by decide +kernel
theorem dX4_place_24 : decode cX4_place 24 = .ok (.if_icmp .le 13, 3) := by decide +kernel
theorem dX4_place_27 : decode cX4_place 27 = .ok (.new 68, 3) := by decide +kernel
theorem dX4_place_30 : decode cX4_place 30 = .ok (.dup, 1) := by decide +kernel
theorem dX4_place_31 : decode cX4_place 31 = .ok (.ldc 196, 2) := by decide +kernel
theorem dX4_place_33 : decode cX4_place 33 = .ok (.invokespecial 72, 3) := by decide +kernel
theorem dX4_place_36 : decode cX4_place 36 = .ok (.athrow, 1) := by decide +kernel
theorem dX4_place_37 : decode cX4_place 37 = .ok (.aload_n 0, 1) := by decide +kernel
theorem dX4_place_38 : decode cX4_place 38 = .ok (.iload_n 1, 1) := by decide +kernel
theorem dX4_place_39 : decode cX4_place 39 = .ok (.iload_n 2, 1) := by decide +kernel
theorem dX4_place_40 : decode cX4_place 40 = .ok (.invokevirtual 198, 3) := by decide +kernel
theorem dX4_place_43 : decode cX4_place 43 = .ok (.ireturn, 1) := by decide +kernel
set_option maxRecDepth 20000 in
theorem ggX4_wrong_X4_currentReading : GoodIn wsX4_wrong wsX4_currentReading := goodIn_r _ [7, 8, 9, 10, 11, 12, 13, 14, 15, 16, 17, 18, 19, 20, 21, 22, 23, 24, 25, 26, 27, 28, 29, 30, 31, 32, 33, 34, 35, 36, 37, 38, 39, 40, 41, 42, 43, 44, 45, 46, 47, 48, 49, 50, 51, 52, 53, 54, 55, 56, 57, 83, 84, 85, 86, 87, 88, 89, 90, 91, 92, 93, 94, 95, 96, 97, 98, 99, 100, 101, 102, 103, 104, 105, 106] (by decide +kernel) (by decide +kernel)
set_option maxRecDepth 20000 in
theorem gX4_wrong_X4_currentReading : GoodIn wsX4_wrong (wsV RX4 129 RX4 yX4_currentReading wsX4_currentReading) := goodIn_app (goodIn_of _ (by decide +kernel)) ggX4_wrong_X4_currentReading
set_option maxRecDepth 20000 in
theorem ggX4_wrong_X1_leastWrongBooks : GoodIn wsX4_wrong wsX1_leastWrongBooks := goodIn_r _ [61, 40, 62, 63, 64, 14, 65, 17, 66, 67, 68, 69, 70, 71, 72, 73, 74, 75, 76, 18, 77, 78, 79, 80, 81, 23, 41, 42, 43, 97, 98, 99, 100, 101, 102, 103, 104, 105, 106] (by decide +kernel) (by decide +kernel)
set_option maxRecDepth 20000 in
theorem gX4_wrong_X1_leastWrongBooks : GoodIn wsX4_wrong (wsV RX4 203 RX1 yX1_leastWrongBooks wsX1_leastWrongBooks) := goodIn_app (goodIn_of _ (by decide +kernel)) ggX4_wrong_X1_leastWrongBooks
set_option maxRecDepth 20000 in
theorem ggX4_wrong_J6_bitCount_0f7a4 : GoodIn wsX4_wrong wsJ6_bitCount_0f7a4 := goodIn_r _ [69, 70, 71, 72] (by decide +kernel) (by decide +kernel)
set_option maxRecDepth 20000 in
theorem gX4_wrong_J6_bitCount_0f7a4 : GoodIn wsX4_wrong (va_wsS RX4 207 yJ6_bitCount_0f7a4 wsJ6_bitCount_0f7a4) := goodIn_app (goodIn_of _ (by decide +kernel)) ggX4_wrong_J6_bitCount_0f7a4
theorem dX4_wrong_0 : decode cX4_wrong 0 = .ok (.iload_n 1, 1) := by decide +kernel
theorem dX4_wrong_1 : decode cX4_wrong 1 = .ok (.ifCond .eq 18, 3) := by decide +kernel
theorem dX4_wrong_4 : decode cX4_wrong 4 = .ok (.iload_n 1, 1) := by decide +kernel
theorem dX4_wrong_5 : decode cX4_wrong 5 = .ok (.iconst 1, 1) := by decide +kernel
theorem dX4_wrong_6 : decode cX4_wrong 6 = .ok (.if_icmp .eq 13, 3) := by decide +kernel
theorem dX4_wrong_9 : decode cX4_wrong 9 = .ok (.new 68, 3) := by decide +kernel
theorem dX4_wrong_12 : decode cX4_wrong 12 = .ok (.dup, 1) := by decide +kernel
theorem dX4_wrong_13 : decode cX4_wrong 13 = .ok (.ldc 201, 2) := by decide +kernel
theorem dX4_wrong_15 : decode cX4_wrong 15 = .ok (.invokespecial 72, 3) := by decide +kernel
theorem dX4_wrong_18 : decode cX4_wrong 18 = .ok (.athrow, 1) := by decide +kernel
theorem dX4_wrong_19 : decode cX4_wrong 19 = .ok (.aload_n 0, 1) := by decide +kernel
theorem dX4_wrong_20 : decode cX4_wrong 20 = .ok (.invokevirtual 129, 3) := by decide +kernel
theorem dX4_wrong_23 : decode cX4_wrong 23 = .ok (.invokevirtual 203, 3) := by decide +kernel
theorem dX4_wrong_26 : decode cX4_wrong 26 = .ok (.istore_n 2, 1) := by decide +kernel
theorem dX4_wrong_27 : decode cX4_wrong 27 = .ok (.iload_n 1, 1) := by decide +kernel
theorem dX4_wrong_28 : decode cX4_wrong 28 = .ok (.ifCond .ne 10, 3) := by decide +kernel
theorem dX4_wrong_31 : decode cX4_wrong 31 = .ok (.iload_n 2, 1) := by decide +kernel
theorem dX4_wrong_32 : decode cX4_wrong 32 = .ok (.invokestatic 207, 3) := by decide +kernel
theorem dX4_wrong_35 : decode cX4_wrong 35 = .ok (.goto 4, 3) := by decide +kernel
theorem dX4_wrong_38 : decode cX4_wrong 38 = .ok (.iload_n 2, 1) := by decide +kernel
theorem dX4_wrong_39 : decode cX4_wrong 39 = .ok (.ireturn, 1) := by decide +kernel
set_option maxRecDepth 20000 in
theorem ggX4_tells_X4_isLetter : GoodIn wsX4_tells wsX4_isLetter := goodIn_r _ [6] (by decide +kernel) (by decide +kernel)
set_option maxRecDepth 20000 in
theorem gX4_tells_X4_isLetter : GoodIn wsX4_tells (va_wsS RX4 102 yX4_isLetter wsX4_isLetter) := goodIn_app (goodIn_of _ (by decide +kernel)) ggX4_tells_X4_isLetter
set_option maxRecDepth 20000 in
theorem ggX4_tells_X4_ordersWithoutLetter : GoodIn wsX4_tells wsX4_ordersWithoutLetter := goodIn_r _ [10, 11, 12, 13, 14, 15, 16, 17, 18, 19, 20, 21, 22, 23, 24, 25, 26, 27, 28, 29, 30, 31, 32, 33, 34, 35, 36, 37, 38, 39, 40, 41, 42, 43, 44, 45, 46, 47, 48, 49, 50, 51, 52, 53, 54, 55, 56, 57, 58, 59, 60, 61, 62, 63, 64, 65, 66, 67, 68, 69, 70, 71, 72, 73, 74, 75, 76, 77, 78, 79, 80, 81, 82, 83, 84, 85, 86, 87, 88, 89, 90, 91, 92, 93, 94, 95, 96, 97, 98, 99, 106, 107, 108, 109, 110, 111, 112, 113, 114, 115, 116, 117, 118, 119, 120, 121, 122, 123, 124, 125, 126, 127, 128, 129] (by decide +kernel) (by decide +kernel)
set_option maxRecDepth 20000 in
theorem gX4_tells_X4_ordersWithoutLetter : GoodIn wsX4_tells (wsV RX4 214 RX4 yX4_ordersWithoutLetter wsX4_ordersWithoutLetter) := goodIn_app (goodIn_of _ (by decide +kernel)) ggX4_tells_X4_ordersWithoutLetter
set_option maxRecDepth 20000 in
theorem ggX4_tells_X4_currentReading : GoodIn wsX4_tells wsX4_currentReading := goodIn_r _ [103, 104, 105, 12, 41, 42, 43, 44, 45, 46, 47, 48, 49, 50, 51, 52, 53, 54, 55, 56, 57, 18, 58, 29, 30, 31, 32, 59, 60, 61, 62, 63, 64, 65, 66, 67, 68, 69, 70, 71, 72, 73, 74, 75, 76, 77, 78, 79, 80, 81, 82, 106, 107, 108, 109, 110, 111, 112, 113, 114, 115, 116, 117, 118, 119, 120, 121, 122, 123, 124, 125, 126, 127, 128, 129] (by decide +kernel) (by decide +kernel)
set_option maxRecDepth 20000 in
theorem gX4_tells_X4_currentReading : GoodIn wsX4_tells (wsV RX4 129 RX4 yX4_currentReading wsX4_currentReading) := goodIn_app (goodIn_of _ (by decide +kernel)) ggX4_tells_X4_currentReading
set_option maxRecDepth 20000 in
theorem ggX4_tells_X1_orders : GoodIn wsX4_tells wsX1_orders := goodIn_r _ [86, 65, 87, 88, 89, 44, 90, 47, 91, 92, 93, 94, 48, 95, 96, 97, 98, 99, 53, 66, 67, 68, 120, 121, 122, 123, 124, 125, 126, 127, 128, 129] (by decide +kernel) (by decide +kernel)
set_option maxRecDepth 20000 in
theorem gX4_tells_X1_orders : GoodIn wsX4_tells (wsV RX4 217 RX1 yX1_orders wsX1_orders) := goodIn_app (goodIn_of _ (by decide +kernel)) ggX4_tells_X1_orders
theorem dX4_tells_0 : decode cX4_tells 0 = .ok (.iload_n 1, 1) := by decide +kernel
theorem dX4_tells_1 : decode cX4_tells 1 = .ok (.invokestatic 102, 3) := by decide +kernel
theorem dX4_tells_4 : decode cX4_tells 4 = .ok (.ifCond .ne 13, 3) := by decide +kernel
theorem dX4_tells_7 : decode cX4_tells 7 = .ok (.new 93, 3) := by decide +kernel
theorem dX4_tells_10 : decode cX4_tells 10 = .ok (.dup, 1) := by decide +kernel
theorem dX4_tells_11 : decode cX4_tells 11 = .ok (.ldc 212, 2) := by decide +kernel
theorem dX4_tells_13 : decode cX4_tells 13 = .ok (.invokespecial 97, 3) := by decide +kernel
theorem dX4_tells_16 : decode cX4_tells 16 = .ok (.athrow, 1) := by decide +kernel
theorem dX4_tells_17 : decode cX4_tells 17 = .ok (.aload_n 0, 1) := by decide +kernel
theorem dX4_tells_18 : decode cX4_tells 18 = .ok (.iload_n 1, 1) := by decide +kernel
theorem dX4_tells_19 : decode cX4_tells 19 = .ok (.invokevirtual 214, 3) := by decide +kernel
theorem dX4_tells_22 : decode cX4_tells 22 = .ok (.aload_n 0, 1) := by decide +kernel
theorem dX4_tells_23 : decode cX4_tells 23 = .ok (.invokevirtual 129, 3) := by decide +kernel
theorem dX4_tells_26 : decode cX4_tells 26 = .ok (.invokevirtual 217, 3) := by decide +kernel
theorem dX4_tells_29 : decode cX4_tells 29 = .ok (.isub, 1) := by decide +kernel
theorem dX4_tells_30 : decode cX4_tells 30 = .ok (.ireturn, 1) := by decide +kernel
set_option maxRecDepth 20000 in
theorem ggX4_ifYear_X4_isBook : GoodIn wsX4_ifYear wsX4_isBook := goodIn_r _ [9, 10, 11, 111, 112, 113, 114, 115, 116, 117, 118, 119, 120, 121, 122, 123, 124] (by decide +kernel) (by decide +kernel)
set_option maxRecDepth 20000 in
theorem gX4_ifYear_X4_isBook : GoodIn wsX4_ifYear (wsV RX4 90 RX4 yX4_isBook wsX4_isBook) := goodIn_app (goodIn_of _ (by decide +kernel)) ggX4_ifYear_X4_isBook
set_option maxRecDepth 20000 in
theorem ggX4_ifYear_X4_isYear : GoodIn wsX4_ifYear wsX4_isYear := goodIn_r _ [14] (by decide +kernel) (by decide +kernel)
set_option maxRecDepth 20000 in
theorem gX4_ifYear_X4_isYear : GoodIn wsX4_ifYear (va_wsS RX4 220 yX4_isYear wsX4_isYear) := goodIn_app (goodIn_of _ (by decide +kernel)) ggX4_ifYear_X4_isYear
set_option maxRecDepth 20000 in
theorem ggX4_ifYear_X4_numberIfYear : GoodIn wsX4_ifYear wsX4_numberIfYear := goodIn_r _ [18, 19, 10, 20, 21, 22, 23, 24, 25, 26, 27, 28, 29, 30, 31, 32, 33, 34, 35, 36, 37, 38, 39, 40, 41, 42, 43, 44, 45, 46, 47, 48, 49, 50, 51, 52, 53, 54, 55, 56, 57, 58, 59, 60, 61, 62, 63, 64, 65, 66, 67, 68, 69, 70, 71, 72, 73, 74, 75, 76, 77, 78, 79, 80, 81, 82, 83, 84, 85, 86, 87, 88, 89, 90, 91, 92, 93, 94, 95, 96, 97, 98, 99, 100, 101, 102, 103, 104, 105, 106, 107, 108, 109, 110, 111, 112, 113, 114, 115, 116, 117, 118, 119, 120, 121, 122, 123, 124, 125, 126, 127, 128, 129, 130, 131, 132, 133, 134] (by decide +kernel) (by decide +kernel)
set_option maxRecDepth 20000 in
theorem gX4_ifYear_X4_numberIfYear : GoodIn wsX4_ifYear (wsV RX4 225 RX4 yX4_numberIfYear wsX4_numberIfYear) := goodIn_app (goodIn_of _ (by decide +kernel)) ggX4_ifYear_X4_numberIfYear
theorem dX4_ifYear_0 : decode cX4_ifYear 0 = .ok (.aload_n 0, 1) := by decide +kernel
theorem dX4_ifYear_1 : decode cX4_ifYear 1 = .ok (.iload_n 1, 1) := by decide +kernel
theorem dX4_ifYear_2 : decode cX4_ifYear 2 = .ok (.invokevirtual 90, 3) := by decide +kernel
theorem dX4_ifYear_5 : decode cX4_ifYear 5 = .ok (.ifCond .ne 13, 3) := by decide +kernel
theorem dX4_ifYear_8 : decode cX4_ifYear 8 = .ok (.new 93, 3) := by decide +kernel
theorem dX4_ifYear_11 : decode cX4_ifYear 11 = .ok (.dup, 1) := by decide +kernel
theorem dX4_ifYear_12 : decode cX4_ifYear 12 = .ok (.ldc 95, 2) := by decide +kernel
theorem dX4_ifYear_14 : decode cX4_ifYear 14 = .ok (.invokespecial 97, 3) := by decide +kernel
theorem dX4_ifYear_17 : decode cX4_ifYear 17 = .ok (.athrow, 1) := by decide +kernel
theorem dX4_ifYear_18 : decode cX4_ifYear 18 = .ok (.iload_n 2, 1) := by decide +kernel
theorem dX4_ifYear_19 : decode cX4_ifYear 19 = .ok (.invokestatic 220, 3) := by decide +kernel
theorem dX4_ifYear_22 : decode cX4_ifYear 22 = .ok (.ifCond .eq 12, 3) := by decide +kernel
theorem dX4_ifYear_25 : decode cX4_ifYear 25 = .ok (.iload_n 3, 1) := by decide +kernel
theorem dX4_ifYear_26 : decode cX4_ifYear 26 = .ok (.ifCond .eq 18, 3) := by decide +kernel
theorem dX4_ifYear_29 : decode cX4_ifYear 29 = .ok (.iload_n 3, 1) := by decide +kernel
theorem dX4_ifYear_30 : decode cX4_ifYear 30 = .ok (.iconst 1, 1) := by decide +kernel
theorem dX4_ifYear_31 : decode cX4_ifYear 31 = .ok (.if_icmp .eq 13, 3) := by decide +kernel
theorem dX4_ifYear_34 : decode cX4_ifYear 34 = .ok (.new 68, 3) := by decide +kernel
theorem dX4_ifYear_37 : decode cX4_ifYear 37 = .ok (.dup, 1) := by decide +kernel
theorem dX4_ifYear_38 : decode cX4_ifYear 38 = .ok (.ldc 223, 2) := by decide +kernel
theorem dX4_ifYear_40 : decode cX4_ifYear 40 = .ok (.invokespecial 72, 3) := by decide +kernel
theorem dX4_ifYear_43 : decode cX4_ifYear 43 = .ok (.athrow, 1) := by decide +kernel
theorem dX4_ifYear_44 : decode cX4_ifYear 44 = .ok (.aload_n 0, 1) := by decide +kernel
theorem dX4_ifYear_45 : decode cX4_ifYear 45 = .ok (.iload_n 1, 1) := by decide +kernel
theorem dX4_ifYear_46 : decode cX4_ifYear 46 = .ok (.iload_n 2, 1) := by decide +kernel
theorem dX4_ifYear_47 : decode cX4_ifYear 47 = .ok (.iload_n 3, 1) := by decide +kernel
theorem dX4_ifYear_48 : decode cX4_ifYear 48 = .ok (.invokevirtual 225, 3) := by decide +kernel
theorem dX4_ifYear_51 : decode cX4_ifYear 51 = .ok (.ireturn, 1) := by decide +kernel
def f_X4_bookOf (p1 : Int32) (p2 : Int32) (x0_isReadingOld : Int32) (x1_size : Int32) (f2 : Nat → Int32) (f3 : Nat → Int32) (f4 : Nat → Int32) (f5 : Nat → Int32) (x6_areOrdersCounted : Int32) (x6_isAnyOrder : Int32) (x6_size : Int32) (f7 : Nat → Int32) (f8 : Nat → Int32) (f9 : Nat → Int32) (f10 : Nat → Int32) (f11 : Nat → Int32) (f12 : Nat → Int32) : Option (Int32 × Int32 × Int32 × Int32 × Int32 × (Nat → Int32) × (Nat → Int32) × (Nat → Int32) × (Nat → Int32) × (Nat → Int32) × (Nat → Int32)) := (f_X4_isBook p1 x1_size).bind (u1 fun (r1 : Int32) => (if r1 = 0 then none else (jn (u0 (none)) (fun K2 => (if p2 < 0 then K2 () else (if p2 ≤ 10 then (f_X4_numberOfBook p1 p2 x0_isReadingOld x1_size f2 f3 f4 f5 x6_areOrdersCounted x6_isAnyOrder x6_size f7 f8 f9 f10 f11 f12).bind (u11 fun (r3 : Int32) (o4 : Int32) (o5 : Int32) (o6 : Int32) (o7 : Int32) (o8 : Nat → Int32) (o9 : Nat → Int32) (o10 : Nat → Int32) (o11 : Nat → Int32) (o12 : Nat → Int32) (o13 : Nat → Int32) => some (r3, o4, o5, o6, o7, o8, o9, o10, o11, o12, o13)) else K2 ()))))))
theorem hd_X4_bookOf : yX4_bookOf.cls = RX4 ∧ yX4_bookOf.cls ≠ "java/lang/invoke/MethodHandle" ∧ yX4_bookOf.cls ≠ "java/lang/invoke/VarHandle" ∧ (parseMethodDescriptor yX4_bookOf.desc).map (fun d => d.parameters.length) = some 2 := by decide +kernel
set_option maxRecDepth 100000 in
set_option maxHeartbeats 4000000 in
theorem c_X4_bookOf (l : Launch) (D : va_G) (cI cS cL : ClassId) (a0 : Nat) (a1 : Nat) (a2 : Nat) (a3 : Nat) (a4 : Nat) (a5 : Nat) (a6 : Nat) (a7 : Nat) (a8 : Nat) (a9 : Nat) (a10 : Nat) (a11 : Nat) (a12 : Nat) (b0_1 : Nat) (b0_2 : Nat) (b0_4 : Nat) (b0_5 : Nat) (b0_6 : Nat) (b6_6 : Nat) (p1 : Int32) (p2 : Int32) (x0_length : Int32) (x0_isReadingOld : Int32) (x1_size : Int32) (f2 : Nat → Int32) (f3 : Nat → Int32) (f4 : Nat → Int32) (f5 : Nat → Int32) (x6_areOrdersCounted : Int32) (x6_isAnyOrder : Int32) (x6_size : Int32) (f7 : Nat → Int32) (f8 : Nat → Int32) (f9 : Nat → Int32) (f10 : Nat → Int32) (f11 : Nat → Int32) (f12 : Nat → Int32) (rr : Int32) (y0 : Int32) (y1 : Int32) (y2 : Int32) (y3 : Int32) (y4 : Nat → Int32) (y5 : Nat → Int32) (y6 : Nat → Int32) (y7 : Nat → Int32) (y8 : Nat → Int32) (y9 : Nat → Int32) (hc : f_X4_bookOf p1 p2 x0_isReadingOld x1_size f2 f3 f4 f5 x6_areOrdersCounted x6_isAnyOrder x6_size f7 f8 f9 f10 f11 f12 = some (rr, y0, y1, y2, y3, y4, y5, y6, y7, y8, y9)) : KM l yX4_bookOf wsX4_bookOf { frames := 5, cells := 0, slots := 0, locals := 111 } D (tyS cI cS cL) [.ref a0, .int p1, .int p2] [(a0, .inr (4, [.ref a1, .ref b0_1, .ref b0_2, .ref a6, .ref b0_4, .ref b0_5, .ref b0_6, .int x0_length, .int x0_isReadingOld])), (a1, .inr (2, [.ref a2, .ref a3, .ref a4, .ref a5, .int x1_size])), (a2, .inl (cI, 10, .inl f2)), (a3, .inl (cI, 10, .inl f3)), (a4, .inl (cI, 10, .inl f4)), (a5, .inl (cI, 10, .inl f5)), (a6, .inr (1, [.ref a7, .ref a8, .ref a9, .ref a10, .ref a11, .ref a12, .ref b6_6, .int x6_areOrdersCounted, .int x6_isAnyOrder, .int x6_size])), (a7, .inl (cI, 10, .inl f7)), (a8, .inl (cI, 10, .inl f8)), (a9, .inl (cI, 10, .inl f9)), (a10, .inl (cI, 10, .inl f10)), (a11, .inl (cI, 10, .inl f11)), (a12, .inl (cI, 10, .inl f12))] (some (.int rr)) (fun w => w = [(a0, .inr (4, [.ref a1, .ref b0_1, .ref b0_2, .ref a6, .ref b0_4, .ref b0_5, .ref b0_6, .int x0_length, .int y0])), (a1, .inr (2, [.ref a2, .ref a3, .ref a4, .ref a5, .int x1_size])), (a2, .inl (cI, 10, .inl f2)), (a3, .inl (cI, 10, .inl f3)), (a4, .inl (cI, 10, .inl f4)), (a5, .inl (cI, 10, .inl f5)), (a6, .inr (1, [.ref a7, .ref a8, .ref a9, .ref a10, .ref a11, .ref a12, .ref b6_6, .int y1, .int y2, .int y3])), (a7, .inl (cI, 10, .inl y4)), (a8, .inl (cI, 10, .inl y5)), (a9, .inl (cI, 10, .inl y6)), (a10, .inl (cI, 10, .inl y7)), (a11, .inl (cI, 10, .inl y8)), (a12, .inl (cI, 10, .inl y9))]) 0 0 := by
  refine g_entry (cc := cX4_bookOf) (nL := 3) (rt := (some .int)) (by decide) rfl (Nat.le_of_ble_eq_true rfl) ?_
  intro p e s m args below meth c A (X : GC p s m args c cX4_bookOf 3 RX4 wsX4_bookOf D (tyS cI cS cL) A) hr hlk _ _
  have h := hc
  unfold f_X4_bookOf at h
  refine g_lv (lv' := [(0, .ref a0), (1, .int p1), (2, .int p2)]) [0, 1, 2] rfl ?_
  refine g_aload_n X (j := 0) dX4_bookOf_0 rfl ?_
  refine g_iload_n X (j := 1) dX4_bookOf_1 rfl ?_
  obtain ⟨r1, hc, h⟩ := bd1 h
  refine g_callV (q0 := 0) (ci := 4) (is := [0, 1]) (As := [.int p1]) (ws' := [(a0, .inr (4, [.ref a1, .ref b0_1, .ref b0_2, .ref a6, .ref b0_4, .ref b0_5, .ref b0_6, .int x0_length, .int x0_isReadingOld])), (a1, .inr (2, [.ref a2, .ref a3, .ref a4, .ref a5, .int x1_size])), (a2, .inl (cI, 10, .inl f2)), (a3, .inl (cI, 10, .inl f3)), (a4, .inl (cI, 10, .inl f4)), (a5, .inl (cI, 10, .inl f5)), (a6, .inr (1, [.ref a7, .ref a8, .ref a9, .ref a10, .ref a11, .ref a12, .ref b6_6, .int x6_areOrdersCounted, .int x6_isAnyOrder, .int x6_size])), (a7, .inl (cI, 10, .inl f7)), (a8, .inl (cI, 10, .inl f8)), (a9, .inl (cI, 10, .inl f9)), (a10, .inl (cI, 10, .inl f10)), (a11, .inl (cI, 10, .inl f11)), (a12, .inl (cI, 10, .inl f12))]) (st := []) X (c_X4_isBook l D cI cS cL a0 a1 b0_1 b0_2 a6 b0_4 b0_5 b0_6 a2 a3 a4 a5 p1 x0_length x0_isReadingOld x1_size r1 hc) gX4_bookOf_X4_isBook rfl ⟨rfl, rfl⟩ hd_X4_isBook (by exact ⟨Nat.le_of_ble_eq_true rfl, Nat.le_of_ble_eq_true rfl⟩) ⟨Nat.zero_le _, Nat.zero_le _⟩ rfl rfl rfl rfl rfl rfl rfl (Nat.le_of_ble_eq_true rfl) rfl dX4_bookOf_2 ?_
  refine g_if_ne (tgt := 18) X h dX4_bookOf_5 (by decide) (fun h => ?_) (fun h => ?_)
  · refine g_iload_n X (j := 2) dX4_bookOf_18 rfl ?_
    refine jn_g h (u0 ([(a0, .inr (4, [.ref a1, .ref b0_1, .ref b0_2, .ref a6, .ref b0_4, .ref b0_5, .ref b0_6, .int x0_length, .int x0_isReadingOld])), (a1, .inr (2, [.ref a2, .ref a3, .ref a4, .ref a5, .int x1_size])), (a2, .inl (cI, 10, .inl f2)), (a3, .inl (cI, 10, .inl f3)), (a4, .inl (cI, 10, .inl f4)), (a5, .inl (cI, 10, .inl f5)), (a6, .inr (1, [.ref a7, .ref a8, .ref a9, .ref a10, .ref a11, .ref a12, .ref b6_6, .int x6_areOrdersCounted, .int x6_isAnyOrder, .int x6_size])), (a7, .inl (cI, 10, .inl f7)), (a8, .inl (cI, 10, .inl f8)), (a9, .inl (cI, 10, .inl f9)), (a10, .inl (cI, 10, .inl f10)), (a11, .inl (cI, 10, .inl f11)), (a12, .inl (cI, 10, .inl f12))])) (u0 ([])) (u0 ([])) 28 ?_ ?_
    · rintro ⟨⟩ h
      dsimp only [u0] at h ⊢
      cases h
    · intro K2 hK2 h
      refine g_if_lt (tgt := 28) X h dX4_bookOf_19 (by decide) (fun h => ?_) (fun h => ?_)
      · refine g_lv (lv' := []) [] rfl ?_
        exact hK2 () h
      · refine g_iload_n X (j := 2) dX4_bookOf_22 rfl ?_
        refine g_bipush (v := 10) X dX4_bookOf_23 (by decide) ?_
        refine g_icmp_le (tgt := 38) X h dX4_bookOf_25 (by decide) (fun h => ?_) (fun h => ?_)
        · refine g_aload_n X (j := 0) dX4_bookOf_38 rfl ?_
          refine g_iload_n X (j := 1) dX4_bookOf_39 rfl ?_
          refine g_iload_n X (j := 2) dX4_bookOf_40 rfl ?_
          obtain ⟨r3, o4, o5, o6, o7, o8, o9, o10, o11, o12, o13, hc, h⟩ := bd11 h
          refine g_callV (q0 := 0) (ci := 4) (is := [0, 1, 2, 3, 4, 5, 6, 7, 8, 9, 10, 11, 12]) (As := [.int p1, .int p2]) (ws' := [(a0, .inr (4, [.ref a1, .ref b0_1, .ref b0_2, .ref a6, .ref b0_4, .ref b0_5, .ref b0_6, .int x0_length, .int o4])), (a1, .inr (2, [.ref a2, .ref a3, .ref a4, .ref a5, .int x1_size])), (a2, .inl (cI, 10, .inl f2)), (a3, .inl (cI, 10, .inl f3)), (a4, .inl (cI, 10, .inl f4)), (a5, .inl (cI, 10, .inl f5)), (a6, .inr (1, [.ref a7, .ref a8, .ref a9, .ref a10, .ref a11, .ref a12, .ref b6_6, .int o5, .int o6, .int o7])), (a7, .inl (cI, 10, .inl o8)), (a8, .inl (cI, 10, .inl o9)), (a9, .inl (cI, 10, .inl o10)), (a10, .inl (cI, 10, .inl o11)), (a11, .inl (cI, 10, .inl o12)), (a12, .inl (cI, 10, .inl o13))]) (st := []) X (c_X4_numberOfBook l D cI cS cL a0 a1 a2 a3 a4 a5 a6 a7 a8 a9 a10 a11 a12 b0_1 b0_2 b0_4 b0_5 b0_6 b6_6 p1 p2 x0_length x0_isReadingOld x1_size f2 f3 f4 f5 x6_areOrdersCounted x6_isAnyOrder x6_size f7 f8 f9 f10 f11 f12 r3 o4 o5 o6 o7 o8 o9 o10 o11 o12 o13 hc) gX4_bookOf_X4_numberOfBook rfl ⟨rfl, rfl⟩ hd_X4_numberOfBook (by exact ⟨Nat.le_of_ble_eq_true rfl, Nat.le_of_ble_eq_true rfl⟩) ⟨Nat.zero_le _, Nat.zero_le _⟩ rfl rfl rfl rfl rfl rfl rfl (Nat.le_of_ble_eq_true rfl) rfl dX4_bookOf_41 ?_
          have h := Option.some.inj h
          simp only [Prod.mk.injEq] at h
          obtain ⟨rfl, rfl, rfl, rfl, rfl, rfl, rfl, rfl, rfl, rfl, rfl⟩ := h
          exact g_iret X hr hlk dX4_bookOf_44 rfl rfl
        · refine g_lv (lv' := []) [] rfl ?_
          exact hK2 () h
  · cases h
def f_X4_ahead (p1 : Int32) (p2 : Int32) (x1_size : Int32) (f2 : Nat → Int32) (f3 : Nat → Int32) (f4 : Nat → Int32) (f5 : Nat → Int32) : Option (Int32) := (f_X4_isBook p1 x1_size).bind (u1 fun (r1 : Int32) => (jn (u0 (none)) (fun K2 => (if r1 = 0 then K2 () else (f_X4_isBook p2 x1_size).bind (u1 fun (r3 : Int32) => (if r3 = 0 then K2 () else (if p1 = p2 then none else (f_X2_reasonsAhead p1 p2 f2 f3 f4 f5).bind (u1 fun (r4 : Int32) => some r4))))))))
theorem in_X4_ahead_X4 : ∀ w ∈ wsX40, w ∈ wsX4_ahead := by decide +kernel
theorem fl_X4_ahead_12 : Cond.fieldLink RX4 12 "ColophonHunt" "shelf" "LColophonHunt$Shelf;" ∈ wsX4_ahead := by decide +kernel
theorem hd_X4_ahead : yX4_ahead.cls = RX4 ∧ yX4_ahead.cls ≠ "java/lang/invoke/MethodHandle" ∧ yX4_ahead.cls ≠ "java/lang/invoke/VarHandle" ∧ (parseMethodDescriptor yX4_ahead.desc).map (fun d => d.parameters.length) = some 2 := by decide +kernel
set_option maxRecDepth 100000 in
set_option maxHeartbeats 4000000 in
theorem c_X4_ahead (l : Launch) (D : va_G) (cI cS cL : ClassId) (a0 : Nat) (a1 : Nat) (a2 : Nat) (a3 : Nat) (a4 : Nat) (a5 : Nat) (b0_1 : Nat) (b0_2 : Nat) (b0_3 : Nat) (b0_4 : Nat) (b0_5 : Nat) (b0_6 : Nat) (p1 : Int32) (p2 : Int32) (x0_length : Int32) (x0_isReadingOld : Int32) (x1_size : Int32) (f2 : Nat → Int32) (f3 : Nat → Int32) (f4 : Nat → Int32) (f5 : Nat → Int32) (rr : Int32) (hc : f_X4_ahead p1 p2 x1_size f2 f3 f4 f5 = some rr) : KM l yX4_ahead wsX4_ahead { frames := 1, cells := 0, slots := 0, locals := 23 } D (tyS cI cS cL) [.ref a0, .int p1, .int p2] [(a0, .inr (4, [.ref a1, .ref b0_1, .ref b0_2, .ref b0_3, .ref b0_4, .ref b0_5, .ref b0_6, .int x0_length, .int x0_isReadingOld])), (a1, .inr (2, [.ref a2, .ref a3, .ref a4, .ref a5, .int x1_size])), (a2, .inl (cI, 10, .inl f2)), (a3, .inl (cI, 10, .inl f3)), (a4, .inl (cI, 10, .inl f4)), (a5, .inl (cI, 10, .inl f5))] (some (.int rr)) (fun w => w = [(a0, .inr (4, [.ref a1, .ref b0_1, .ref b0_2, .ref b0_3, .ref b0_4, .ref b0_5, .ref b0_6, .int x0_length, .int x0_isReadingOld])), (a1, .inr (2, [.ref a2, .ref a3, .ref a4, .ref a5, .int x1_size])), (a2, .inl (cI, 10, .inl f2)), (a3, .inl (cI, 10, .inl f3)), (a4, .inl (cI, 10, .inl f4)), (a5, .inl (cI, 10, .inl f5))]) 0 0 := by
  refine g_entry (cc := cX4_ahead) (nL := 3) (rt := (some .int)) (by decide) rfl (Nat.le_of_ble_eq_true rfl) ?_
  intro p e s m args below meth c A (X : GC p s m args c cX4_ahead 3 RX4 wsX4_ahead D (tyS cI cS cL) A) hr hlk _ _
  have h := hc
  unfold f_X4_ahead at h
  refine g_lv (lv' := [(0, .ref a0), (1, .int p1), (2, .int p2)]) [0, 1, 2] rfl ?_
  refine g_aload_n X (j := 0) dX4_ahead_0 rfl ?_
  refine g_iload_n X (j := 1) dX4_ahead_1 rfl ?_
  obtain ⟨r1, hc, h⟩ := bd1 h
  refine g_callV (q0 := 0) (ci := 4) (is := [0, 1]) (As := [.int p1]) (ws' := [(a0, .inr (4, [.ref a1, .ref b0_1, .ref b0_2, .ref b0_3, .ref b0_4, .ref b0_5, .ref b0_6, .int x0_length, .int x0_isReadingOld])), (a1, .inr (2, [.ref a2, .ref a3, .ref a4, .ref a5, .int x1_size])), (a2, .inl (cI, 10, .inl f2)), (a3, .inl (cI, 10, .inl f3)), (a4, .inl (cI, 10, .inl f4)), (a5, .inl (cI, 10, .inl f5))]) (st := []) X (c_X4_isBook l D cI cS cL a0 a1 b0_1 b0_2 b0_3 b0_4 b0_5 b0_6 a2 a3 a4 a5 p1 x0_length x0_isReadingOld x1_size r1 hc) gX4_ahead_X4_isBook rfl ⟨rfl, rfl⟩ hd_X4_isBook (by exact ⟨Nat.le_of_ble_eq_true rfl, Nat.le_of_ble_eq_true rfl⟩) ⟨Nat.zero_le _, Nat.zero_le _⟩ rfl rfl rfl rfl rfl rfl rfl (Nat.le_of_ble_eq_true rfl) rfl dX4_ahead_2 ?_
  refine jn_g h (u0 ([(a0, .inr (4, [.ref a1, .ref b0_1, .ref b0_2, .ref b0_3, .ref b0_4, .ref b0_5, .ref b0_6, .int x0_length, .int x0_isReadingOld])), (a1, .inr (2, [.ref a2, .ref a3, .ref a4, .ref a5, .int x1_size])), (a2, .inl (cI, 10, .inl f2)), (a3, .inl (cI, 10, .inl f3)), (a4, .inl (cI, 10, .inl f4)), (a5, .inl (cI, 10, .inl f5))])) (u0 ([])) (u0 ([])) 16 ?_ ?_
  · rintro ⟨⟩ h
    dsimp only [u0] at h ⊢
    cases h
  · intro K2 hK2 h
    refine g_if_eq (tgt := 16) X h dX4_ahead_5 (by decide) (fun h => ?_) (fun h => ?_)
    · refine g_lv (lv' := []) [] rfl ?_
      exact hK2 () h
    · refine g_aload_n X (j := 0) dX4_ahead_8 rfl ?_
      refine g_iload_n X (j := 2) dX4_ahead_9 rfl ?_
      obtain ⟨r3, hc, h⟩ := bd1 h
      refine g_callV (q0 := 0) (ci := 4) (is := [0, 1]) (As := [.int p2]) (ws' := [(a0, .inr (4, [.ref a1, .ref b0_1, .ref b0_2, .ref b0_3, .ref b0_4, .ref b0_5, .ref b0_6, .int x0_length, .int x0_isReadingOld])), (a1, .inr (2, [.ref a2, .ref a3, .ref a4, .ref a5, .int x1_size])), (a2, .inl (cI, 10, .inl f2)), (a3, .inl (cI, 10, .inl f3)), (a4, .inl (cI, 10, .inl f4)), (a5, .inl (cI, 10, .inl f5))]) (st := []) X (c_X4_isBook l D cI cS cL a0 a1 b0_1 b0_2 b0_3 b0_4 b0_5 b0_6 a2 a3 a4 a5 p2 x0_length x0_isReadingOld x1_size r3 hc) gX4_ahead_X4_isBook rfl ⟨rfl, rfl⟩ hd_X4_isBook (by exact ⟨Nat.le_of_ble_eq_true rfl, Nat.le_of_ble_eq_true rfl⟩) ⟨Nat.zero_le _, Nat.zero_le _⟩ rfl rfl rfl rfl rfl rfl rfl (Nat.le_of_ble_eq_true rfl) rfl dX4_ahead_10 ?_
      refine g_if_ne (tgt := 26) X h dX4_ahead_13 (by decide) (fun h => ?_) (fun h => ?_)
      · refine g_iload_n X (j := 1) dX4_ahead_26 rfl ?_
        refine g_iload_n X (j := 2) dX4_ahead_27 rfl ?_
        refine g_icmp_ne (tgt := 41) X h dX4_ahead_28 (by decide) (fun h => ?_) (fun h => ?_)
        · refine g_aload_n X (j := 0) dX4_ahead_41 rfl ?_
          refine g_get (q0 := 0) (k := 0) (ci := 4) X in_X4_ahead_X4 fl_X4_ahead_12 rfl rfl (Nat.le_of_ble_eq_true rfl) rfl dX4_ahead_42 ?_
          refine g_iload_n X (j := 1) dX4_ahead_45 rfl ?_
          refine g_iload_n X (j := 2) dX4_ahead_46 rfl ?_
          obtain ⟨r4, hc, h⟩ := bd1 h
          refine g_callV (q0 := 1) (ci := 2) (is := [1, 2, 3, 4, 5]) (As := [.int p1, .int p2]) (ws' := [(a0, .inr (4, [.ref a1, .ref b0_1, .ref b0_2, .ref b0_3, .ref b0_4, .ref b0_5, .ref b0_6, .int x0_length, .int x0_isReadingOld])), (a1, .inr (2, [.ref a2, .ref a3, .ref a4, .ref a5, .int x1_size])), (a2, .inl (cI, 10, .inl f2)), (a3, .inl (cI, 10, .inl f3)), (a4, .inl (cI, 10, .inl f4)), (a5, .inl (cI, 10, .inl f5))]) (st := []) X (c_X2_reasonsAhead l D cI cS cL a1 a2 a3 a4 a5 p1 p2 x1_size f2 f3 f4 f5 r4 hc) gX4_ahead_X2_reasonsAhead rfl ⟨rfl, rfl⟩ hd_X2_reasonsAhead (by exact ⟨Nat.le_of_ble_eq_true rfl, Nat.le_of_ble_eq_true rfl⟩) ⟨Nat.zero_le _, Nat.zero_le _⟩ rfl rfl rfl rfl rfl rfl rfl (Nat.le_of_ble_eq_true rfl) rfl dX4_ahead_47 ?_
          have h := Option.some.inj h
          subst h
          exact g_iret X hr hlk dX4_ahead_50 rfl rfl
        · cases h
      · refine g_lv (lv' := []) [] rfl ?_
        exact hK2 () h
def f_X4_count (p1 : Int32) (x0_isReadingOld : Int32) (x1_size : Int32) (f2 : Nat → Int32) (f3 : Nat → Int32) (f4 : Nat → Int32) (f5 : Nat → Int32) (x6_size : Int32) (x7_areOrdersCounted : Int32) (x7_isAnyOrder : Int32) (x7_size : Int32) (f8 : Nat → Int32) (f9 : Nat → Int32) (f10 : Nat → Int32) (f11 : Nat → Int32) (f12 : Nat → Int32) (f13 : Nat → Int32) (f14 : Nat → Int32) : Option (Int32 × Int32 × Int32 × Int32 × Int32 × (Nat → Int32) × (Nat → Int32) × (Nat → Int32) × (Nat → Int32) × (Nat → Int32) × (Nat → Int32) × (Nat → Int32)) := (jn (u0 (none)) (fun K1 => (if p1 < 0 then K1 () else (if p1 ≤ 9 then (f_X4_numberOfAll p1 x0_isReadingOld x1_size f2 f3 f4 f5 x6_size x7_areOrdersCounted x7_isAnyOrder x7_size f8 f9 f10 f11 f12 f13 f14).bind (u12 fun (r2 : Int32) (o3 : Int32) (o4 : Int32) (o5 : Int32) (o6 : Int32) (o7 : Nat → Int32) (o8 : Nat → Int32) (o9 : Nat → Int32) (o10 : Nat → Int32) (o11 : Nat → Int32) (o12 : Nat → Int32) (o13 : Nat → Int32) => some (r2, o3, o4, o5, o6, o7, o8, o9, o10, o11, o12, o13)) else K1 ()))))
theorem hd_X4_count : yX4_count.cls = RX4 ∧ yX4_count.cls ≠ "java/lang/invoke/MethodHandle" ∧ yX4_count.cls ≠ "java/lang/invoke/VarHandle" ∧ (parseMethodDescriptor yX4_count.desc).map (fun d => d.parameters.length) = some 1 := by decide +kernel
set_option maxRecDepth 100000 in
set_option maxHeartbeats 4000000 in
theorem c_X4_count (l : Launch) (D : va_G) (cI cS cL : ClassId) (a0 : Nat) (a1 : Nat) (a2 : Nat) (a3 : Nat) (a4 : Nat) (a5 : Nat) (a6 : Nat) (a7 : Nat) (a8 : Nat) (a9 : Nat) (a10 : Nat) (a11 : Nat) (a12 : Nat) (a13 : Nat) (a14 : Nat) (b0_1 : Nat) (b0_4 : Nat) (b0_5 : Nat) (b0_6 : Nat) (b6_0 : Nat) (p1 : Int32) (x0_length : Int32) (x0_isReadingOld : Int32) (x1_size : Int32) (f2 : Nat → Int32) (f3 : Nat → Int32) (f4 : Nat → Int32) (f5 : Nat → Int32) (x6_size : Int32) (x7_areOrdersCounted : Int32) (x7_isAnyOrder : Int32) (x7_size : Int32) (f8 : Nat → Int32) (f9 : Nat → Int32) (f10 : Nat → Int32) (f11 : Nat → Int32) (f12 : Nat → Int32) (f13 : Nat → Int32) (f14 : Nat → Int32) (rr : Int32) (y0 : Int32) (y1 : Int32) (y2 : Int32) (y3 : Int32) (y4 : Nat → Int32) (y5 : Nat → Int32) (y6 : Nat → Int32) (y7 : Nat → Int32) (y8 : Nat → Int32) (y9 : Nat → Int32) (y10 : Nat → Int32) (hc : f_X4_count p1 x0_isReadingOld x1_size f2 f3 f4 f5 x6_size x7_areOrdersCounted x7_isAnyOrder x7_size f8 f9 f10 f11 f12 f13 f14 = some (rr, y0, y1, y2, y3, y4, y5, y6, y7, y8, y9, y10)) : KM l yX4_count wsX4_count { frames := 5, cells := 0, slots := 0, locals := 109 } D (tyS cI cS cL) [.ref a0, .int p1] [(a0, .inr (4, [.ref a1, .ref b0_1, .ref a6, .ref a7, .ref b0_4, .ref b0_5, .ref b0_6, .int x0_length, .int x0_isReadingOld])), (a1, .inr (2, [.ref a2, .ref a3, .ref a4, .ref a5, .int x1_size])), (a2, .inl (cI, 10, .inl f2)), (a3, .inl (cI, 10, .inl f3)), (a4, .inl (cI, 10, .inl f4)), (a5, .inl (cI, 10, .inl f5)), (a6, .inr (0, [.ref b6_0, .int x6_size])), (a7, .inr (1, [.ref a8, .ref a9, .ref a10, .ref a11, .ref a12, .ref a13, .ref a14, .int x7_areOrdersCounted, .int x7_isAnyOrder, .int x7_size])), (a8, .inl (cI, 10, .inl f8)), (a9, .inl (cI, 10, .inl f9)), (a10, .inl (cI, 10, .inl f10)), (a11, .inl (cI, 10, .inl f11)), (a12, .inl (cI, 10, .inl f12)), (a13, .inl (cI, 10, .inl f13)), (a14, .inl (cI, 1024, .inl f14))] (some (.int rr)) (fun w => w = [(a0, .inr (4, [.ref a1, .ref b0_1, .ref a6, .ref a7, .ref b0_4, .ref b0_5, .ref b0_6, .int x0_length, .int y0])), (a1, .inr (2, [.ref a2, .ref a3, .ref a4, .ref a5, .int x1_size])), (a2, .inl (cI, 10, .inl f2)), (a3, .inl (cI, 10, .inl f3)), (a4, .inl (cI, 10, .inl f4)), (a5, .inl (cI, 10, .inl f5)), (a6, .inr (0, [.ref b6_0, .int x6_size])), (a7, .inr (1, [.ref a8, .ref a9, .ref a10, .ref a11, .ref a12, .ref a13, .ref a14, .int y1, .int y2, .int y3])), (a8, .inl (cI, 10, .inl y4)), (a9, .inl (cI, 10, .inl y5)), (a10, .inl (cI, 10, .inl y6)), (a11, .inl (cI, 10, .inl y7)), (a12, .inl (cI, 10, .inl y8)), (a13, .inl (cI, 10, .inl y9)), (a14, .inl (cI, 1024, .inl y10))]) 0 0 := by
  refine g_entry (cc := cX4_count) (nL := 2) (rt := (some .int)) (by decide) rfl (Nat.le_of_ble_eq_true rfl) ?_
  intro p e s m args below meth c A (X : GC p s m args c cX4_count 2 RX4 wsX4_count D (tyS cI cS cL) A) hr hlk _ _
  have h := hc
  unfold f_X4_count at h
  refine g_lv (lv' := [(0, .ref a0), (1, .int p1)]) [0, 1] rfl ?_
  refine g_iload_n X (j := 1) dX4_count_0 rfl ?_
  refine jn_g h (u0 ([(a0, .inr (4, [.ref a1, .ref b0_1, .ref a6, .ref a7, .ref b0_4, .ref b0_5, .ref b0_6, .int x0_length, .int x0_isReadingOld])), (a1, .inr (2, [.ref a2, .ref a3, .ref a4, .ref a5, .int x1_size])), (a2, .inl (cI, 10, .inl f2)), (a3, .inl (cI, 10, .inl f3)), (a4, .inl (cI, 10, .inl f4)), (a5, .inl (cI, 10, .inl f5)), (a6, .inr (0, [.ref b6_0, .int x6_size])), (a7, .inr (1, [.ref a8, .ref a9, .ref a10, .ref a11, .ref a12, .ref a13, .ref a14, .int x7_areOrdersCounted, .int x7_isAnyOrder, .int x7_size])), (a8, .inl (cI, 10, .inl f8)), (a9, .inl (cI, 10, .inl f9)), (a10, .inl (cI, 10, .inl f10)), (a11, .inl (cI, 10, .inl f11)), (a12, .inl (cI, 10, .inl f12)), (a13, .inl (cI, 10, .inl f13)), (a14, .inl (cI, 1024, .inl f14))])) (u0 ([])) (u0 ([])) 10 ?_ ?_
  · rintro ⟨⟩ h
    dsimp only [u0] at h ⊢
    cases h
  · intro K1 hK1 h
    refine g_if_lt (tgt := 10) X h dX4_count_1 (by decide) (fun h => ?_) (fun h => ?_)
    · refine g_lv (lv' := []) [] rfl ?_
      exact hK1 () h
    · refine g_iload_n X (j := 1) dX4_count_4 rfl ?_
      refine g_bipush (v := 9) X dX4_count_5 (by decide) ?_
      refine g_icmp_le (tgt := 20) X h dX4_count_7 (by decide) (fun h => ?_) (fun h => ?_)
      · refine g_aload_n X (j := 0) dX4_count_20 rfl ?_
        refine g_iload_n X (j := 1) dX4_count_21 rfl ?_
        obtain ⟨r2, o3, o4, o5, o6, o7, o8, o9, o10, o11, o12, o13, hc, h⟩ := bd12 h
        refine g_callVF (q0 := 0) (ci := 4) (is := [0, 1, 2, 3, 4, 5, 6, 7, 8, 9, 10, 11, 12, 13, 14]) (isR := []) (wr := []) (As := [.int p1]) (st := []) X (c_X4_numberOfAll l D cI cS cL a0 a1 a2 a3 a4 a5 a6 a7 a8 a9 a10 a11 a12 a13 a14 b0_1 b0_4 b0_5 b0_6 b6_0 p1 x0_length x0_isReadingOld x1_size f2 f3 f4 f5 x6_size x7_areOrdersCounted x7_isAnyOrder x7_size f8 f9 f10 f11 f12 f13 f14 r2 o3 o4 o5 o6 o7 o8 o9 o10 o11 o12 o13 hc) gX4_count_X4_numberOfAll rfl ⟨rfl, rfl⟩ hd_X4_numberOfAll (by exact ⟨Nat.le_of_ble_eq_true rfl, Nat.le_of_ble_eq_true rfl⟩) ⟨Nat.zero_le _, Nat.zero_le _⟩ rfl rfl rfl (by decide +kernel) rfl (by decide +kernel) (by decide +kernel) rfl (Nat.le_of_ble_eq_true rfl) rfl dX4_count_22 ?_
        rintro _ rfl
        refine g_ws (ws' := [(a0, .inr (4, [.ref a1, .ref b0_1, .ref a6, .ref a7, .ref b0_4, .ref b0_5, .ref b0_6, .int x0_length, .int o3])), (a1, .inr (2, [.ref a2, .ref a3, .ref a4, .ref a5, .int x1_size])), (a2, .inl (cI, 10, .inl f2)), (a3, .inl (cI, 10, .inl f3)), (a4, .inl (cI, 10, .inl f4)), (a5, .inl (cI, 10, .inl f5)), (a6, .inr (0, [.ref b6_0, .int x6_size])), (a7, .inr (1, [.ref a8, .ref a9, .ref a10, .ref a11, .ref a12, .ref a13, .ref a14, .int o4, .int o5, .int o6])), (a8, .inl (cI, 10, .inl o7)), (a9, .inl (cI, 10, .inl o8)), (a10, .inl (cI, 10, .inl o9)), (a11, .inl (cI, 10, .inl o10)), (a12, .inl (cI, 10, .inl o11)), (a13, .inl (cI, 10, .inl o12)), (a14, .inl (cI, 1024, .inl o13))]) [0, 1, 2, 3, 4, 5, 6, 7, 8, 9, 10, 11, 12, 13, 14] rfl (by decide +kernel) ?_
        have h := Option.some.inj h
        simp only [Prod.mk.injEq] at h
        obtain ⟨rfl, rfl, rfl, rfl, rfl, rfl, rfl, rfl, rfl, rfl, rfl, rfl⟩ := h
        exact g_iret X hr hlk dX4_count_25 rfl rfl
      · refine g_lv (lv' := []) [] rfl ?_
        exact hK1 () h
def f_X4_order (p1 : Int32) (x0_isReadingOld : Int32) (x1_size : Int32) (f2 : Nat → Int32) (f3 : Nat → Int32) (f4 : Nat → Int32) (f5 : Nat → Int32) (x6_areOrdersCounted : Int32) (x6_isAnyOrder : Int32) (x6_size : Int32) (f7 : Nat → Int32) (f8 : Nat → Int32) (f9 : Nat → Int32) (f10 : Nat → Int32) (f11 : Nat → Int32) (f12 : Nat → Int32) : Option (Int32 × Int32 × Int32 × Int32 × Int32 × (Nat → Int32) × (Nat → Int32) × (Nat → Int32) × (Nat → Int32) × (Nat → Int32) × (Nat → Int32)) := (if 0 ≤ p1 then (f_X4_currentReading x0_isReadingOld x1_size f2 f3 f4 f5 x6_areOrdersCounted x6_isAnyOrder x6_size f7 f8 f9 f10 f11 f12).bind (u10 fun (o2 : Int32) (o3 : Int32) (o4 : Int32) (o5 : Int32) (o6 : Nat → Int32) (o7 : Nat → Int32) (o8 : Nat → Int32) (o9 : Nat → Int32) (o10 : Nat → Int32) (o11 : Nat → Int32) => (f_X1_bookInFirstOrder p1 o4 o5 o6).bind (u1 fun (r12 : Int32) => some (r12, o2, o3, o4, o5, o6, o7, o8, o9, o10, o11))) else none)
theorem hd_X4_order : yX4_order.cls = RX4 ∧ yX4_order.cls ≠ "java/lang/invoke/MethodHandle" ∧ yX4_order.cls ≠ "java/lang/invoke/VarHandle" ∧ (parseMethodDescriptor yX4_order.desc).map (fun d => d.parameters.length) = some 1 := by decide +kernel
set_option maxRecDepth 100000 in
set_option maxHeartbeats 4000000 in
theorem c_X4_order (l : Launch) (D : va_G) (cI cS cL : ClassId) (a0 : Nat) (a1 : Nat) (a2 : Nat) (a3 : Nat) (a4 : Nat) (a5 : Nat) (a6 : Nat) (a7 : Nat) (a8 : Nat) (a9 : Nat) (a10 : Nat) (a11 : Nat) (a12 : Nat) (b0_1 : Nat) (b0_2 : Nat) (b0_4 : Nat) (b0_5 : Nat) (b0_6 : Nat) (b6_6 : Nat) (p1 : Int32) (x0_length : Int32) (x0_isReadingOld : Int32) (x1_size : Int32) (f2 : Nat → Int32) (f3 : Nat → Int32) (f4 : Nat → Int32) (f5 : Nat → Int32) (x6_areOrdersCounted : Int32) (x6_isAnyOrder : Int32) (x6_size : Int32) (f7 : Nat → Int32) (f8 : Nat → Int32) (f9 : Nat → Int32) (f10 : Nat → Int32) (f11 : Nat → Int32) (f12 : Nat → Int32) (rr : Int32) (y0 : Int32) (y1 : Int32) (y2 : Int32) (y3 : Int32) (y4 : Nat → Int32) (y5 : Nat → Int32) (y6 : Nat → Int32) (y7 : Nat → Int32) (y8 : Nat → Int32) (y9 : Nat → Int32) (hc : f_X4_order p1 x0_isReadingOld x1_size f2 f3 f4 f5 x6_areOrdersCounted x6_isAnyOrder x6_size f7 f8 f9 f10 f11 f12 = some (rr, y0, y1, y2, y3, y4, y5, y6, y7, y8, y9)) : KM l yX4_order wsX4_order { frames := 4, cells := 0, slots := 0, locals := 88 } D (tyS cI cS cL) [.ref a0, .int p1] [(a0, .inr (4, [.ref a1, .ref b0_1, .ref b0_2, .ref a6, .ref b0_4, .ref b0_5, .ref b0_6, .int x0_length, .int x0_isReadingOld])), (a1, .inr (2, [.ref a2, .ref a3, .ref a4, .ref a5, .int x1_size])), (a2, .inl (cI, 10, .inl f2)), (a3, .inl (cI, 10, .inl f3)), (a4, .inl (cI, 10, .inl f4)), (a5, .inl (cI, 10, .inl f5)), (a6, .inr (1, [.ref a7, .ref a8, .ref a9, .ref a10, .ref a11, .ref a12, .ref b6_6, .int x6_areOrdersCounted, .int x6_isAnyOrder, .int x6_size])), (a7, .inl (cI, 10, .inl f7)), (a8, .inl (cI, 10, .inl f8)), (a9, .inl (cI, 10, .inl f9)), (a10, .inl (cI, 10, .inl f10)), (a11, .inl (cI, 10, .inl f11)), (a12, .inl (cI, 10, .inl f12))] (some (.int rr)) (fun w => w = [(a0, .inr (4, [.ref a1, .ref b0_1, .ref b0_2, .ref a6, .ref b0_4, .ref b0_5, .ref b0_6, .int x0_length, .int y0])), (a1, .inr (2, [.ref a2, .ref a3, .ref a4, .ref a5, .int x1_size])), (a2, .inl (cI, 10, .inl f2)), (a3, .inl (cI, 10, .inl f3)), (a4, .inl (cI, 10, .inl f4)), (a5, .inl (cI, 10, .inl f5)), (a6, .inr (1, [.ref a7, .ref a8, .ref a9, .ref a10, .ref a11, .ref a12, .ref b6_6, .int y1, .int y2, .int y3])), (a7, .inl (cI, 10, .inl y4)), (a8, .inl (cI, 10, .inl y5)), (a9, .inl (cI, 10, .inl y6)), (a10, .inl (cI, 10, .inl y7)), (a11, .inl (cI, 10, .inl y8)), (a12, .inl (cI, 10, .inl y9))]) 0 0 := by
  refine g_entry (cc := cX4_order) (nL := 2) (rt := (some .int)) (by decide) rfl (Nat.le_of_ble_eq_true rfl) ?_
  intro p e s m args below meth c A (X : GC p s m args c cX4_order 2 RX4 wsX4_order D (tyS cI cS cL) A) hr hlk _ _
  have h := hc
  unfold f_X4_order at h
  refine g_lv (lv' := [(0, .ref a0), (1, .int p1)]) [0, 1] rfl ?_
  refine g_iload_n X (j := 1) dX4_order_0 rfl ?_
  refine g_if_ge (tgt := 14) X h dX4_order_1 (by decide) (fun h => ?_) (fun h => ?_)
  · refine g_aload_n X (j := 0) dX4_order_14 rfl ?_
    obtain ⟨o2, o3, o4, o5, o6, o7, o8, o9, o10, o11, hc, h⟩ := bd10 h
    refine g_callV (q0 := 0) (ci := 4) (is := [0, 1, 2, 3, 4, 5, 6, 7, 8, 9, 10, 11, 12]) (As := []) (ws' := [(a0, .inr (4, [.ref a1, .ref b0_1, .ref b0_2, .ref a6, .ref b0_4, .ref b0_5, .ref b0_6, .int x0_length, .int o2])), (a1, .inr (2, [.ref a2, .ref a3, .ref a4, .ref a5, .int x1_size])), (a2, .inl (cI, 10, .inl f2)), (a3, .inl (cI, 10, .inl f3)), (a4, .inl (cI, 10, .inl f4)), (a5, .inl (cI, 10, .inl f5)), (a6, .inr (1, [.ref a7, .ref a8, .ref a9, .ref a10, .ref a11, .ref a12, .ref b6_6, .int o3, .int o4, .int o5])), (a7, .inl (cI, 10, .inl o6)), (a8, .inl (cI, 10, .inl o7)), (a9, .inl (cI, 10, .inl o8)), (a10, .inl (cI, 10, .inl o9)), (a11, .inl (cI, 10, .inl o10)), (a12, .inl (cI, 10, .inl o11))]) (st := []) X (c_X4_currentReading l D cI cS cL a0 a1 a2 a3 a4 a5 a6 a7 a8 a9 a10 a11 a12 b0_1 b0_2 b0_4 b0_5 b0_6 b6_6 x0_length x0_isReadingOld x1_size f2 f3 f4 f5 x6_areOrdersCounted x6_isAnyOrder x6_size f7 f8 f9 f10 f11 f12 o2 o3 o4 o5 o6 o7 o8 o9 o10 o11 hc) gX4_order_X4_currentReading rfl ⟨rfl, rfl⟩ hd_X4_currentReading (by exact ⟨Nat.le_of_ble_eq_true rfl, Nat.le_of_ble_eq_true rfl⟩) ⟨Nat.zero_le _, Nat.zero_le _⟩ rfl rfl rfl rfl rfl rfl rfl (Nat.le_of_ble_eq_true rfl) rfl dX4_order_15 ?_
    refine g_iload_n X (j := 1) dX4_order_18 rfl ?_
    obtain ⟨r12, hc, h⟩ := bd1 h
    refine g_callV (q0 := 6) (ci := 1) (is := [6, 7]) (As := [.int p1]) (ws' := [(a0, .inr (4, [.ref a1, .ref b0_1, .ref b0_2, .ref a6, .ref b0_4, .ref b0_5, .ref b0_6, .int x0_length, .int o2])), (a1, .inr (2, [.ref a2, .ref a3, .ref a4, .ref a5, .int x1_size])), (a2, .inl (cI, 10, .inl f2)), (a3, .inl (cI, 10, .inl f3)), (a4, .inl (cI, 10, .inl f4)), (a5, .inl (cI, 10, .inl f5)), (a6, .inr (1, [.ref a7, .ref a8, .ref a9, .ref a10, .ref a11, .ref a12, .ref b6_6, .int o3, .int o4, .int o5])), (a7, .inl (cI, 10, .inl o6)), (a8, .inl (cI, 10, .inl o7)), (a9, .inl (cI, 10, .inl o8)), (a10, .inl (cI, 10, .inl o9)), (a11, .inl (cI, 10, .inl o10)), (a12, .inl (cI, 10, .inl o11))]) (st := []) X (c_X1_bookInFirstOrder l D cI cS cL a6 a7 a8 a9 a10 a11 a12 b6_6 p1 o3 o4 o5 o6 r12 hc) gX4_order_X1_bookInFirstOrder rfl ⟨rfl, rfl⟩ hd_X1_bookInFirstOrder (by exact ⟨Nat.le_of_ble_eq_true rfl, Nat.le_of_ble_eq_true rfl⟩) ⟨Nat.zero_le _, Nat.zero_le _⟩ rfl rfl rfl rfl rfl rfl rfl (Nat.le_of_ble_eq_true rfl) rfl dX4_order_19 ?_
    have h := Option.some.inj h
    simp only [Prod.mk.injEq] at h
    obtain ⟨rfl, rfl, rfl, rfl, rfl, rfl, rfl, rfl, rfl, rfl, rfl⟩ := h
    exact g_iret X hr hlk dX4_order_22 rfl rfl
  · cases h
def f_X4_place (p1 : Int32) (p2 : Int32) (x0_isReadingOld : Int32) (x1_size : Int32) (f2 : Nat → Int32) (f3 : Nat → Int32) (f4 : Nat → Int32) (f5 : Nat → Int32) (x6_areOrdersCounted : Int32) (x6_isAnyOrder : Int32) (x6_size : Int32) (f7 : Nat → Int32) (f8 : Nat → Int32) (f9 : Nat → Int32) (f10 : Nat → Int32) (f11 : Nat → Int32) (f12 : Nat → Int32) (f13 : Nat → Int32) : Option (Int32 × Int32 × Int32 × Int32 × Int32 × (Nat → Int32) × (Nat → Int32) × (Nat → Int32) × (Nat → Int32) × (Nat → Int32) × (Nat → Int32) × (Nat → Int32)) := (f_X4_isBook p1 x1_size).bind (u1 fun (r1 : Int32) => (if r1 = 0 then none else (jn (u0 (none)) (fun K2 => (if p2 < 0 then K2 () else (if p2 ≤ 2 then (f_X4_numberOfPlaces p1 p2 x0_isReadingOld x1_size f2 f3 f4 f5 x6_areOrdersCounted x6_isAnyOrder x6_size f7 f8 f9 f10 f11 f12 f13).bind (u12 fun (r3 : Int32) (o4 : Int32) (o5 : Int32) (o6 : Int32) (o7 : Int32) (o8 : Nat → Int32) (o9 : Nat → Int32) (o10 : Nat → Int32) (o11 : Nat → Int32) (o12 : Nat → Int32) (o13 : Nat → Int32) (o14 : Nat → Int32) => some (r3, o4, o5, o6, o7, o8, o9, o10, o11, o12, o13, o14)) else K2 ()))))))
theorem hd_X4_place : yX4_place.cls = RX4 ∧ yX4_place.cls ≠ "java/lang/invoke/MethodHandle" ∧ yX4_place.cls ≠ "java/lang/invoke/VarHandle" ∧ (parseMethodDescriptor yX4_place.desc).map (fun d => d.parameters.length) = some 2 := by decide +kernel
set_option maxRecDepth 100000 in
set_option maxHeartbeats 4000000 in
theorem c_X4_place (l : Launch) (D : va_G) (cI cS cL : ClassId) (a0 : Nat) (a1 : Nat) (a2 : Nat) (a3 : Nat) (a4 : Nat) (a5 : Nat) (a6 : Nat) (a7 : Nat) (a8 : Nat) (a9 : Nat) (a10 : Nat) (a11 : Nat) (a12 : Nat) (a13 : Nat) (b0_1 : Nat) (b0_2 : Nat) (b0_4 : Nat) (b0_5 : Nat) (b0_6 : Nat) (p1 : Int32) (p2 : Int32) (x0_length : Int32) (x0_isReadingOld : Int32) (x1_size : Int32) (f2 : Nat → Int32) (f3 : Nat → Int32) (f4 : Nat → Int32) (f5 : Nat → Int32) (x6_areOrdersCounted : Int32) (x6_isAnyOrder : Int32) (x6_size : Int32) (f7 : Nat → Int32) (f8 : Nat → Int32) (f9 : Nat → Int32) (f10 : Nat → Int32) (f11 : Nat → Int32) (f12 : Nat → Int32) (f13 : Nat → Int32) (rr : Int32) (y0 : Int32) (y1 : Int32) (y2 : Int32) (y3 : Int32) (y4 : Nat → Int32) (y5 : Nat → Int32) (y6 : Nat → Int32) (y7 : Nat → Int32) (y8 : Nat → Int32) (y9 : Nat → Int32) (y10 : Nat → Int32) (hc : f_X4_place p1 p2 x0_isReadingOld x1_size f2 f3 f4 f5 x6_areOrdersCounted x6_isAnyOrder x6_size f7 f8 f9 f10 f11 f12 f13 = some (rr, y0, y1, y2, y3, y4, y5, y6, y7, y8, y9, y10)) : KM l yX4_place wsX4_place { frames := 5, cells := 0, slots := 0, locals := 110 } D (tyS cI cS cL) [.ref a0, .int p1, .int p2] [(a0, .inr (4, [.ref a1, .ref b0_1, .ref b0_2, .ref a6, .ref b0_4, .ref b0_5, .ref b0_6, .int x0_length, .int x0_isReadingOld])), (a1, .inr (2, [.ref a2, .ref a3, .ref a4, .ref a5, .int x1_size])), (a2, .inl (cI, 10, .inl f2)), (a3, .inl (cI, 10, .inl f3)), (a4, .inl (cI, 10, .inl f4)), (a5, .inl (cI, 10, .inl f5)), (a6, .inr (1, [.ref a7, .ref a8, .ref a9, .ref a10, .ref a11, .ref a12, .ref a13, .int x6_areOrdersCounted, .int x6_isAnyOrder, .int x6_size])), (a7, .inl (cI, 10, .inl f7)), (a8, .inl (cI, 10, .inl f8)), (a9, .inl (cI, 10, .inl f9)), (a10, .inl (cI, 10, .inl f10)), (a11, .inl (cI, 10, .inl f11)), (a12, .inl (cI, 10, .inl f12)), (a13, .inl (cI, 1024, .inl f13))] (some (.int rr)) (fun w => w = [(a0, .inr (4, [.ref a1, .ref b0_1, .ref b0_2, .ref a6, .ref b0_4, .ref b0_5, .ref b0_6, .int x0_length, .int y0])), (a1, .inr (2, [.ref a2, .ref a3, .ref a4, .ref a5, .int x1_size])), (a2, .inl (cI, 10, .inl f2)), (a3, .inl (cI, 10, .inl f3)), (a4, .inl (cI, 10, .inl f4)), (a5, .inl (cI, 10, .inl f5)), (a6, .inr (1, [.ref a7, .ref a8, .ref a9, .ref a10, .ref a11, .ref a12, .ref a13, .int y1, .int y2, .int y3])), (a7, .inl (cI, 10, .inl y4)), (a8, .inl (cI, 10, .inl y5)), (a9, .inl (cI, 10, .inl y6)), (a10, .inl (cI, 10, .inl y7)), (a11, .inl (cI, 10, .inl y8)), (a12, .inl (cI, 10, .inl y9)), (a13, .inl (cI, 1024, .inl y10))]) 0 0 := by
  refine g_entry (cc := cX4_place) (nL := 3) (rt := (some .int)) (by decide) rfl (Nat.le_of_ble_eq_true rfl) ?_
  intro p e s m args below meth c A (X : GC p s m args c cX4_place 3 RX4 wsX4_place D (tyS cI cS cL) A) hr hlk _ _
  have h := hc
  unfold f_X4_place at h
  refine g_lv (lv' := [(0, .ref a0), (1, .int p1), (2, .int p2)]) [0, 1, 2] rfl ?_
  refine g_aload_n X (j := 0) dX4_place_0 rfl ?_
  refine g_iload_n X (j := 1) dX4_place_1 rfl ?_
  obtain ⟨r1, hc, h⟩ := bd1 h
  refine g_callV (q0 := 0) (ci := 4) (is := [0, 1]) (As := [.int p1]) (ws' := [(a0, .inr (4, [.ref a1, .ref b0_1, .ref b0_2, .ref a6, .ref b0_4, .ref b0_5, .ref b0_6, .int x0_length, .int x0_isReadingOld])), (a1, .inr (2, [.ref a2, .ref a3, .ref a4, .ref a5, .int x1_size])), (a2, .inl (cI, 10, .inl f2)), (a3, .inl (cI, 10, .inl f3)), (a4, .inl (cI, 10, .inl f4)), (a5, .inl (cI, 10, .inl f5)), (a6, .inr (1, [.ref a7, .ref a8, .ref a9, .ref a10, .ref a11, .ref a12, .ref a13, .int x6_areOrdersCounted, .int x6_isAnyOrder, .int x6_size])), (a7, .inl (cI, 10, .inl f7)), (a8, .inl (cI, 10, .inl f8)), (a9, .inl (cI, 10, .inl f9)), (a10, .inl (cI, 10, .inl f10)), (a11, .inl (cI, 10, .inl f11)), (a12, .inl (cI, 10, .inl f12)), (a13, .inl (cI, 1024, .inl f13))]) (st := []) X (c_X4_isBook l D cI cS cL a0 a1 b0_1 b0_2 a6 b0_4 b0_5 b0_6 a2 a3 a4 a5 p1 x0_length x0_isReadingOld x1_size r1 hc) gX4_place_X4_isBook rfl ⟨rfl, rfl⟩ hd_X4_isBook (by exact ⟨Nat.le_of_ble_eq_true rfl, Nat.le_of_ble_eq_true rfl⟩) ⟨Nat.zero_le _, Nat.zero_le _⟩ rfl rfl rfl rfl rfl rfl rfl (Nat.le_of_ble_eq_true rfl) rfl dX4_place_2 ?_
  refine g_if_ne (tgt := 18) X h dX4_place_5 (by decide) (fun h => ?_) (fun h => ?_)
  · refine g_iload_n X (j := 2) dX4_place_18 rfl ?_
    refine jn_g h (u0 ([(a0, .inr (4, [.ref a1, .ref b0_1, .ref b0_2, .ref a6, .ref b0_4, .ref b0_5, .ref b0_6, .int x0_length, .int x0_isReadingOld])), (a1, .inr (2, [.ref a2, .ref a3, .ref a4, .ref a5, .int x1_size])), (a2, .inl (cI, 10, .inl f2)), (a3, .inl (cI, 10, .inl f3)), (a4, .inl (cI, 10, .inl f4)), (a5, .inl (cI, 10, .inl f5)), (a6, .inr (1, [.ref a7, .ref a8, .ref a9, .ref a10, .ref a11, .ref a12, .ref a13, .int x6_areOrdersCounted, .int x6_isAnyOrder, .int x6_size])), (a7, .inl (cI, 10, .inl f7)), (a8, .inl (cI, 10, .inl f8)), (a9, .inl (cI, 10, .inl f9)), (a10, .inl (cI, 10, .inl f10)), (a11, .inl (cI, 10, .inl f11)), (a12, .inl (cI, 10, .inl f12)), (a13, .inl (cI, 1024, .inl f13))])) (u0 ([])) (u0 ([])) 27 ?_ ?_
    · rintro ⟨⟩ h
      dsimp only [u0] at h ⊢
      cases h
    · intro K2 hK2 h
      refine g_if_lt (tgt := 27) X h dX4_place_19 (by decide) (fun h => ?_) (fun h => ?_)
      · refine g_lv (lv' := []) [] rfl ?_
        exact hK2 () h
      · refine g_iload_n X (j := 2) dX4_place_22 rfl ?_
        refine g_iconst (v := 2) X dX4_place_23 (by decide) ?_
        refine g_icmp_le (tgt := 37) X h dX4_place_24 (by decide) (fun h => ?_) (fun h => ?_)
        · refine g_aload_n X (j := 0) dX4_place_37 rfl ?_
          refine g_iload_n X (j := 1) dX4_place_38 rfl ?_
          refine g_iload_n X (j := 2) dX4_place_39 rfl ?_
          obtain ⟨r3, o4, o5, o6, o7, o8, o9, o10, o11, o12, o13, o14, hc, h⟩ := bd12 h
          refine g_callV (q0 := 0) (ci := 4) (is := [0, 1, 2, 3, 4, 5, 6, 7, 8, 9, 10, 11, 12, 13]) (As := [.int p1, .int p2]) (ws' := [(a0, .inr (4, [.ref a1, .ref b0_1, .ref b0_2, .ref a6, .ref b0_4, .ref b0_5, .ref b0_6, .int x0_length, .int o4])), (a1, .inr (2, [.ref a2, .ref a3, .ref a4, .ref a5, .int x1_size])), (a2, .inl (cI, 10, .inl f2)), (a3, .inl (cI, 10, .inl f3)), (a4, .inl (cI, 10, .inl f4)), (a5, .inl (cI, 10, .inl f5)), (a6, .inr (1, [.ref a7, .ref a8, .ref a9, .ref a10, .ref a11, .ref a12, .ref a13, .int o5, .int o6, .int o7])), (a7, .inl (cI, 10, .inl o8)), (a8, .inl (cI, 10, .inl o9)), (a9, .inl (cI, 10, .inl o10)), (a10, .inl (cI, 10, .inl o11)), (a11, .inl (cI, 10, .inl o12)), (a12, .inl (cI, 10, .inl o13)), (a13, .inl (cI, 1024, .inl o14))]) (st := []) X (c_X4_numberOfPlaces l D cI cS cL a0 a1 a2 a3 a4 a5 a6 a7 a8 a9 a10 a11 a12 a13 b0_1 b0_2 b0_4 b0_5 b0_6 p1 p2 x0_length x0_isReadingOld x1_size f2 f3 f4 f5 x6_areOrdersCounted x6_isAnyOrder x6_size f7 f8 f9 f10 f11 f12 f13 r3 o4 o5 o6 o7 o8 o9 o10 o11 o12 o13 o14 hc) gX4_place_X4_numberOfPlaces rfl ⟨rfl, rfl⟩ hd_X4_numberOfPlaces (by exact ⟨Nat.le_of_ble_eq_true rfl, Nat.le_of_ble_eq_true rfl⟩) ⟨Nat.zero_le _, Nat.zero_le _⟩ rfl rfl rfl rfl rfl rfl rfl (Nat.le_of_ble_eq_true rfl) rfl dX4_place_40 ?_
          have h := Option.some.inj h
          simp only [Prod.mk.injEq] at h
          obtain ⟨rfl, rfl, rfl, rfl, rfl, rfl, rfl, rfl, rfl, rfl, rfl, rfl⟩ := h
          exact g_iret X hr hlk dX4_place_43 rfl rfl
        · refine g_lv (lv' := []) [] rfl ?_
          exact hK2 () h
  · cases h
def f_X4_wrong (p1 : Int32) (x0_isReadingOld : Int32) (x1_size : Int32) (f2 : Nat → Int32) (f3 : Nat → Int32) (f4 : Nat → Int32) (f5 : Nat → Int32) (x6_areOrdersCounted : Int32) (x6_isAnyOrder : Int32) (x6_size : Int32) (f7 : Nat → Int32) (f8 : Nat → Int32) (f9 : Nat → Int32) (f10 : Nat → Int32) (f11 : Nat → Int32) (f12 : Nat → Int32) (f13 : Nat → Int32) : Option (Int32 × Int32 × Int32 × Int32 × Int32 × (Nat → Int32) × (Nat → Int32) × (Nat → Int32) × (Nat → Int32) × (Nat → Int32) × (Nat → Int32) × (Nat → Int32)) := (jn (u0 ((f_X4_currentReading x0_isReadingOld x1_size f2 f3 f4 f5 x6_areOrdersCounted x6_isAnyOrder x6_size f7 f8 f9 f10 f11 f12).bind (u10 fun (o3 : Int32) (o4 : Int32) (o5 : Int32) (o6 : Int32) (o7 : Nat → Int32) (o8 : Nat → Int32) (o9 : Nat → Int32) (o10 : Nat → Int32) (o11 : Nat → Int32) (o12 : Nat → Int32) => (f_X1_leastWrongBooks o4 o5 o6 o7 f13).bind (u3 fun (r13 : Int32) (o14 : Int32) (o15 : Nat → Int32) => (jn (u1 fun (s16 : Int32) => some (s16, o3, o14, o5, o6, o7, o8, o9, o10, o11, o12, o15)) (fun K17 => (if p1 = 0 then (f_J6_bitCount_0f7a4 r13).bind (u1 fun (r18 : Int32) => K17 r18) else K17 r13))))))) (fun K1 => (if p1 = 0 then K1 () else (if p1 = 1 then K1 () else none))))
theorem hd_X4_wrong : yX4_wrong.cls = RX4 ∧ yX4_wrong.cls ≠ "java/lang/invoke/MethodHandle" ∧ yX4_wrong.cls ≠ "java/lang/invoke/VarHandle" ∧ (parseMethodDescriptor yX4_wrong.desc).map (fun d => d.parameters.length) = some 1 := by decide +kernel
set_option maxRecDepth 100000 in
set_option maxHeartbeats 4000000 in
theorem c_X4_wrong (l : Launch) (D : va_G) (cI cS cL : ClassId) (a0 : Nat) (a1 : Nat) (a2 : Nat) (a3 : Nat) (a4 : Nat) (a5 : Nat) (a6 : Nat) (a7 : Nat) (a8 : Nat) (a9 : Nat) (a10 : Nat) (a11 : Nat) (a12 : Nat) (a13 : Nat) (b0_1 : Nat) (b0_2 : Nat) (b0_4 : Nat) (b0_5 : Nat) (b0_6 : Nat) (p1 : Int32) (x0_length : Int32) (x0_isReadingOld : Int32) (x1_size : Int32) (f2 : Nat → Int32) (f3 : Nat → Int32) (f4 : Nat → Int32) (f5 : Nat → Int32) (x6_areOrdersCounted : Int32) (x6_isAnyOrder : Int32) (x6_size : Int32) (f7 : Nat → Int32) (f8 : Nat → Int32) (f9 : Nat → Int32) (f10 : Nat → Int32) (f11 : Nat → Int32) (f12 : Nat → Int32) (f13 : Nat → Int32) (rr : Int32) (y0 : Int32) (y1 : Int32) (y2 : Int32) (y3 : Int32) (y4 : Nat → Int32) (y5 : Nat → Int32) (y6 : Nat → Int32) (y7 : Nat → Int32) (y8 : Nat → Int32) (y9 : Nat → Int32) (y10 : Nat → Int32) (hc : f_X4_wrong p1 x0_isReadingOld x1_size f2 f3 f4 f5 x6_areOrdersCounted x6_isAnyOrder x6_size f7 f8 f9 f10 f11 f12 f13 = some (rr, y0, y1, y2, y3, y4, y5, y6, y7, y8, y9, y10)) : KM l yX4_wrong wsX4_wrong { frames := 4, cells := 0, slots := 0, locals := 88 } D (tyS cI cS cL) [.ref a0, .int p1] [(a0, .inr (4, [.ref a1, .ref b0_1, .ref b0_2, .ref a6, .ref b0_4, .ref b0_5, .ref b0_6, .int x0_length, .int x0_isReadingOld])), (a1, .inr (2, [.ref a2, .ref a3, .ref a4, .ref a5, .int x1_size])), (a2, .inl (cI, 10, .inl f2)), (a3, .inl (cI, 10, .inl f3)), (a4, .inl (cI, 10, .inl f4)), (a5, .inl (cI, 10, .inl f5)), (a6, .inr (1, [.ref a7, .ref a8, .ref a9, .ref a10, .ref a11, .ref a12, .ref a13, .int x6_areOrdersCounted, .int x6_isAnyOrder, .int x6_size])), (a7, .inl (cI, 10, .inl f7)), (a8, .inl (cI, 10, .inl f8)), (a9, .inl (cI, 10, .inl f9)), (a10, .inl (cI, 10, .inl f10)), (a11, .inl (cI, 10, .inl f11)), (a12, .inl (cI, 10, .inl f12)), (a13, .inl (cI, 1024, .inl f13))] (some (.int rr)) (fun w => w = [(a0, .inr (4, [.ref a1, .ref b0_1, .ref b0_2, .ref a6, .ref b0_4, .ref b0_5, .ref b0_6, .int x0_length, .int y0])), (a1, .inr (2, [.ref a2, .ref a3, .ref a4, .ref a5, .int x1_size])), (a2, .inl (cI, 10, .inl f2)), (a3, .inl (cI, 10, .inl f3)), (a4, .inl (cI, 10, .inl f4)), (a5, .inl (cI, 10, .inl f5)), (a6, .inr (1, [.ref a7, .ref a8, .ref a9, .ref a10, .ref a11, .ref a12, .ref a13, .int y1, .int y2, .int y3])), (a7, .inl (cI, 10, .inl y4)), (a8, .inl (cI, 10, .inl y5)), (a9, .inl (cI, 10, .inl y6)), (a10, .inl (cI, 10, .inl y7)), (a11, .inl (cI, 10, .inl y8)), (a12, .inl (cI, 10, .inl y9)), (a13, .inl (cI, 1024, .inl y10))]) 0 0 := by
  refine g_entry (cc := cX4_wrong) (nL := 3) (rt := (some .int)) (by decide) rfl (Nat.le_of_ble_eq_true rfl) ?_
  intro p e s m args below meth c A (X : GC p s m args c cX4_wrong 3 RX4 wsX4_wrong D (tyS cI cS cL) A) hr hlk _ _
  have h := hc
  unfold f_X4_wrong at h
  refine g_lv (lv' := [(0, .ref a0), (1, .int p1)]) [0, 1] rfl ?_
  refine g_iload_n X (j := 1) dX4_wrong_0 rfl ?_
  refine jn_g h (u0 ([(a0, .inr (4, [.ref a1, .ref b0_1, .ref b0_2, .ref a6, .ref b0_4, .ref b0_5, .ref b0_6, .int x0_length, .int x0_isReadingOld])), (a1, .inr (2, [.ref a2, .ref a3, .ref a4, .ref a5, .int x1_size])), (a2, .inl (cI, 10, .inl f2)), (a3, .inl (cI, 10, .inl f3)), (a4, .inl (cI, 10, .inl f4)), (a5, .inl (cI, 10, .inl f5)), (a6, .inr (1, [.ref a7, .ref a8, .ref a9, .ref a10, .ref a11, .ref a12, .ref a13, .int x6_areOrdersCounted, .int x6_isAnyOrder, .int x6_size])), (a7, .inl (cI, 10, .inl f7)), (a8, .inl (cI, 10, .inl f8)), (a9, .inl (cI, 10, .inl f9)), (a10, .inl (cI, 10, .inl f10)), (a11, .inl (cI, 10, .inl f11)), (a12, .inl (cI, 10, .inl f12)), (a13, .inl (cI, 1024, .inl f13))])) (u0 ([(0, .ref a0), (1, .int p1)])) (u0 ([])) 19 ?_ ?_
  · rintro ⟨⟩ h
    dsimp only [u0] at h ⊢
    refine g_aload_n X (j := 0) dX4_wrong_19 rfl ?_
    obtain ⟨o3, o4, o5, o6, o7, o8, o9, o10, o11, o12, hc, h⟩ := bd10 h
    refine g_callV (q0 := 0) (ci := 4) (is := [0, 1, 2, 3, 4, 5, 6, 7, 8, 9, 10, 11, 12]) (As := []) (ws' := [(a0, .inr (4, [.ref a1, .ref b0_1, .ref b0_2, .ref a6, .ref b0_4, .ref b0_5, .ref b0_6, .int x0_length, .int o3])), (a1, .inr (2, [.ref a2, .ref a3, .ref a4, .ref a5, .int x1_size])), (a2, .inl (cI, 10, .inl f2)), (a3, .inl (cI, 10, .inl f3)), (a4, .inl (cI, 10, .inl f4)), (a5, .inl (cI, 10, .inl f5)), (a6, .inr (1, [.ref a7, .ref a8, .ref a9, .ref a10, .ref a11, .ref a12, .ref a13, .int o4, .int o5, .int o6])), (a7, .inl (cI, 10, .inl o7)), (a8, .inl (cI, 10, .inl o8)), (a9, .inl (cI, 10, .inl o9)), (a10, .inl (cI, 10, .inl o10)), (a11, .inl (cI, 10, .inl o11)), (a12, .inl (cI, 10, .inl o12)), (a13, .inl (cI, 1024, .inl f13))]) (st := []) X (c_X4_currentReading l D cI cS cL a0 a1 a2 a3 a4 a5 a6 a7 a8 a9 a10 a11 a12 b0_1 b0_2 b0_4 b0_5 b0_6 a13 x0_length x0_isReadingOld x1_size f2 f3 f4 f5 x6_areOrdersCounted x6_isAnyOrder x6_size f7 f8 f9 f10 f11 f12 o3 o4 o5 o6 o7 o8 o9 o10 o11 o12 hc) gX4_wrong_X4_currentReading rfl ⟨rfl, rfl⟩ hd_X4_currentReading (by exact ⟨Nat.le_of_ble_eq_true rfl, Nat.le_of_ble_eq_true rfl⟩) ⟨Nat.zero_le _, Nat.zero_le _⟩ rfl rfl rfl rfl rfl rfl rfl (Nat.le_of_ble_eq_true rfl) rfl dX4_wrong_20 ?_
    obtain ⟨r13, o14, o15, hc, h⟩ := bd3 h
    refine g_callV (q0 := 6) (ci := 1) (is := [6, 7, 13]) (As := []) (ws' := [(a0, .inr (4, [.ref a1, .ref b0_1, .ref b0_2, .ref a6, .ref b0_4, .ref b0_5, .ref b0_6, .int x0_length, .int o3])), (a1, .inr (2, [.ref a2, .ref a3, .ref a4, .ref a5, .int x1_size])), (a2, .inl (cI, 10, .inl f2)), (a3, .inl (cI, 10, .inl f3)), (a4, .inl (cI, 10, .inl f4)), (a5, .inl (cI, 10, .inl f5)), (a6, .inr (1, [.ref a7, .ref a8, .ref a9, .ref a10, .ref a11, .ref a12, .ref a13, .int o14, .int o5, .int o6])), (a7, .inl (cI, 10, .inl o7)), (a8, .inl (cI, 10, .inl o8)), (a9, .inl (cI, 10, .inl o9)), (a10, .inl (cI, 10, .inl o10)), (a11, .inl (cI, 10, .inl o11)), (a12, .inl (cI, 10, .inl o12)), (a13, .inl (cI, 1024, .inl o15))]) (st := []) X (c_X1_leastWrongBooks l D cI cS cL a6 a7 a13 a8 a9 a10 a11 a12 o4 o5 o6 o7 f13 r13 o14 o15 hc) gX4_wrong_X1_leastWrongBooks rfl ⟨rfl, rfl⟩ hd_X1_leastWrongBooks (by exact ⟨Nat.le_of_ble_eq_true rfl, Nat.le_of_ble_eq_true rfl⟩) ⟨Nat.zero_le _, Nat.zero_le _⟩ rfl rfl rfl rfl rfl rfl rfl (Nat.le_of_ble_eq_true rfl) rfl dX4_wrong_23 ?_
    refine g_istore_n (lv' := [(2, .int r13), (0, .ref a0), (1, .int p1)]) X dX4_wrong_26 rfl (by decide) rfl ?_
    refine g_iload_n X (j := 2) dX4_wrong_27 rfl ?_
    refine jn_g h (u1 fun s16 => [(a0, .inr (4, [.ref a1, .ref b0_1, .ref b0_2, .ref a6, .ref b0_4, .ref b0_5, .ref b0_6, .int x0_length, .int o3])), (a1, .inr (2, [.ref a2, .ref a3, .ref a4, .ref a5, .int x1_size])), (a2, .inl (cI, 10, .inl f2)), (a3, .inl (cI, 10, .inl f3)), (a4, .inl (cI, 10, .inl f4)), (a5, .inl (cI, 10, .inl f5)), (a6, .inr (1, [.ref a7, .ref a8, .ref a9, .ref a10, .ref a11, .ref a12, .ref a13, .int o14, .int o5, .int o6])), (a7, .inl (cI, 10, .inl o7)), (a8, .inl (cI, 10, .inl o8)), (a9, .inl (cI, 10, .inl o9)), (a10, .inl (cI, 10, .inl o10)), (a11, .inl (cI, 10, .inl o11)), (a12, .inl (cI, 10, .inl o12)), (a13, .inl (cI, 1024, .inl o15))]) (u1 fun s16 => []) (u1 fun s16 => [.int s16]) 39 ?_ ?_
    · rintro s16 h
      dsimp only [u1] at h ⊢
      have h := Option.some.inj h
      simp only [Prod.mk.injEq] at h
      obtain ⟨rfl, rfl, rfl, rfl, rfl, rfl, rfl, rfl, rfl, rfl, rfl, rfl⟩ := h
      exact g_iret X hr hlk dX4_wrong_39 rfl rfl
    · intro K17 hK17 h
      refine g_if_ne (tgt := 38) X h dX4_wrong_28 (by decide) (fun h => ?_) (fun h => ?_)
      · refine g_iload_n X (j := 0) dX4_wrong_38 rfl ?_
        refine g_lv (lv' := []) [] rfl ?_
        exact hK17 r13 h
      · refine g_iload_n X (j := 0) dX4_wrong_31 rfl ?_
        obtain ⟨r18, hc, h⟩ := bd1 h
        refine g_callS0 (As := [.int r13]) (st := []) X (c_J6_bitCount_0f7a4 l D cI cS cL r13 r18 hc) gX4_wrong_J6_bitCount_0f7a4 rfl ⟨rfl, rfl⟩ hd_J6_bitCount_0f7a4.2 ⟨Nat.le_of_ble_eq_true rfl, Nat.le_of_ble_eq_true rfl⟩ ⟨Nat.zero_le _, Nat.zero_le _⟩ rfl (Nat.le_of_ble_eq_true rfl) rfl dX4_wrong_32 ?_
        refine g_goto (tgt := 39) X dX4_wrong_35 (by decide) ?_
        refine g_lv (lv' := []) [] rfl ?_
        exact hK17 r18 h
  · intro K1 hK1 h
    refine g_if_eq (tgt := 19) X h dX4_wrong_1 (by decide) (fun h => ?_) (fun h => ?_)
    · exact hK1 () h
    · refine g_iload_n X (j := 1) dX4_wrong_4 rfl ?_
      refine g_iconst (v := 1) X dX4_wrong_5 (by decide) ?_
      refine g_icmp_eq (tgt := 19) X h dX4_wrong_6 (by decide) (fun h => ?_) (fun h => ?_)
      · exact hK1 () h
      · cases h
def f_X4_tells (p1 : Int32) (x0_isReadingOld : Int32) (x1_size : Int32) (f2 : Nat → Int32) (f3 : Nat → Int32) (f4 : Nat → Int32) (f5 : Nat → Int32) (x6_size : Int32) (f7 : Nat → Int32) (f8 : Nat → Int32) (f9 : Nat → Int32) (f10 : Nat → Int32) (x11_areOrdersCounted : Int32) (x11_isAnyOrder : Int32) (x11_size : Int32) (f12 : Nat → Int32) (f13 : Nat → Int32) (f14 : Nat → Int32) (f15 : Nat → Int32) (f16 : Nat → Int32) (f17 : Nat → Int32) (f18 : Nat → Int32) (x19_areOrdersCounted : Int32) (x19_isAnyOrder : Int32) (x19_size : Int32) (f20 : Nat → Int32) (f21 : Nat → Int32) (f22 : Nat → Int32) (f23 : Nat → Int32) (f24 : Nat → Int32) (f25 : Nat → Int32) (f26 : Nat → Int32) : Option (Int32 × Int32 × Int32 × (Nat → Int32) × (Nat → Int32) × (Nat → Int32) × (Nat → Int32) × Int32 × Int32 × Int32 × (Nat → Int32) × (Nat → Int32) × (Nat → Int32) × (Nat → Int32) × (Nat → Int32) × (Nat → Int32) × (Nat → Int32) × Int32 × Int32 × Int32 × (Nat → Int32) × (Nat → Int32) × (Nat → Int32) × (Nat → Int32) × (Nat → Int32) × (Nat → Int32) × (Nat → Int32)) := (f_X4_isLetter p1).bind (u1 fun (r1 : Int32) => (if r1 = 0 then none else (f_X4_ordersWithoutLetter p1 x1_size f2 f3 f4 f5 x6_size f7 f8 f9 f10 x19_areOrdersCounted x19_isAnyOrder x19_size f20 f21 f22 f23 f24 f25 f26).bind (u16 fun (r2 : Int32) (o3 : Int32) (o4 : Nat → Int32) (o5 : Nat → Int32) (o6 : Nat → Int32) (o7 : Nat → Int32) (o8 : Int32) (o9 : Int32) (o10 : Int32) (o11 : Nat → Int32) (o12 : Nat → Int32) (o13 : Nat → Int32) (o14 : Nat → Int32) (o15 : Nat → Int32) (o16 : Nat → Int32) (o17 : Nat → Int32) => (f_X4_currentReading x0_isReadingOld x1_size f2 f3 f4 f5 x11_areOrdersCounted x11_isAnyOrder x11_size f12 f13 f14 f15 f16 f17).bind (u10 fun (o19 : Int32) (o20 : Int32) (o21 : Int32) (o22 : Int32) (o23 : Nat → Int32) (o24 : Nat → Int32) (o25 : Nat → Int32) (o26 : Nat → Int32) (o27 : Nat → Int32) (o28 : Nat → Int32) => (f_X1_orders o20 o21 o22 o23 f18).bind (u3 fun (r29 : Int32) (o30 : Int32) (o31 : Nat → Int32) => some ((r2 - r29), o19, o3, o4, o5, o6, o7, o30, o21, o22, o23, o24, o25, o26, o27, o28, o31, o8, o9, o10, o11, o12, o13, o14, o15, o16, o17))))))
theorem hd_X4_tells : yX4_tells.cls = RX4 ∧ yX4_tells.cls ≠ "java/lang/invoke/MethodHandle" ∧ yX4_tells.cls ≠ "java/lang/invoke/VarHandle" ∧ (parseMethodDescriptor yX4_tells.desc).map (fun d => d.parameters.length) = some 1 := by decide +kernel
set_option maxRecDepth 100000 in
set_option maxHeartbeats 4000000 in
theorem c_X4_tells (l : Launch) (D : va_G) (cI cS cL : ClassId) (a0 : Nat) (a1 : Nat) (a2 : Nat) (a3 : Nat) (a4 : Nat) (a5 : Nat) (a6 : Nat) (a7 : Nat) (a8 : Nat) (a9 : Nat) (a10 : Nat) (a11 : Nat) (a12 : Nat) (a13 : Nat) (a14 : Nat) (a15 : Nat) (a16 : Nat) (a17 : Nat) (a18 : Nat) (a19 : Nat) (a20 : Nat) (a21 : Nat) (a22 : Nat) (a23 : Nat) (a24 : Nat) (a25 : Nat) (a26 : Nat) (b0_2 : Nat) (b0_5 : Nat) (b0_6 : Nat) (p1 : Int32) (x0_length : Int32) (x0_isReadingOld : Int32) (x1_size : Int32) (f2 : Nat → Int32) (f3 : Nat → Int32) (f4 : Nat → Int32) (f5 : Nat → Int32) (x6_size : Int32) (f7 : Nat → Int32) (f8 : Nat → Int32) (f9 : Nat → Int32) (f10 : Nat → Int32) (x11_areOrdersCounted : Int32) (x11_isAnyOrder : Int32) (x11_size : Int32) (f12 : Nat → Int32) (f13 : Nat → Int32) (f14 : Nat → Int32) (f15 : Nat → Int32) (f16 : Nat → Int32) (f17 : Nat → Int32) (f18 : Nat → Int32) (x19_areOrdersCounted : Int32) (x19_isAnyOrder : Int32) (x19_size : Int32) (f20 : Nat → Int32) (f21 : Nat → Int32) (f22 : Nat → Int32) (f23 : Nat → Int32) (f24 : Nat → Int32) (f25 : Nat → Int32) (f26 : Nat → Int32) (rr : Int32) (y0 : Int32) (y1 : Int32) (y2 : Nat → Int32) (y3 : Nat → Int32) (y4 : Nat → Int32) (y5 : Nat → Int32) (y6 : Int32) (y7 : Int32) (y8 : Int32) (y9 : Nat → Int32) (y10 : Nat → Int32) (y11 : Nat → Int32) (y12 : Nat → Int32) (y13 : Nat → Int32) (y14 : Nat → Int32) (y15 : Nat → Int32) (y16 : Int32) (y17 : Int32) (y18 : Int32) (y19 : Nat → Int32) (y20 : Nat → Int32) (y21 : Nat → Int32) (y22 : Nat → Int32) (y23 : Nat → Int32) (y24 : Nat → Int32) (y25 : Nat → Int32) (hc : f_X4_tells p1 x0_isReadingOld x1_size f2 f3 f4 f5 x6_size f7 f8 f9 f10 x11_areOrdersCounted x11_isAnyOrder x11_size f12 f13 f14 f15 f16 f17 f18 x19_areOrdersCounted x19_isAnyOrder x19_size f20 f21 f22 f23 f24 f25 f26 = some (rr, y0, y1, y2, y3, y4, y5, y6, y7, y8, y9, y10, y11, y12, y13, y14, y15, y16, y17, y18, y19, y20, y21, y22, y23, y24, y25)) : KM l yX4_tells wsX4_tells { frames := 5, cells := 0, slots := 0, locals := 107 } D (tyS cI cS cL) [.ref a0, .int p1] [(a0, .inr (4, [.ref a1, .ref a6, .ref b0_2, .ref a11, .ref a19, .ref b0_5, .ref b0_6, .int x0_length, .int x0_isReadingOld])), (a1, .inr (2, [.ref a2, .ref a3, .ref a4, .ref a5, .int x1_size])), (a2, .inl (cI, 10, .inl f2)), (a3, .inl (cI, 10, .inl f3)), (a4, .inl (cI, 10, .inl f4)), (a5, .inl (cI, 10, .inl f5)), (a6, .inr (2, [.ref a7, .ref a8, .ref a9, .ref a10, .int x6_size])), (a7, .inl (cI, 10, .inl f7)), (a8, .inl (cI, 10, .inl f8)), (a9, .inl (cI, 10, .inl f9)), (a10, .inl (cI, 10, .inl f10)), (a11, .inr (1, [.ref a12, .ref a13, .ref a14, .ref a15, .ref a16, .ref a17, .ref a18, .int x11_areOrdersCounted, .int x11_isAnyOrder, .int x11_size])), (a12, .inl (cI, 10, .inl f12)), (a13, .inl (cI, 10, .inl f13)), (a14, .inl (cI, 10, .inl f14)), (a15, .inl (cI, 10, .inl f15)), (a16, .inl (cI, 10, .inl f16)), (a17, .inl (cI, 10, .inl f17)), (a18, .inl (cI, 1024, .inl f18)), (a19, .inr (1, [.ref a20, .ref a21, .ref a22, .ref a23, .ref a24, .ref a25, .ref a26, .int x19_areOrdersCounted, .int x19_isAnyOrder, .int x19_size])), (a20, .inl (cI, 10, .inl f20)), (a21, .inl (cI, 10, .inl f21)), (a22, .inl (cI, 10, .inl f22)), (a23, .inl (cI, 10, .inl f23)), (a24, .inl (cI, 10, .inl f24)), (a25, .inl (cI, 10, .inl f25)), (a26, .inl (cI, 1024, .inl f26))] (some (.int rr)) (fun w => w = [(a0, .inr (4, [.ref a1, .ref a6, .ref b0_2, .ref a11, .ref a19, .ref b0_5, .ref b0_6, .int x0_length, .int y0])), (a1, .inr (2, [.ref a2, .ref a3, .ref a4, .ref a5, .int x1_size])), (a2, .inl (cI, 10, .inl f2)), (a3, .inl (cI, 10, .inl f3)), (a4, .inl (cI, 10, .inl f4)), (a5, .inl (cI, 10, .inl f5)), (a6, .inr (2, [.ref a7, .ref a8, .ref a9, .ref a10, .int y1])), (a7, .inl (cI, 10, .inl y2)), (a8, .inl (cI, 10, .inl y3)), (a9, .inl (cI, 10, .inl y4)), (a10, .inl (cI, 10, .inl y5)), (a11, .inr (1, [.ref a12, .ref a13, .ref a14, .ref a15, .ref a16, .ref a17, .ref a18, .int y6, .int y7, .int y8])), (a12, .inl (cI, 10, .inl y9)), (a13, .inl (cI, 10, .inl y10)), (a14, .inl (cI, 10, .inl y11)), (a15, .inl (cI, 10, .inl y12)), (a16, .inl (cI, 10, .inl y13)), (a17, .inl (cI, 10, .inl y14)), (a18, .inl (cI, 1024, .inl y15)), (a19, .inr (1, [.ref a20, .ref a21, .ref a22, .ref a23, .ref a24, .ref a25, .ref a26, .int y16, .int y17, .int y18])), (a20, .inl (cI, 10, .inl y19)), (a21, .inl (cI, 10, .inl y20)), (a22, .inl (cI, 10, .inl y21)), (a23, .inl (cI, 10, .inl y22)), (a24, .inl (cI, 10, .inl y23)), (a25, .inl (cI, 10, .inl y24)), (a26, .inl (cI, 1024, .inl y25))]) 0 0 := by
  refine g_entry (cc := cX4_tells) (nL := 2) (rt := (some .int)) (by decide) rfl (Nat.le_of_ble_eq_true rfl) ?_
  intro p e s m args below meth c A (X : GC p s m args c cX4_tells 2 RX4 wsX4_tells D (tyS cI cS cL) A) hr hlk _ _
  have h := hc
  unfold f_X4_tells at h
  refine g_lv (lv' := [(0, .ref a0), (1, .int p1)]) [0, 1] rfl ?_
  refine g_iload_n X (j := 1) dX4_tells_0 rfl ?_
  obtain ⟨r1, hc, h⟩ := bd1 h
  refine g_callS0 (As := [.int p1]) (st := []) X (c_X4_isLetter l D cI cS cL p1 r1 hc) gX4_tells_X4_isLetter rfl ⟨rfl, rfl⟩ hd_X4_isLetter.2 ⟨Nat.le_of_ble_eq_true rfl, Nat.le_of_ble_eq_true rfl⟩ ⟨Nat.zero_le _, Nat.zero_le _⟩ rfl (Nat.le_of_ble_eq_true rfl) rfl dX4_tells_1 ?_
  refine g_if_ne (tgt := 17) X h dX4_tells_4 (by decide) (fun h => ?_) (fun h => ?_)
  · refine g_aload_n X (j := 0) dX4_tells_17 rfl ?_
    refine g_iload_n X (j := 1) dX4_tells_18 rfl ?_
    obtain ⟨r2, o3, o4, o5, o6, o7, o8, o9, o10, o11, o12, o13, o14, o15, o16, o17, hc, h⟩ := bd16 h
    refine g_callVF (q0 := 0) (ci := 4) (is := [0, 1, 2, 3, 4, 5, 6, 7, 8, 9, 10, 19, 20, 21, 22, 23, 24, 25, 26]) (isR := [11, 12, 13, 14, 15, 16, 17, 18]) (wr := [(a11, .inr (1, [.ref a12, .ref a13, .ref a14, .ref a15, .ref a16, .ref a17, .ref a18, .int x11_areOrdersCounted, .int x11_isAnyOrder, .int x11_size])), (a12, .inl (cI, 10, .inl f12)), (a13, .inl (cI, 10, .inl f13)), (a14, .inl (cI, 10, .inl f14)), (a15, .inl (cI, 10, .inl f15)), (a16, .inl (cI, 10, .inl f16)), (a17, .inl (cI, 10, .inl f17)), (a18, .inl (cI, 1024, .inl f18))]) (As := [.int p1]) (st := []) X (c_X4_ordersWithoutLetter l D cI cS cL a0 a1 a2 a3 a4 a5 a6 a7 a8 a9 a10 a19 a20 a21 a22 a23 a24 a25 a26 b0_2 a11 b0_5 b0_6 p1 x0_length x0_isReadingOld x1_size f2 f3 f4 f5 x6_size f7 f8 f9 f10 x19_areOrdersCounted x19_isAnyOrder x19_size f20 f21 f22 f23 f24 f25 f26 r2 o3 o4 o5 o6 o7 o8 o9 o10 o11 o12 o13 o14 o15 o16 o17 hc) gX4_tells_X4_ordersWithoutLetter rfl ⟨rfl, rfl⟩ hd_X4_ordersWithoutLetter (by exact ⟨Nat.le_of_ble_eq_true rfl, Nat.le_of_ble_eq_true rfl⟩) ⟨Nat.zero_le _, Nat.zero_le _⟩ rfl rfl rfl (by decide +kernel) rfl (by decide +kernel) (by decide +kernel) rfl (Nat.le_of_ble_eq_true rfl) rfl dX4_tells_19 ?_
    rintro _ rfl
    refine g_ws (ws' := [(a0, .inr (4, [.ref a1, .ref a6, .ref b0_2, .ref a11, .ref a19, .ref b0_5, .ref b0_6, .int x0_length, .int x0_isReadingOld])), (a1, .inr (2, [.ref a2, .ref a3, .ref a4, .ref a5, .int x1_size])), (a2, .inl (cI, 10, .inl f2)), (a3, .inl (cI, 10, .inl f3)), (a4, .inl (cI, 10, .inl f4)), (a5, .inl (cI, 10, .inl f5)), (a6, .inr (2, [.ref a7, .ref a8, .ref a9, .ref a10, .int o3])), (a7, .inl (cI, 10, .inl o4)), (a8, .inl (cI, 10, .inl o5)), (a9, .inl (cI, 10, .inl o6)), (a10, .inl (cI, 10, .inl o7)), (a11, .inr (1, [.ref a12, .ref a13, .ref a14, .ref a15, .ref a16, .ref a17, .ref a18, .int x11_areOrdersCounted, .int x11_isAnyOrder, .int x11_size])), (a12, .inl (cI, 10, .inl f12)), (a13, .inl (cI, 10, .inl f13)), (a14, .inl (cI, 10, .inl f14)), (a15, .inl (cI, 10, .inl f15)), (a16, .inl (cI, 10, .inl f16)), (a17, .inl (cI, 10, .inl f17)), (a18, .inl (cI, 1024, .inl f18)), (a19, .inr (1, [.ref a20, .ref a21, .ref a22, .ref a23, .ref a24, .ref a25, .ref a26, .int o8, .int o9, .int o10])), (a20, .inl (cI, 10, .inl o11)), (a21, .inl (cI, 10, .inl o12)), (a22, .inl (cI, 10, .inl o13)), (a23, .inl (cI, 10, .inl o14)), (a24, .inl (cI, 10, .inl o15)), (a25, .inl (cI, 10, .inl o16)), (a26, .inl (cI, 1024, .inl o17))]) [8, 9, 10, 11, 12, 13, 14, 15, 16, 17, 18, 0, 1, 2, 3, 4, 5, 6, 7, 19, 20, 21, 22, 23, 24, 25, 26] rfl (by decide +kernel) ?_
    refine g_aload_n X (j := 0) dX4_tells_22 rfl ?_
    obtain ⟨o19, o20, o21, o22, o23, o24, o25, o26, o27, o28, hc, h⟩ := bd10 h
    refine g_callV (q0 := 0) (ci := 4) (is := [0, 1, 2, 3, 4, 5, 11, 12, 13, 14, 15, 16, 17]) (As := []) (ws' := [(a0, .inr (4, [.ref a1, .ref a6, .ref b0_2, .ref a11, .ref a19, .ref b0_5, .ref b0_6, .int x0_length, .int o19])), (a1, .inr (2, [.ref a2, .ref a3, .ref a4, .ref a5, .int x1_size])), (a2, .inl (cI, 10, .inl f2)), (a3, .inl (cI, 10, .inl f3)), (a4, .inl (cI, 10, .inl f4)), (a5, .inl (cI, 10, .inl f5)), (a6, .inr (2, [.ref a7, .ref a8, .ref a9, .ref a10, .int o3])), (a7, .inl (cI, 10, .inl o4)), (a8, .inl (cI, 10, .inl o5)), (a9, .inl (cI, 10, .inl o6)), (a10, .inl (cI, 10, .inl o7)), (a11, .inr (1, [.ref a12, .ref a13, .ref a14, .ref a15, .ref a16, .ref a17, .ref a18, .int o20, .int o21, .int o22])), (a12, .inl (cI, 10, .inl o23)), (a13, .inl (cI, 10, .inl o24)), (a14, .inl (cI, 10, .inl o25)), (a15, .inl (cI, 10, .inl o26)), (a16, .inl (cI, 10, .inl o27)), (a17, .inl (cI, 10, .inl o28)), (a18, .inl (cI, 1024, .inl f18)), (a19, .inr (1, [.ref a20, .ref a21, .ref a22, .ref a23, .ref a24, .ref a25, .ref a26, .int o8, .int o9, .int o10])), (a20, .inl (cI, 10, .inl o11)), (a21, .inl (cI, 10, .inl o12)), (a22, .inl (cI, 10, .inl o13)), (a23, .inl (cI, 10, .inl o14)), (a24, .inl (cI, 10, .inl o15)), (a25, .inl (cI, 10, .inl o16)), (a26, .inl (cI, 1024, .inl o17))]) (st := [.int r2]) X (c_X4_currentReading l D cI cS cL a0 a1 a2 a3 a4 a5 a11 a12 a13 a14 a15 a16 a17 a6 b0_2 a19 b0_5 b0_6 a18 x0_length x0_isReadingOld x1_size f2 f3 f4 f5 x11_areOrdersCounted x11_isAnyOrder x11_size f12 f13 f14 f15 f16 f17 o19 o20 o21 o22 o23 o24 o25 o26 o27 o28 hc) gX4_tells_X4_currentReading rfl ⟨rfl, rfl⟩ hd_X4_currentReading (by exact ⟨Nat.le_of_ble_eq_true rfl, Nat.le_of_ble_eq_true rfl⟩) ⟨Nat.zero_le _, Nat.zero_le _⟩ rfl rfl rfl rfl rfl rfl rfl (Nat.le_of_ble_eq_true rfl) rfl dX4_tells_23 ?_
    obtain ⟨r29, o30, o31, hc, h⟩ := bd3 h
    refine g_callV (q0 := 11) (ci := 1) (is := [11, 12, 18]) (As := []) (ws' := [(a0, .inr (4, [.ref a1, .ref a6, .ref b0_2, .ref a11, .ref a19, .ref b0_5, .ref b0_6, .int x0_length, .int o19])), (a1, .inr (2, [.ref a2, .ref a3, .ref a4, .ref a5, .int x1_size])), (a2, .inl (cI, 10, .inl f2)), (a3, .inl (cI, 10, .inl f3)), (a4, .inl (cI, 10, .inl f4)), (a5, .inl (cI, 10, .inl f5)), (a6, .inr (2, [.ref a7, .ref a8, .ref a9, .ref a10, .int o3])), (a7, .inl (cI, 10, .inl o4)), (a8, .inl (cI, 10, .inl o5)), (a9, .inl (cI, 10, .inl o6)), (a10, .inl (cI, 10, .inl o7)), (a11, .inr (1, [.ref a12, .ref a13, .ref a14, .ref a15, .ref a16, .ref a17, .ref a18, .int o30, .int o21, .int o22])), (a12, .inl (cI, 10, .inl o23)), (a13, .inl (cI, 10, .inl o24)), (a14, .inl (cI, 10, .inl o25)), (a15, .inl (cI, 10, .inl o26)), (a16, .inl (cI, 10, .inl o27)), (a17, .inl (cI, 10, .inl o28)), (a18, .inl (cI, 1024, .inl o31)), (a19, .inr (1, [.ref a20, .ref a21, .ref a22, .ref a23, .ref a24, .ref a25, .ref a26, .int o8, .int o9, .int o10])), (a20, .inl (cI, 10, .inl o11)), (a21, .inl (cI, 10, .inl o12)), (a22, .inl (cI, 10, .inl o13)), (a23, .inl (cI, 10, .inl o14)), (a24, .inl (cI, 10, .inl o15)), (a25, .inl (cI, 10, .inl o16)), (a26, .inl (cI, 1024, .inl o17))]) (st := [.int r2]) X (c_X1_orders l D cI cS cL a11 a12 a18 a13 a14 a15 a16 a17 o20 o21 o22 o23 f18 r29 o30 o31 hc) gX4_tells_X1_orders rfl ⟨rfl, rfl⟩ hd_X1_orders (by exact ⟨Nat.le_of_ble_eq_true rfl, Nat.le_of_ble_eq_true rfl⟩) ⟨Nat.zero_le _, Nat.zero_le _⟩ rfl rfl rfl rfl rfl rfl rfl (Nat.le_of_ble_eq_true rfl) rfl dX4_tells_26 ?_
    refine g_isub X dX4_tells_29 ?_
    have h := Option.some.inj h
    simp only [Prod.mk.injEq] at h
    obtain ⟨rfl, rfl, rfl, rfl, rfl, rfl, rfl, rfl, rfl, rfl, rfl, rfl, rfl, rfl, rfl, rfl, rfl, rfl, rfl, rfl, rfl, rfl, rfl, rfl, rfl, rfl, rfl⟩ := h
    exact g_iret X hr hlk dX4_tells_30 rfl rfl
  · cases h
def f_X4_ifYear (p1 : Int32) (p2 : Int32) (p3 : Int32) (x1_size : Int32) (f2 : Nat → Int32) (f3 : Nat → Int32) (f4 : Nat → Int32) (f5 : Nat → Int32) (x6_size : Int32) (f7 : Nat → Int32) (f8 : Nat → Int32) (f9 : Nat → Int32) (f10 : Nat → Int32) (x11_areOrdersCounted : Int32) (x11_isAnyOrder : Int32) (x11_size : Int32) (f12 : Nat → Int32) (f13 : Nat → Int32) (f14 : Nat → Int32) (f15 : Nat → Int32) (f16 : Nat → Int32) (f17 : Nat → Int32) (f18 : Nat → Int32) : Option (Int32 × Int32 × (Nat → Int32) × (Nat → Int32) × (Nat → Int32) × (Nat → Int32) × Int32 × Int32 × Int32 × (Nat → Int32) × (Nat → Int32) × (Nat → Int32) × (Nat → Int32) × (Nat → Int32) × (Nat → Int32) × (Nat → Int32)) := (f_X4_isBook p1 x1_size).bind (u1 fun (r1 : Int32) => (if r1 = 0 then none else (f_X4_isYear p2).bind (u1 fun (r2 : Int32) => (jn (u0 (none)) (fun K3 => (if r2 = 0 then K3 () else (jn (u0 ((f_X4_numberIfYear p1 p2 p3 x1_size f2 f3 f4 f5 x6_size f7 f8 f9 f10 x11_areOrdersCounted x11_isAnyOrder x11_size f12 f13 f14 f15 f16 f17 f18).bind (u16 fun (r5 : Int32) (o6 : Int32) (o7 : Nat → Int32) (o8 : Nat → Int32) (o9 : Nat → Int32) (o10 : Nat → Int32) (o11 : Int32) (o12 : Int32) (o13 : Int32) (o14 : Nat → Int32) (o15 : Nat → Int32) (o16 : Nat → Int32) (o17 : Nat → Int32) (o18 : Nat → Int32) (o19 : Nat → Int32) (o20 : Nat → Int32) => some (r5, o6, o7, o8, o9, o10, o11, o12, o13, o14, o15, o16, o17, o18, o19, o20)))) (fun K4 => (if p3 = 0 then K4 () else (if p3 = 1 then K4 () else K3 ()))))))))))
theorem hd_X4_ifYear : yX4_ifYear.cls = RX4 ∧ yX4_ifYear.cls ≠ "java/lang/invoke/MethodHandle" ∧ yX4_ifYear.cls ≠ "java/lang/invoke/VarHandle" ∧ (parseMethodDescriptor yX4_ifYear.desc).map (fun d => d.parameters.length) = some 3 := by decide +kernel
set_option maxRecDepth 100000 in
set_option maxHeartbeats 4000000 in
theorem c_X4_ifYear (l : Launch) (D : va_G) (cI cS cL : ClassId) (a0 : Nat) (a1 : Nat) (a2 : Nat) (a3 : Nat) (a4 : Nat) (a5 : Nat) (a6 : Nat) (a7 : Nat) (a8 : Nat) (a9 : Nat) (a10 : Nat) (a11 : Nat) (a12 : Nat) (a13 : Nat) (a14 : Nat) (a15 : Nat) (a16 : Nat) (a17 : Nat) (a18 : Nat) (b0_2 : Nat) (b0_3 : Nat) (b0_5 : Nat) (b0_6 : Nat) (p1 : Int32) (p2 : Int32) (p3 : Int32) (x0_length : Int32) (x0_isReadingOld : Int32) (x1_size : Int32) (f2 : Nat → Int32) (f3 : Nat → Int32) (f4 : Nat → Int32) (f5 : Nat → Int32) (x6_size : Int32) (f7 : Nat → Int32) (f8 : Nat → Int32) (f9 : Nat → Int32) (f10 : Nat → Int32) (x11_areOrdersCounted : Int32) (x11_isAnyOrder : Int32) (x11_size : Int32) (f12 : Nat → Int32) (f13 : Nat → Int32) (f14 : Nat → Int32) (f15 : Nat → Int32) (f16 : Nat → Int32) (f17 : Nat → Int32) (f18 : Nat → Int32) (rr : Int32) (y0 : Int32) (y1 : Nat → Int32) (y2 : Nat → Int32) (y3 : Nat → Int32) (y4 : Nat → Int32) (y5 : Int32) (y6 : Int32) (y7 : Int32) (y8 : Nat → Int32) (y9 : Nat → Int32) (y10 : Nat → Int32) (y11 : Nat → Int32) (y12 : Nat → Int32) (y13 : Nat → Int32) (y14 : Nat → Int32) (hc : f_X4_ifYear p1 p2 p3 x1_size f2 f3 f4 f5 x6_size f7 f8 f9 f10 x11_areOrdersCounted x11_isAnyOrder x11_size f12 f13 f14 f15 f16 f17 f18 = some (rr, y0, y1, y2, y3, y4, y5, y6, y7, y8, y9, y10, y11, y12, y13, y14)) : KM l yX4_ifYear wsX4_ifYear { frames := 5, cells := 0, slots := 0, locals := 108 } D (tyS cI cS cL) [.ref a0, .int p1, .int p2, .int p3] [(a0, .inr (4, [.ref a1, .ref a6, .ref b0_2, .ref b0_3, .ref a11, .ref b0_5, .ref b0_6, .int x0_length, .int x0_isReadingOld])), (a1, .inr (2, [.ref a2, .ref a3, .ref a4, .ref a5, .int x1_size])), (a2, .inl (cI, 10, .inl f2)), (a3, .inl (cI, 10, .inl f3)), (a4, .inl (cI, 10, .inl f4)), (a5, .inl (cI, 10, .inl f5)), (a6, .inr (2, [.ref a7, .ref a8, .ref a9, .ref a10, .int x6_size])), (a7, .inl (cI, 10, .inl f7)), (a8, .inl (cI, 10, .inl f8)), (a9, .inl (cI, 10, .inl f9)), (a10, .inl (cI, 10, .inl f10)), (a11, .inr (1, [.ref a12, .ref a13, .ref a14, .ref a15, .ref a16, .ref a17, .ref a18, .int x11_areOrdersCounted, .int x11_isAnyOrder, .int x11_size])), (a12, .inl (cI, 10, .inl f12)), (a13, .inl (cI, 10, .inl f13)), (a14, .inl (cI, 10, .inl f14)), (a15, .inl (cI, 10, .inl f15)), (a16, .inl (cI, 10, .inl f16)), (a17, .inl (cI, 10, .inl f17)), (a18, .inl (cI, 1024, .inl f18))] (some (.int rr)) (fun w => w = [(a0, .inr (4, [.ref a1, .ref a6, .ref b0_2, .ref b0_3, .ref a11, .ref b0_5, .ref b0_6, .int x0_length, .int x0_isReadingOld])), (a1, .inr (2, [.ref a2, .ref a3, .ref a4, .ref a5, .int x1_size])), (a2, .inl (cI, 10, .inl f2)), (a3, .inl (cI, 10, .inl f3)), (a4, .inl (cI, 10, .inl f4)), (a5, .inl (cI, 10, .inl f5)), (a6, .inr (2, [.ref a7, .ref a8, .ref a9, .ref a10, .int y0])), (a7, .inl (cI, 10, .inl y1)), (a8, .inl (cI, 10, .inl y2)), (a9, .inl (cI, 10, .inl y3)), (a10, .inl (cI, 10, .inl y4)), (a11, .inr (1, [.ref a12, .ref a13, .ref a14, .ref a15, .ref a16, .ref a17, .ref a18, .int y5, .int y6, .int y7])), (a12, .inl (cI, 10, .inl y8)), (a13, .inl (cI, 10, .inl y9)), (a14, .inl (cI, 10, .inl y10)), (a15, .inl (cI, 10, .inl y11)), (a16, .inl (cI, 10, .inl y12)), (a17, .inl (cI, 10, .inl y13)), (a18, .inl (cI, 1024, .inl y14))]) 0 0 := by
  refine g_entry (cc := cX4_ifYear) (nL := 4) (rt := (some .int)) (by decide) rfl (Nat.le_of_ble_eq_true rfl) ?_
  intro p e s m args below meth c A (X : GC p s m args c cX4_ifYear 4 RX4 wsX4_ifYear D (tyS cI cS cL) A) hr hlk _ _
  have h := hc
  unfold f_X4_ifYear at h
  refine g_lv (lv' := [(0, .ref a0), (1, .int p1), (2, .int p2), (3, .int p3)]) [0, 1, 2, 3] rfl ?_
  refine g_aload_n X (j := 0) dX4_ifYear_0 rfl ?_
  refine g_iload_n X (j := 1) dX4_ifYear_1 rfl ?_
  obtain ⟨r1, hc, h⟩ := bd1 h
  refine g_callV (q0 := 0) (ci := 4) (is := [0, 1]) (As := [.int p1]) (ws' := [(a0, .inr (4, [.ref a1, .ref a6, .ref b0_2, .ref b0_3, .ref a11, .ref b0_5, .ref b0_6, .int x0_length, .int x0_isReadingOld])), (a1, .inr (2, [.ref a2, .ref a3, .ref a4, .ref a5, .int x1_size])), (a2, .inl (cI, 10, .inl f2)), (a3, .inl (cI, 10, .inl f3)), (a4, .inl (cI, 10, .inl f4)), (a5, .inl (cI, 10, .inl f5)), (a6, .inr (2, [.ref a7, .ref a8, .ref a9, .ref a10, .int x6_size])), (a7, .inl (cI, 10, .inl f7)), (a8, .inl (cI, 10, .inl f8)), (a9, .inl (cI, 10, .inl f9)), (a10, .inl (cI, 10, .inl f10)), (a11, .inr (1, [.ref a12, .ref a13, .ref a14, .ref a15, .ref a16, .ref a17, .ref a18, .int x11_areOrdersCounted, .int x11_isAnyOrder, .int x11_size])), (a12, .inl (cI, 10, .inl f12)), (a13, .inl (cI, 10, .inl f13)), (a14, .inl (cI, 10, .inl f14)), (a15, .inl (cI, 10, .inl f15)), (a16, .inl (cI, 10, .inl f16)), (a17, .inl (cI, 10, .inl f17)), (a18, .inl (cI, 1024, .inl f18))]) (st := []) X (c_X4_isBook l D cI cS cL a0 a1 a6 b0_2 b0_3 a11 b0_5 b0_6 a2 a3 a4 a5 p1 x0_length x0_isReadingOld x1_size r1 hc) gX4_ifYear_X4_isBook rfl ⟨rfl, rfl⟩ hd_X4_isBook (by exact ⟨Nat.le_of_ble_eq_true rfl, Nat.le_of_ble_eq_true rfl⟩) ⟨Nat.zero_le _, Nat.zero_le _⟩ rfl rfl rfl rfl rfl rfl rfl (Nat.le_of_ble_eq_true rfl) rfl dX4_ifYear_2 ?_
  refine g_if_ne (tgt := 18) X h dX4_ifYear_5 (by decide) (fun h => ?_) (fun h => ?_)
  · refine g_iload_n X (j := 2) dX4_ifYear_18 rfl ?_
    obtain ⟨r2, hc, h⟩ := bd1 h
    refine g_callS0 (As := [.int p2]) (st := []) X (c_X4_isYear l D cI cS cL p2 r2 hc) gX4_ifYear_X4_isYear rfl ⟨rfl, rfl⟩ hd_X4_isYear.2 ⟨Nat.le_of_ble_eq_true rfl, Nat.le_of_ble_eq_true rfl⟩ ⟨Nat.zero_le _, Nat.zero_le _⟩ rfl (Nat.le_of_ble_eq_true rfl) rfl dX4_ifYear_19 ?_
    refine jn_g h (u0 ([(a0, .inr (4, [.ref a1, .ref a6, .ref b0_2, .ref b0_3, .ref a11, .ref b0_5, .ref b0_6, .int x0_length, .int x0_isReadingOld])), (a1, .inr (2, [.ref a2, .ref a3, .ref a4, .ref a5, .int x1_size])), (a2, .inl (cI, 10, .inl f2)), (a3, .inl (cI, 10, .inl f3)), (a4, .inl (cI, 10, .inl f4)), (a5, .inl (cI, 10, .inl f5)), (a6, .inr (2, [.ref a7, .ref a8, .ref a9, .ref a10, .int x6_size])), (a7, .inl (cI, 10, .inl f7)), (a8, .inl (cI, 10, .inl f8)), (a9, .inl (cI, 10, .inl f9)), (a10, .inl (cI, 10, .inl f10)), (a11, .inr (1, [.ref a12, .ref a13, .ref a14, .ref a15, .ref a16, .ref a17, .ref a18, .int x11_areOrdersCounted, .int x11_isAnyOrder, .int x11_size])), (a12, .inl (cI, 10, .inl f12)), (a13, .inl (cI, 10, .inl f13)), (a14, .inl (cI, 10, .inl f14)), (a15, .inl (cI, 10, .inl f15)), (a16, .inl (cI, 10, .inl f16)), (a17, .inl (cI, 10, .inl f17)), (a18, .inl (cI, 1024, .inl f18))])) (u0 ([])) (u0 ([])) 34 ?_ ?_
    · rintro ⟨⟩ h
      dsimp only [u0] at h ⊢
      cases h
    · intro K3 hK3 h
      refine g_if_eq (tgt := 34) X h dX4_ifYear_22 (by decide) (fun h => ?_) (fun h => ?_)
      · refine g_lv (lv' := []) [] rfl ?_
        exact hK3 () h
      · refine g_iload_n X (j := 3) dX4_ifYear_25 rfl ?_
        refine jn_g h (u0 ([(a0, .inr (4, [.ref a1, .ref a6, .ref b0_2, .ref b0_3, .ref a11, .ref b0_5, .ref b0_6, .int x0_length, .int x0_isReadingOld])), (a1, .inr (2, [.ref a2, .ref a3, .ref a4, .ref a5, .int x1_size])), (a2, .inl (cI, 10, .inl f2)), (a3, .inl (cI, 10, .inl f3)), (a4, .inl (cI, 10, .inl f4)), (a5, .inl (cI, 10, .inl f5)), (a6, .inr (2, [.ref a7, .ref a8, .ref a9, .ref a10, .int x6_size])), (a7, .inl (cI, 10, .inl f7)), (a8, .inl (cI, 10, .inl f8)), (a9, .inl (cI, 10, .inl f9)), (a10, .inl (cI, 10, .inl f10)), (a11, .inr (1, [.ref a12, .ref a13, .ref a14, .ref a15, .ref a16, .ref a17, .ref a18, .int x11_areOrdersCounted, .int x11_isAnyOrder, .int x11_size])), (a12, .inl (cI, 10, .inl f12)), (a13, .inl (cI, 10, .inl f13)), (a14, .inl (cI, 10, .inl f14)), (a15, .inl (cI, 10, .inl f15)), (a16, .inl (cI, 10, .inl f16)), (a17, .inl (cI, 10, .inl f17)), (a18, .inl (cI, 1024, .inl f18))])) (u0 ([(0, .ref a0), (1, .int p1), (2, .int p2), (3, .int p3)])) (u0 ([])) 44 ?_ ?_
        · rintro ⟨⟩ h
          dsimp only [u0] at h ⊢
          refine g_aload_n X (j := 0) dX4_ifYear_44 rfl ?_
          refine g_iload_n X (j := 1) dX4_ifYear_45 rfl ?_
          refine g_iload_n X (j := 2) dX4_ifYear_46 rfl ?_
          refine g_iload_n X (j := 3) dX4_ifYear_47 rfl ?_
          obtain ⟨r5, o6, o7, o8, o9, o10, o11, o12, o13, o14, o15, o16, o17, o18, o19, o20, hc, h⟩ := bd16 h
          refine g_callVF (q0 := 0) (ci := 4) (is := [0, 1, 2, 3, 4, 5, 6, 7, 8, 9, 10, 11, 12, 13, 14, 15, 16, 17, 18]) (isR := []) (wr := []) (As := [.int p1, .int p2, .int p3]) (st := []) X (c_X4_numberIfYear l D cI cS cL a0 a1 a2 a3 a4 a5 a6 a7 a8 a9 a10 a11 a12 a13 a14 a15 a16 a17 a18 b0_2 b0_3 b0_5 b0_6 p1 p2 p3 x0_length x0_isReadingOld x1_size f2 f3 f4 f5 x6_size f7 f8 f9 f10 x11_areOrdersCounted x11_isAnyOrder x11_size f12 f13 f14 f15 f16 f17 f18 r5 o6 o7 o8 o9 o10 o11 o12 o13 o14 o15 o16 o17 o18 o19 o20 hc) gX4_ifYear_X4_numberIfYear rfl ⟨rfl, rfl⟩ hd_X4_numberIfYear (by exact ⟨Nat.le_of_ble_eq_true rfl, Nat.le_of_ble_eq_true rfl⟩) ⟨Nat.zero_le _, Nat.zero_le _⟩ rfl rfl rfl (by decide +kernel) rfl (by decide +kernel) (by decide +kernel) rfl (Nat.le_of_ble_eq_true rfl) rfl dX4_ifYear_48 ?_
          rintro _ rfl
          refine g_ws (ws' := [(a0, .inr (4, [.ref a1, .ref a6, .ref b0_2, .ref b0_3, .ref a11, .ref b0_5, .ref b0_6, .int x0_length, .int x0_isReadingOld])), (a1, .inr (2, [.ref a2, .ref a3, .ref a4, .ref a5, .int x1_size])), (a2, .inl (cI, 10, .inl f2)), (a3, .inl (cI, 10, .inl f3)), (a4, .inl (cI, 10, .inl f4)), (a5, .inl (cI, 10, .inl f5)), (a6, .inr (2, [.ref a7, .ref a8, .ref a9, .ref a10, .int o6])), (a7, .inl (cI, 10, .inl o7)), (a8, .inl (cI, 10, .inl o8)), (a9, .inl (cI, 10, .inl o9)), (a10, .inl (cI, 10, .inl o10)), (a11, .inr (1, [.ref a12, .ref a13, .ref a14, .ref a15, .ref a16, .ref a17, .ref a18, .int o11, .int o12, .int o13])), (a12, .inl (cI, 10, .inl o14)), (a13, .inl (cI, 10, .inl o15)), (a14, .inl (cI, 10, .inl o16)), (a15, .inl (cI, 10, .inl o17)), (a16, .inl (cI, 10, .inl o18)), (a17, .inl (cI, 10, .inl o19)), (a18, .inl (cI, 1024, .inl o20))]) [0, 1, 2, 3, 4, 5, 6, 7, 8, 9, 10, 11, 12, 13, 14, 15, 16, 17, 18] rfl (by decide +kernel) ?_
          have h := Option.some.inj h
          simp only [Prod.mk.injEq] at h
          obtain ⟨rfl, rfl, rfl, rfl, rfl, rfl, rfl, rfl, rfl, rfl, rfl, rfl, rfl, rfl, rfl, rfl⟩ := h
          exact g_iret X hr hlk dX4_ifYear_51 rfl rfl
        · intro K4 hK4 h
          refine g_if_eq (tgt := 44) X h dX4_ifYear_26 (by decide) (fun h => ?_) (fun h => ?_)
          · exact hK4 () h
          · refine g_iload_n X (j := 3) dX4_ifYear_29 rfl ?_
            refine g_iconst (v := 1) X dX4_ifYear_30 (by decide) ?_
            refine g_icmp_eq (tgt := 44) X h dX4_ifYear_31 (by decide) (fun h => ?_) (fun h => ?_)
            · exact hK4 () h
            · refine g_lv (lv' := []) [] rfl ?_
              exact hK3 () h
  · cases h
