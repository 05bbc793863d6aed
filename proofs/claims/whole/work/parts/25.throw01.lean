theorem dX4_append_0 : decode cX4_append 0 = .ok (.iload_n 1, 1) := by decide +kernel
theorem dX4_append_1 : decode cX4_append 1 = .ok (.bipush 33, 2) := by decide +kernel
theorem dX4_append_3 : decode cX4_append 3 = .ok (.if_icmp .lt 9, 3) := by decide +kernel
theorem dX4_append_6 : decode cX4_append 6 = .ok (.iload_n 1, 1) := by decide +kernel
theorem dX4_append_7 : decode cX4_append 7 = .ok (.bipush 126, 2) := by decide +kernel
theorem dX4_append_9 : decode cX4_append 9 = .ok (.if_icmp .le 13, 3) := by decide +kernel
theorem dX4_append_12 : decode cX4_append 12 = .ok (.new 68, 3) := by decide +kernel
theorem dX4_append_15 : decode cX4_append 15 = .ok (.dup, 1) := by decide +kernel
theorem dX4_append_16 : decode cX4_append 16 = .ok (.ldc 139, 2) := by decide +kernel
theorem dX4_append_18 : decode cX4_append 18 = .ok (.invokespecial 72, 3) := by decide +kernel
theorem dX4_append_21 : decode cX4_append 21 = .ok (.athrow, 1) := by decide +kernel
theorem dX4_append_22 : decode cX4_append 22 = .ok (.aload_n 0, 1) := by decide +kernel
theorem dX4_append_23 : decode cX4_append 23 = .ok (.getfield 47, 3) := by decide +kernel
theorem dX4_append_26 : decode cX4_append 26 = .ok (.bipush 60, 2) := by decide +kernel
theorem dX4_append_28 : decode cX4_append 28 = .ok (.if_icmp .lt 13, 3) := by decide +kernel
theorem dX4_append_31 : decode cX4_append 31 = .ok (.new 78, 3) := by decide +kernel
theorem dX4_append_34 : decode cX4_append 34 = .ok (.dup, 1) := by decide +kernel
theorem dX4_append_35 : decode cX4_append 35 = .ok (.ldc 141, 2) := by decide +kernel
theorem dX4_append_37 : decode cX4_append 37 = .ok (.invokespecial 82, 3) := by decide +kernel
theorem dX4_append_40 : decode cX4_append 40 = .ok (.athrow, 1) := by decide +kernel
theorem dX4_append_41 : decode cX4_append 41 = .ok (.aload_n 0, 1) := by decide +kernel
theorem dX4_append_42 : decode cX4_append 42 = .ok (.getfield 43, 3) := by decide +kernel
theorem dX4_append_45 : decode cX4_append 45 = .ok (.aload_n 0, 1) := by decide +kernel
theorem dX4_append_46 : decode cX4_append 46 = .ok (.getfield 47, 3) := by decide +kernel
theorem dX4_append_49 : decode cX4_append 49 = .ok (.iload_n 1, 1) := by decide +kernel
theorem dX4_append_50 : decode cX4_append 50 = .ok (.iastore, 1) := by decide +kernel
theorem dX4_append_51 : decode cX4_append 51 = .ok (.aload_n 0, 1) := by decide +kernel
theorem dX4_append_52 : decode cX4_append 52 = .ok (.dup, 1) := by decide +kernel
theorem dX4_append_53 : decode cX4_append 53 = .ok (.getfield 47, 3) := by decide +kernel
theorem dX4_append_56 : decode cX4_append 56 = .ok (.iconst 1, 1) := by decide +kernel
theorem dX4_append_57 : decode cX4_append 57 = .ok (.iadd, 1) := by decide +kernel
theorem dX4_append_58 : decode cX4_append 58 = .ok (.putfield 47, 3) := by decide +kernel
theorem dX4_append_61 : decode cX4_append 61 = .ok (.aload_n 0, 1) := by decide +kernel
theorem dX4_append_62 : decode cX4_append 62 = .ok (.getfield 47, 3) := by decide +kernel
theorem dX4_append_65 : decode cX4_append 65 = .ok (.ireturn, 1) := by decide +kernel
set_option maxRecDepth 20000 in
theorem ggX4_bookOf_X4_isBook : GoodIn wsX4_bookOf wsX4_isBook := goodIn_r _ [9, 10, 11, 88, 89, 90, 91, 92, 93, 94, 95, 96, 97, 98, 99, 100, 101] (by decide +kernel) (by decide +kernel)
set_option maxRecDepth 20000 in
theorem gX4_bookOf_X4_isBook : GoodIn wsX4_bookOf (wsV RX4 90 RX4 yX4_isBook wsX4_isBook) := goodIn_app (goodIn_of _ (by decide +kernel)) ggX4_bookOf_X4_isBook
set_option maxRecDepth 20000 in
theorem ggX4_bookOf_X4_numberOfBook : GoodIn wsX4_bookOf wsX4_numberOfBook := goodIn_r _ [15, 10, 16, 17, 18, 19, 20, 21, 22, 23, 24, 25, 26, 8, 27, 28, 29, 30, 31, 32, 33, 34, 35, 36, 37, 38, 39, 40, 41, 42, 43, 44, 45, 46, 47, 48, 49, 50, 51, 52, 53, 54, 55, 56, 57, 58, 59, 60, 61, 62, 63, 64, 65, 66, 67, 68, 69, 70, 71, 72, 73, 74, 75, 76, 77, 78, 79, 80, 81, 82, 83, 84, 85, 86, 87, 88, 89, 90, 91, 92, 93, 94, 95, 96, 97, 98, 99, 100, 101, 102, 103, 104, 105, 106, 107, 108, 109, 110, 111] (by decide +kernel) (by decide +kernel)
set_option maxRecDepth 20000 in
theorem gX4_bookOf_X4_numberOfBook : GoodIn wsX4_bookOf (wsV RX4 176 RX4 yX4_numberOfBook wsX4_numberOfBook) := goodIn_app (goodIn_of _ (by decide +kernel)) ggX4_bookOf_X4_numberOfBook
theorem dX4_bookOf_0 : decode cX4_bookOf 0 = .ok (.aload_n 0, 1) := by decide +kernel
theorem dX4_bookOf_1 : decode cX4_bookOf 1 = .ok (.iload_n 1, 1) := by decide +kernel
theorem dX4_bookOf_2 : decode cX4_bookOf 2 = .ok (.invokevirtual 90, 3) := by decide +kernel
theorem dX4_bookOf_5 : decode cX4_bookOf 5 = .ok (.ifCond .ne 13, 3) := by decide +kernel
theorem dX4_bookOf_8 : decode cX4_bookOf 8 = .ok (.new 93, 3) := by decide +kernel
theorem dX4_bookOf_11 : decode cX4_bookOf 11 = .ok (.dup, 1) := by decide +kernel
theorem dX4_bookOf_12 : decode cX4_bookOf 12 = .ok (.ldc 95, 2) := by decide +kernel
theorem dX4_bookOf_14 : decode cX4_bookOf 14 = .ok (.invokespecial 97, 3) := by decide +kernel
theorem dX4_bookOf_17 : decode cX4_bookOf 17 = .ok (.athrow, 1) := by decide +kernel
theorem dX4_bookOf_18 : decode cX4_bookOf 18 = .ok (.iload_n 2, 1) := by decide +kernel
theorem dX4_bookOf_19 : decode cX4_bookOf 19 = .ok (.ifCond .lt 9, 3) := by decide +kernel
theorem dX4_bookOf_22 : decode cX4_bookOf 22 = .ok (.iload_n 2, 1) := by decide +kernel
theorem dX4_bookOf_23 : decode cX4_bookOf 23 = .ok (.bipush 10, 2) := by decide +kernel
theorem dX4_bookOf_25 : decode cX4_bookOf 25 = .ok (.if_icmp .le 13, 3) := by decide +kernel
theorem dX4_bookOf_28 : decode cX4_bookOf 28 = .ok (.new 68, 3) := by decide +kernel
theorem dX4_bookOf_31 : decode cX4_bookOf 31 = .ok (.dup, 1) := by decide +kernel
theorem dX4_bookOf_32 : decode cX4_bookOf 32 = .ok (.ldc 174, 2) := by decide +kernel
theorem dX4_bookOf_34 : decode cX4_bookOf 34 = .ok (.invokespecial 72, 3) := by decide +kernel
theorem dX4_bookOf_37 : decode cX4_bookOf 37 = .ok (.athrow, 1) := by decide +kernel
theorem dX4_bookOf_38 : decode cX4_bookOf 38 = .ok (.aload_n 0, 1) := by decide +kernel
theorem dX4_bookOf_39 : decode cX4_bookOf 39 = .ok (.iload_n 1, 1) := by decide +kernel
theorem dX4_bookOf_40 : decode cX4_bookOf 40 = .ok (.iload_n 2, 1) := by decide +kernel
theorem dX4_bookOf_41 : decode cX4_bookOf 41 = .ok (.invokevirtual 176, 3) := by decide +kernel
theorem dX4_bookOf_44 : decode cX4_bookOf 44 = .ok (.ireturn, 1) := by decide +kernel
set_option maxRecDepth 20000 in
theorem ggX4_ahead_X4_isBook : GoodIn wsX4_ahead wsX4_isBook := goodIn_r _ [10, 5, 11, 21, 22, 23, 24, 25, 26, 27, 28, 29, 30, 31, 32, 33, 34] (by decide +kernel) (by decide +kernel)
set_option maxRecDepth 20000 in
theorem gX4_ahead_X4_isBook : GoodIn wsX4_ahead (wsV RX4 90 RX4 yX4_isBook wsX4_isBook) := goodIn_app (goodIn_of _ (by decide +kernel)) ggX4_ahead_X4_isBook
set_option maxRecDepth 20000 in
theorem ggX4_ahead_X2_reasonsAhead : GoodIn wsX4_ahead wsX2_reasonsAhead := goodIn_r _ [16, 17, 18, 19, 20, 30, 31, 32, 33, 34] (by decide +kernel) (by decide +kernel)
set_option maxRecDepth 20000 in
theorem gX4_ahead_X2_reasonsAhead : GoodIn wsX4_ahead (wsV RX4 182 RX2 yX2_reasonsAhead wsX2_reasonsAhead) := goodIn_app (goodIn_of _ (by decide +kernel)) ggX4_ahead_X2_reasonsAhead
theorem dX4_ahead_0 : decode cX4_ahead 0 = .ok (.aload_n 0, 1) := by decide +kernel
theorem dX4_ahead_1 : decode cX4_ahead 1 = .ok (.iload_n 1, 1) := by decide +kernel
theorem dX4_ahead_2 : decode cX4_ahead 2 = .ok (.invokevirtual 90, 3) := by decide +kernel
theorem dX4_ahead_5 : decode cX4_ahead 5 = .ok (.ifCond .eq 11, 3) := by decide +kernel
theorem dX4_ahead_8 : decode cX4_ahead 8 = .ok (.aload_n 0, 1) := by decide +kernel
theorem dX4_ahead_9 : decode cX4_ahead 9 = .ok (.iload_n 2, 1) := by decide +kernel
theorem dX4_ahead_10 : decode cX4_ahead 10 = .ok (.invokevirtual 90, 3) := by decide +kernel
theorem dX4_ahead_13 : decode cX4_ahead 13 = .ok (.ifCond .ne 13, 3) := by decide +kernel
theorem dX4_ahead_16 : decode cX4_ahead 16 = .ok (.new 93, 3) := by decide +kernel
theorem dX4_ahead_19 : decode cX4_ahead 19 = .ok (.dup, 1) := by decide +kernel
theorem dX4_ahead_20 : decode cX4_ahead 20 = .ok (.ldc 95, 2) := by decide +kernel
theorem dX4_ahead_22 : decode cX4_ahead 22 = .ok (.invokespecial 97, 3) := by decide +kernel
theorem dX4_ahead_25 : decode cX4_ahead 25 = .ok (.athrow, 1) := by decide +kernel
theorem dX4_ahead_26 : decode cX4_ahead 26 = .ok (.iload_n 1, 1) := by decide +kernel
theorem dX4_ahead_27 : decode cX4_ahead 27 = .ok (.iload_n 2, 1) := by decide +kernel
theorem dX4_ahead_28 : decode cX4_ahead 28 = .ok (.if_icmp .ne 13, 3) := by decide +kernel
theorem dX4_ahead_31 : decode cX4_ahead 31 = .ok (.new 68, 3) := by decide +kernel
theorem dX4_ahead_34 : decode cX4_ahead 34 = .ok (.dup, 1) := by decide +kernel
theorem dX4_ahead_35 : decode cX4_ahead 35 = .ok (.ldc 180, 2) := by decide +kernel
theorem dX4_ahead_37 : decode cX4_ahead 37 = .ok (.invokespecial 72, 3) := by decide +kernel
theorem dX4_ahead_40 : decode cX4_ahead 40 = .ok (.athrow, 1) := by decide +kernel
theorem dX4_ahead_41 : decode cX4_ahead 41 = .ok (.aload_n 0, 1) := by decide +kernel
theorem dX4_ahead_42 : decode cX4_ahead 42 = .ok (.getfield 12, 3) := by decide +kernel
theorem dX4_ahead_45 : decode cX4_ahead 45 = .ok (.iload_n 1, 1) := by decide +kernel
theorem dX4_ahead_46 : decode cX4_ahead 46 = .ok (.iload_n 2, 1) := by decide +kernel
theorem dX4_ahead_47 : decode cX4_ahead 47 = .ok (.invokevirtual 182, 3) := by decide +kernel
theorem dX4_ahead_50 : decode cX4_ahead 50 = .ok (.ireturn, 1) := by decide +kernel
set_option maxRecDepth 20000 in
theorem ggX4_count_X4_numberOfAll : GoodIn wsX4_count wsX4_numberOfAll := goodIn_r _ [7, 8, 9, 10, 11, 12, 13, 14, 6, 15, 16, 17, 18, 19, 20, 21, 22, 23, 24, 25, 26, 27, 28, 29, 30, 31, 32, 33, 34, 35, 36, 37, 38, 39, 40, 41, 42, 43, 44, 45, 46, 47, 48, 49, 50, 51, 52, 53, 54, 55, 56, 57, 58, 59, 60, 61, 62, 63, 64, 65, 66, 67, 68, 69, 70, 71, 72, 73, 74, 75, 76, 77, 78, 79, 80, 81, 82, 83, 84, 85, 86, 87, 88, 89, 90, 91, 92, 93, 94, 95, 96, 97, 98, 99, 100, 101, 102, 103, 104, 105, 106, 107, 108, 109, 110, 111, 112, 113, 114, 115, 116, 117, 118, 119, 120, 121, 122, 123, 124, 125, 126, 127, 128, 129, 130, 131, 132, 133, 134, 135, 136, 137, 138, 139] (by decide +kernel) (by decide +kernel)
set_option maxRecDepth 20000 in
theorem gX4_count_X4_numberOfAll : GoodIn wsX4_count (wsV RX4 187 RX4 yX4_numberOfAll wsX4_numberOfAll) := goodIn_app (goodIn_of _ (by decide +kernel)) ggX4_count_X4_numberOfAll
theorem dX4_count_0 : decode cX4_count 0 = .ok (.iload_n 1, 1) := by decide +kernel
theorem dX4_count_1 : decode cX4_count 1 = .ok (.ifCond .lt 9, 3) := by decide +kernel
theorem dX4_count_4 : decode cX4_count 4 = .ok (.iload_n 1, 1) := by decide +kernel
theorem dX4_count_5 : decode cX4_count 5 = .ok (.bipush 9, 2) := by decide +kernel
theorem dX4_count_7 : decode cX4_count 7 = .ok (.if_icmp .le 13, 3) := by decide +kernel
theorem dX4_count_10 : decode cX4_count 10 = .ok (.new 68, 3) := by decide +kernel
theorem dX4_count_13 : decode cX4_count 13 = .ok (.dup, 1) := by decide +kernel
theorem dX4_count_14 : decode cX4_count 14 = .ok (.ldc 185, 2) := by decide +kernel
theorem dX4_count_16 : decode cX4_count 16 = .ok (.invokespecial 72, 3) := by decide +kernel
theorem dX4_count_19 : decode cX4_count 19 = .ok (.athrow, 1) := by decide +kernel
theorem dX4_count_20 : decode cX4_count 20 = .ok (.aload_n 0, 1) := by decide +kernel
theorem dX4_count_21 : decode cX4_count 21 = .ok (.iload_n 1, 1) := by decide +kernel
theorem dX4_count_22 : decode cX4_count 22 = .ok (.invokevirtual 187, 3) := by decide +kernel
theorem dX4_count_25 : decode cX4_count 25 = .ok (.ireturn, 1) := by decide +kernel
set_option maxRecDepth 20000 in
theorem ggX4_order_X4_currentReading : GoodIn wsX4_order wsX4_currentReading := goodIn_r _ [7, 8, 9, 10, 11, 12, 13, 14, 15, 16, 17, 18, 19, 20, 21, 22, 23, 24, 25, 26, 27, 28, 29, 30, 31, 32, 33, 34, 35, 36, 37, 38, 39, 40, 41, 42, 43, 44, 45, 46, 47, 48, 49, 50, 51, 52, 53, 54, 55, 56, 57, 66, 67, 68, 69, 70, 71, 72, 73, 74, 75, 76, 77, 78, 79, 80, 81, 82, 83, 84, 85, 86, 87, 88, 89] (by decide +kernel) (by decide +kernel)
set_option maxRecDepth 20000 in
theorem gX4_order_X4_currentReading : GoodIn wsX4_order (wsV RX4 129 RX4 yX4_currentReading wsX4_currentReading) := goodIn_app (goodIn_of _ (by decide +kernel)) ggX4_order_X4_currentReading
set_option maxRecDepth 20000 in
theorem ggX4_order_X1_bookInFirstOrder : GoodIn wsX4_order wsX1_bookInFirstOrder := goodIn_r _ [61, 40, 17, 62, 63, 64, 14, 65, 23, 41, 42, 43, 80, 81, 82, 83, 84, 85, 86, 87, 88, 89] (by decide +kernel) (by decide +kernel)
set_option maxRecDepth 20000 in
theorem gX4_order_X1_bookInFirstOrder : GoodIn wsX4_order (wsV RX4 193 RX1 yX1_bookInFirstOrder wsX1_bookInFirstOrder) := goodIn_app (goodIn_of _ (by decide +kernel)) ggX4_order_X1_bookInFirstOrder
theorem dX4_order_0 : decode cX4_order 0 = .ok (.iload_n 1, 1) := by decide +kernel
theorem dX4_order_1 : decode cX4_order 1 = .ok (.ifCond .ge 13, 3) := by decide +kernel
theorem dX4_order_4 : decode cX4_order 4 = .ok (.new 68, 3) := by decide +kernel
theorem dX4_order_7 : decode cX4_order 7 = .ok (.dup, 1) := by decide +kernel
theorem dX4_order_8 : decode cX4_order 8 = .ok (.ldc 191, 2) := by decide +kernel
theorem dX4_order_10 : decode cX4_order 10 = .ok (.invokespecial 72, 3) := by decide +kernel
theorem dX4_order_13 : decode cX4_order 13 = .ok (.athrow, 1) := by decide +kernel
theorem dX4_order_14 : decode cX4_order 14 = .ok (.aload_n 0, 1) := by decide +kernel
theorem dX4_order_15 : decode cX4_order 15 = .ok (.invokevirtual 129, 3) := by decide +kernel
theorem dX4_order_18 : decode cX4_order 18 = .ok (.iload_n 1, 1) := by decide +kernel
theorem dX4_order_19 : decode cX4_order 19 = .ok (.invokevirtual 193, 3) := by decide +kernel
theorem dX4_order_22 : decode cX4_order 22 = .ok (.ireturn, 1) := by decide +kernel
set_option maxRecDepth 20000 in
theorem ggX4_place_X4_isBook : GoodIn wsX4_place wsX4_isBook := goodIn_r _ [9, 10, 11, 101, 102, 103, 104, 105, 106, 107, 108, 109, 110, 111, 112, 113, 114] (by decide +kernel) (by decide +kernel)
set_option maxRecDepth 20000 in
theorem gX4_place_X4_isBook : GoodIn wsX4_place (wsV RX4 90 RX4 yX4_isBook wsX4_isBook) := goodIn_app (goodIn_of _ (by decide +kernel)) ggX4_place_X4_isBook
set_option maxRecDepth 20000 in
theorem ggX4_place_X4_numberOfPlaces : GoodIn wsX4_place wsX4_numberOfPlaces := goodIn_r _ [15, 16, 17, 18, 8, 19, 20, 21, 10, 22, 23, 24, 25, 26, 27, 28, 29, 30, 31, 32, 33, 34, 35, 36, 37, 38, 39, 40, 41, 42, 43, 44, 45, 46, 47, 48, 49, 50, 51, 52, 53, 54, 55, 56, 57, 58, 59, 60, 61, 62, 63, 64, 65, 66, 67, 68, 69, 70, 71, 72, 73, 74, 75, 76, 77, 78, 79, 80, 81, 82, 83, 84, 85, 86, 87, 88, 89, 90, 91, 92, 93, 94, 95, 96, 97, 98, 99, 100, 101, 102, 103, 104, 105, 106, 107, 108, 109, 110, 111, 112, 113, 114, 115, 116, 117, 118, 119, 120, 121, 122, 123, 124] (by decide +kernel) (by decide +kernel)
set_option maxRecDepth 20000 in
theorem gX4_place_X4_numberOfPlaces : GoodIn wsX4_place (wsV RX4 198 RX4 yX4_numberOfPlaces wsX4_numberOfPlaces) := goodIn_app (goodIn_of _ (by decide +kernel)) ggX4_place_X4_numberOfPlaces
theorem dX4_place_0 : decode cX4_place 0 = .ok (.aload_n 0, 1) := by decide +kernel
theorem dX4_place_1 : decode cX4_place 1 = .ok (.iload_n 1, 1) := by decide +kernel
theorem dX4_place_2 : decode cX4_place 2 = .ok (.invokevirtual 90, 3) := by decide +kernel
theorem dX4_place_5 : decode cX4_place 5 = .ok (.ifCond .ne 13, 3) := by decide +kernel
theorem dX4_place_8 : decode cX4_place 8 = .ok (.new 93, 3) := by decide +kernel
theorem dX4_place_11 : decode cX4_place 11 = .ok (.dup, 1) := by decide +kernel
theorem dX4_place_12 : decode cX4_place 12 = .ok (.ldc 95, 2) := by decide +kernel
theorem dX4_place_14 : decode cX4_place 14 = .ok (.invokespecial 97, 3) := by decide +kernel
theorem dX4_place_17 : decode cX4_place 17 = .ok (.athrow, 1) := by decide +kernel
theorem dX4_place_18 : decode cX4_place 18 = .ok (.iload_n 2, 1) := by decide +kernel
theorem dX4_place_19 : decode cX4_place 19 = .ok (.ifCond .lt 8, 3) := by decide +kernel
theorem dX4_place_22 : decode cX4_place 22 = .ok (.iload_n 2, 1) := by decide +kernel
theorem dX4_place_23 : decode cX4_place 23 = .ok (.iconst 2, 1) := by decide +kernel
theorem dX4_place_24 : decode cX4_place 24 = .ok (.if_icmp .le 13, 3) := by decide +kernel
theorem dX4_place_27 : decode cX4_place 27 = .ok (.new 68, 3) := by decide +kernel
theorem dX4_place_30 : decode cX4_place 30 = .ok (.dup, 1) := by decide +kernel
theorem dX4_place_31 : decode cX4_place 31 = .ok (.ldc 196, 2) := by decide +kernel
theorem dX4_place_33 : decode cX4_place 33 = .ok (.invokespecial 72, 3) := by decide +kernel
theorem dX4_place_36 : decode cX4_place 36 = .ok (.athrow, 1) := by decide +kernel
theorem dX4_place_37 : decode cX4_place 37 = .ok (.aload_n 0, 1) := by decide +kernel
theorem dX4_place_38 : decode cX4_place 38 = .ok (.iload_n 1, 1) := by decide +kernel
theorem dX4_place_39 : decode cX4_place 39 = .ok (.iload_n 2, 1) := by decide +kernel
theorem dX4_place_40 : decode cX4_place 40 = .ok (.invokevirtual 198, 3) := by decide +kernel
theorem dX4_place_43 : decode cX4_place 43 = .ok (.ireturn, 1) := by decide +kernel
set_option maxRecDepth 20000 in
theorem ggX4_wrong_X4_currentReading : GoodIn wsX4_wrong wsX4_currentReading := goodIn_r _ [7, 8, 9, 10, 11, 12, 13, 14, 15, 16, 17, 18, 19, 20, 21, 22, 23, 24, 25, 26, 27, 28, 29, 30, 31, 32, 33, 34, 35, 36, 37, 38, 39, 40, 41, 42, 43, 44, 45, 46, 47, 48, 49, 50, 51, 52, 53, 54, 55, 56, 57, 83, 84, 85, 86, 87, 88, 89, 90, 91, 92, 93, 94, 95, 96, 97, 98, 99, 100, 101, 102, 103, 104, 105, 106] (by decide +kernel) (by decide +kernel)
set_option maxRecDepth 20000 in
theorem gX4_wrong_X4_currentReading : GoodIn wsX4_wrong (wsV RX4 129 RX4 yX4_currentReading wsX4_currentReading) := goodIn_app (goodIn_of _ (by decide +kernel)) ggX4_wrong_X4_currentReading
set_option maxRecDepth 20000 in
theorem ggX4_wrong_X1_leastWrongBooks : GoodIn wsX4_wrong wsX1_leastWrongBooks := goodIn_r _ [61, 40, 62, 63, 64, 14, 65, 17, 66, 67, 68, 69, 70, 71, 72, 73, 74, 75, 76, 18, 77, 78, 79, 80, 81, 23, 41, 42, 43, 97, 98, 99, 100, 101, 102, 103, 104, 105, 106] (by decide +kernel) (by decide +kernel)
set_option maxRecDepth 20000 in
theorem gX4_wrong_X1_leastWrongBooks : GoodIn wsX4_wrong (wsV RX4 203 RX1 yX1_leastWrongBooks wsX1_leastWrongBooks) := goodIn_app (goodIn_of _ (by decide +kernel)) ggX4_wrong_X1_leastWrongBooks
set_option maxRecDepth 20000 in
theorem ggX4_wrong_J6_bitCount_0f7a4 : GoodIn wsX4_wrong wsJ6_bitCount_0f7a4 := goodIn_r _ [69, 70, 71, 72] (by decide +kernel) (by decide +kernel)
set_option maxRecDepth 20000 in
theorem gX4_wrong_J6_bitCount_0f7a4 : GoodIn wsX4_wrong (va_wsS RX4 207 yJ6_bitCount_0f7a4 wsJ6_bitCount_0f7a4) := goodIn_app (goodIn_of _ (by decide +kernel)) ggX4_wrong_J6_bitCount_0f7a4
theorem dX4_wrong_0 : decode cX4_wrong 0 = .ok (.iload_n 1, 1) := by decide +kernel
theorem dX4_wrong_1 : decode cX4_wrong 1 = .ok (.ifCond .eq 18, 3) := by decide +kernel
theorem dX4_wrong_4 : decode cX4_wrong 4 = .ok (.iload_n 1, 1) := by decide +kernel
theorem dX4_wrong_5 : decode cX4_wrong 5 = .ok (.iconst 1, 1) := by decide +kernel
theorem dX4_wrong_6 : decode cX4_wrong 6 = .ok (.if_icmp .eq 13, 3) := by decide +kernel
theorem dX4_wrong_9 : decode cX4_wrong 9 = .ok (.new 68, 3) := by decide +kernel
theorem dX4_wrong_12 : decode cX4_wrong 12 = .ok (.dup, 1) := by decide +kernel
theorem dX4_wrong_13 : decode cX4_wrong 13 = .ok (.ldc 201, 2) := by decide +kernel
theorem dX4_wrong_15 : decode cX4_wrong 15 = .ok (.invokespecial 72, 3) := by decide +kernel
theorem dX4_wrong_18 : decode cX4_wrong 18 = .ok (.athrow, 1) := by decide +kernel
theorem dX4_wrong_19 : decode cX4_wrong 19 = .ok (.aload_n 0, 1) := by decide +kernel
theorem dX4_wrong_20 : decode cX4_wrong 20 = .ok (.invokevirtual 129, 3) := by decide +kernel
theorem dX4_wrong_23 : decode cX4_wrong 23 = .ok (.invokevirtual 203, 3) := by decide +kernel
theorem dX4_wrong_26 : decode cX4_wrong 26 = .ok (.istore_n 2, 1) := by decide +kernel
theorem dX4_wrong_27 : decode cX4_wrong 27 = .ok (.iload_n 1, 1) := by decide +kernel
theorem dX4_wrong_28 : decode cX4_wrong 28 = .ok (.ifCond .ne 10, 3) := by decide +kernel
theorem dX4_wrong_31 : decode cX4_wrong 31 = .ok (.iload_n 2, 1) := by decide +kernel
theorem dX4_wrong_32 : decode cX4_wrong 32 = .ok (.invokestatic 207, 3) := by decide +kernel
theorem dX4_wrong_35 : decode cX4_wrong 35 = .ok (.goto 4, 3) := by decide +kernel
theorem dX4_wrong_38 : decode cX4_wrong 38 = .ok (.iload_n 2, 1) := by decide +kernel
theorem dX4_wrong_39 : decode cX4_wrong 39 = .ok (.ireturn, 1) := by decide +kernel
def f_X4_append (p1 : Int32) (x0_length : Int32) (f1 : Nat → Int32) : Option ((Int32 ⊕ String) × Int32 × (Nat → Int32)) := (jn (u0 (some ((Sum.inr "java/lang/IllegalArgumentException"), x0_length, f1))) (fun K1 => (if p1 < 33 then K1 () else (if p1 ≤ 126 then (if x0_length < 60 then (wrA f1 60 x0_length p1).bind (fun g2 => some ((Sum.inl (x0_length + 1)), (x0_length + 1), g2)) else some ((Sum.inr "java/lang/IllegalStateException"), x0_length, f1)) else K1 ()))))
theorem ck_X4_append_68 : Cond.classLink RX4 68 "java/lang/IllegalArgumentException" ∈ wsX4_append := by decide +kernel
theorem ci_X4_append_68 : Cond.initialized "java/lang/IllegalArgumentException" ∈ wsX4_append := by decide +kernel
theorem gw_X4_append_72 : ∀ w ∈ (vx_atS RX4 72 "java/lang/IllegalArgumentException" excN).filter goodWord, w ∈ wsX4_append := fun _ h => List.mem_cons_of_mem _ (List.mem_append_left _ (List.mem_append_right _ h))
theorem in_X4_append_X4 : ∀ w ∈ wsX40, w ∈ wsX4_append := by decide +kernel
theorem fl_X4_append_47 : Cond.fieldLink RX4 47 "ColophonHunt" "length" "I" ∈ wsX4_append := by decide +kernel
theorem fl_X4_append_43 : Cond.fieldLink RX4 43 "ColophonHunt" "codes" "[I" ∈ wsX4_append := by decide +kernel
theorem ck_X4_append_78 : Cond.classLink RX4 78 "java/lang/IllegalStateException" ∈ wsX4_append := by decide +kernel
theorem ci_X4_append_78 : Cond.initialized "java/lang/IllegalStateException" ∈ wsX4_append := by decide +kernel
theorem gw_X4_append_82 : ∀ w ∈ (vx_atS RX4 82 "java/lang/IllegalStateException" excN).filter goodWord, w ∈ wsX4_append := fun _ h => List.mem_cons_of_mem _ (List.mem_append_right _ h)
theorem hd_X4_append : yX4_append.cls = RX4 ∧ yX4_append.cls ≠ "java/lang/invoke/MethodHandle" ∧ yX4_append.cls ≠ "java/lang/invoke/VarHandle" ∧ (parseMethodDescriptor yX4_append.desc).map (fun d => d.parameters.length) = some 1 := by decide +kernel
set_option maxRecDepth 100000 in
set_option maxHeartbeats 4000000 in
theorem c_X4_append (l : Launch) (hlt : l.stackTraces = false) (D : va_G) (cI cS cL : ClassId) (a0 : Nat) (a1 : Nat) (b0_0 : Nat) (b0_1 : Nat) (b0_2 : Nat) (b0_3 : Nat) (b0_4 : Nat) (b0_5 : Nat) (p1 : Int32) (x0_length : Int32) (x0_isReadingOld : Int32) (f1 : Nat → Int32) (rr : Int32 ⊕ String) (y0 : Int32) (y1 : Nat → Int32) (hc : f_X4_append p1 x0_length f1 = some (rr, y0, y1)) : KX l yX4_append wsX4_append { frames := 6, cells := 1, slots := 6, locals := 82 } D (tyS cI cS cL) [.ref a0, .int p1] [(a0, .inr (4, [.ref b0_0, .ref b0_1, .ref b0_2, .ref b0_3, .ref b0_4, .ref b0_5, .ref a1, .int x0_length, .int x0_isReadingOld])), (a1, .inl (cI, 60, .inl f1))] rr (fun w => w = [(a0, .inr (4, [.ref b0_0, .ref b0_1, .ref b0_2, .ref b0_3, .ref b0_4, .ref b0_5, .ref a1, .int y0, .int x0_isReadingOld])), (a1, .inl (cI, 60, .inl y1))]) := by
  refine g_entryX (cc := cX4_append) (nL := 2) (rt := (some .int)) (by decide) rfl (Nat.le_of_ble_eq_true rfl) ?_
  intro p e s m args below meth c A (X : GC p s m args c cX4_append 2 RX4 wsX4_append D (tyS cI cS cL) A) Y hex hr hlk
  have h := hc
  unfold f_X4_append at h
  refine g_lv (lv' := [(0, .ref a0), (1, .int p1)]) [0, 1] rfl ?_
  refine g_iload_n X (j := 1) dX4_append_0 rfl ?_
  refine g_bipush (v := 33) X dX4_append_1 (by decide) ?_
  refine jn_g h (u0 ([(a0, .inr (4, [.ref b0_0, .ref b0_1, .ref b0_2, .ref b0_3, .ref b0_4, .ref b0_5, .ref a1, .int x0_length, .int x0_isReadingOld])), (a1, .inl (cI, 60, .inl f1))])) (u0 ([])) (u0 ([])) 12 ?_ ?_
  · rintro ⟨⟩ h
    dsimp only [u0] at h ⊢
    have h := Option.some.inj h
    simp only [Prod.mk.injEq] at h
    obtain ⟨rfl, rfl, rfl⟩ := h
    exact g_throw (cls := "java/lang/IllegalArgumentException") (text := "code is not 33 to 126") X Y hlt hex hlk (by decide +kernel) (by decide +kernel) ck_X4_append_68 ci_X4_append_68 (by decide +kernel) gw_X4_append_72 hbad_72 hgood_72 dX4_append_12 dX4_append_15 dX4_append_16 dX4_append_18 dX4_append_21 (Nat.le_of_ble_eq_true rfl) (Nat.le_of_ble_eq_true rfl) (Nat.le_of_ble_eq_true rfl) (Nat.le_of_ble_eq_true rfl) rfl rfl
  · intro K1 hK1 h
    refine g_icmp_lt (tgt := 12) X h dX4_append_3 (by decide) (fun h => ?_) (fun h => ?_)
    · refine g_lv (lv' := []) [] rfl ?_
      exact hK1 () h
    · refine g_iload_n X (j := 1) dX4_append_6 rfl ?_
      refine g_bipush (v := 126) X dX4_append_7 (by decide) ?_
      refine g_icmp_le (tgt := 22) X h dX4_append_9 (by decide) (fun h => ?_) (fun h => ?_)
      · refine g_aload_n X (j := 0) dX4_append_22 rfl ?_
        refine g_get (q0 := 0) (k := 7) (ci := 4) X in_X4_append_X4 fl_X4_append_47 rfl rfl (Nat.le_of_ble_eq_true rfl) rfl dX4_append_23 ?_
        refine g_bipush (v := 60) X dX4_append_26 (by decide) ?_
        refine g_icmp_lt (tgt := 41) X h dX4_append_28 (by decide) (fun h => ?_) (fun h => ?_)
        · refine g_aload_n X (j := 0) dX4_append_41 rfl ?_
          refine g_get (q0 := 0) (k := 6) (ci := 4) X in_X4_append_X4 fl_X4_append_43 rfl rfl (Nat.le_of_ble_eq_true rfl) rfl dX4_append_42 ?_
          refine g_aload_n X (j := 0) dX4_append_45 rfl ?_
          refine g_get (q0 := 0) (k := 7) (ci := 4) X in_X4_append_X4 fl_X4_append_47 rfl rfl (Nat.le_of_ble_eq_true rfl) rfl dX4_append_46 ?_
          refine g_iload_n X (j := 1) dX4_append_49 rfl ?_
          refine g_iast (q0 := 1) (t0 := 0) (ws1 := fun g2 => [(a0, .inr (4, [.ref b0_0, .ref b0_1, .ref b0_2, .ref b0_3, .ref b0_4, .ref b0_5, .ref a1, .int x0_length, .int x0_isReadingOld])), (a1, .inl (cI, 60, .inl g2))]) X h rfl rfl dX4_append_50 (fun _ => rfl) (fun g2 h => ?_)
          refine g_aload_n X (j := 0) dX4_append_51 rfl ?_
          refine g_dup X dX4_append_52 rfl ?_
          refine g_get (q0 := 0) (k := 7) (ci := 4) X in_X4_append_X4 fl_X4_append_47 rfl rfl (Nat.le_of_ble_eq_true rfl) rfl dX4_append_53 ?_
          refine g_iconst (v := 1) X dX4_append_56 (by decide) ?_
          refine g_iadd X dX4_append_57 ?_
          refine g_put (q0 := 0) (k := 7) (ci := 4) (ws' := [(a0, .inr (4, [.ref b0_0, .ref b0_1, .ref b0_2, .ref b0_3, .ref b0_4, .ref b0_5, .ref a1, .int (x0_length + 1), .int x0_isReadingOld])), (a1, .inl (cI, 60, .inl g2))]) X tyX4_ok nmX4 in_X4_append_X4 fl_X4_append_47 rfl rfl (Nat.le_of_ble_eq_true rfl) rfl rfl rfl (Nat.le_of_ble_eq_true rfl) dX4_append_58 rfl ?_
          refine g_aload_n X (j := 0) dX4_append_61 rfl ?_
          refine g_get (q0 := 0) (k := 7) (ci := 4) X in_X4_append_X4 fl_X4_append_47 rfl rfl (Nat.le_of_ble_eq_true rfl) rfl dX4_append_62 ?_
          have h := Option.some.inj h
          simp only [Prod.mk.injEq] at h
          obtain ⟨rfl, rfl, rfl⟩ := h
          exact g_xiret X hr hlk dX4_append_65 rfl rfl
        · have h := Option.some.inj h
          simp only [Prod.mk.injEq] at h
          obtain ⟨rfl, rfl, rfl⟩ := h
          exact g_throw (cls := "java/lang/IllegalStateException") (text := "the buffer has 60 characters") X Y hlt hex hlk (by decide +kernel) (by decide +kernel) ck_X4_append_78 ci_X4_append_78 (by decide +kernel) gw_X4_append_82 hbad_82 hgood_82 dX4_append_31 dX4_append_34 dX4_append_35 dX4_append_37 dX4_append_40 (Nat.le_of_ble_eq_true rfl) (Nat.le_of_ble_eq_true rfl) (Nat.le_of_ble_eq_true rfl) (Nat.le_of_ble_eq_true rfl) rfl rfl
      · refine g_lv (lv' := []) [] rfl ?_
        exact hK1 () h
def f_X4_bookOf (p1 : Int32) (p2 : Int32) (x0_isReadingOld : Int32) (x1_size : Int32) (f2 : Nat → Int32) (f3 : Nat → Int32) (f4 : Nat → Int32) (f5 : Nat → Int32) (x6_areOrdersCounted : Int32) (x6_isAnyOrder : Int32) (x6_size : Int32) (f7 : Nat → Int32) (f8 : Nat → Int32) (f9 : Nat → Int32) (f10 : Nat → Int32) (f11 : Nat → Int32) (f12 : Nat → Int32) : Option ((Int32 ⊕ String) × Int32 × Int32 × Int32 × Int32 × (Nat → Int32) × (Nat → Int32) × (Nat → Int32) × (Nat → Int32) × (Nat → Int32) × (Nat → Int32)) := (f_X4_isBook p1 x1_size).bind (u1 fun (r1 : Int32) => (if r1 = 0 then some ((Sum.inr "java/lang/IndexOutOfBoundsException"), x0_isReadingOld, x6_areOrdersCounted, x6_isAnyOrder, x6_size, f7, f8, f9, f10, f11, f12) else (jn (u0 (some ((Sum.inr "java/lang/IllegalArgumentException"), x0_isReadingOld, x6_areOrdersCounted, x6_isAnyOrder, x6_size, f7, f8, f9, f10, f11, f12))) (fun K2 => (if p2 < 0 then K2 () else (if p2 ≤ 10 then (f_X4_numberOfBook p1 p2 x0_isReadingOld x1_size f2 f3 f4 f5 x6_areOrdersCounted x6_isAnyOrder x6_size f7 f8 f9 f10 f11 f12).bind (u11 fun (r3 : Int32) (o4 : Int32) (o5 : Int32) (o6 : Int32) (o7 : Int32) (o8 : Nat → Int32) (o9 : Nat → Int32) (o10 : Nat → Int32) (o11 : Nat → Int32) (o12 : Nat → Int32) (o13 : Nat → Int32) => some ((Sum.inl r3), o4, o5, o6, o7, o8, o9, o10, o11, o12, o13)) else K2 ()))))))
theorem ck_X4_bookOf_68 : Cond.classLink RX4 68 "java/lang/IllegalArgumentException" ∈ wsX4_bookOf := by decide +kernel
theorem ci_X4_bookOf_68 : Cond.initialized "java/lang/IllegalArgumentException" ∈ wsX4_bookOf := by decide +kernel
theorem gw_X4_bookOf_72 : ∀ w ∈ (vx_atS RX4 72 "java/lang/IllegalArgumentException" excN).filter goodWord, w ∈ wsX4_bookOf := fun _ h => List.mem_cons_of_mem _ (List.mem_append_right _ h)
theorem ck_X4_bookOf_93 : Cond.classLink RX4 93 "java/lang/IndexOutOfBoundsException" ∈ wsX4_bookOf := by decide +kernel
theorem ci_X4_bookOf_93 : Cond.initialized "java/lang/IndexOutOfBoundsException" ∈ wsX4_bookOf := by decide +kernel
theorem gw_X4_bookOf_97 : ∀ w ∈ (vx_atS RX4 97 "java/lang/IndexOutOfBoundsException" excN).filter goodWord, w ∈ wsX4_bookOf := fun _ h => List.mem_cons_of_mem _ (List.mem_append_left _ (List.mem_append_right _ h))
theorem hd_X4_bookOf : yX4_bookOf.cls = RX4 ∧ yX4_bookOf.cls ≠ "java/lang/invoke/MethodHandle" ∧ yX4_bookOf.cls ≠ "java/lang/invoke/VarHandle" ∧ (parseMethodDescriptor yX4_bookOf.desc).map (fun d => d.parameters.length) = some 2 := by decide +kernel
set_option maxRecDepth 100000 in
set_option maxHeartbeats 4000000 in
theorem c_X4_bookOf (l : Launch) (hlt : l.stackTraces = false) (D : va_G) (cI cS cL : ClassId) (a0 : Nat) (a1 : Nat) (a2 : Nat) (a3 : Nat) (a4 : Nat) (a5 : Nat) (a6 : Nat) (a7 : Nat) (a8 : Nat) (a9 : Nat) (a10 : Nat) (a11 : Nat) (a12 : Nat) (b0_1 : Nat) (b0_2 : Nat) (b0_4 : Nat) (b0_5 : Nat) (b0_6 : Nat) (b6_6 : Nat) (p1 : Int32) (p2 : Int32) (x0_length : Int32) (x0_isReadingOld : Int32) (x1_size : Int32) (f2 : Nat → Int32) (f3 : Nat → Int32) (f4 : Nat → Int32) (f5 : Nat → Int32) (x6_areOrdersCounted : Int32) (x6_isAnyOrder : Int32) (x6_size : Int32) (f7 : Nat → Int32) (f8 : Nat → Int32) (f9 : Nat → Int32) (f10 : Nat → Int32) (f11 : Nat → Int32) (f12 : Nat → Int32) (rr : Int32 ⊕ String) (y0 : Int32) (y1 : Int32) (y2 : Int32) (y3 : Int32) (y4 : Nat → Int32) (y5 : Nat → Int32) (y6 : Nat → Int32) (y7 : Nat → Int32) (y8 : Nat → Int32) (y9 : Nat → Int32) (hc : f_X4_bookOf p1 p2 x0_isReadingOld x1_size f2 f3 f4 f5 x6_areOrdersCounted x6_isAnyOrder x6_size f7 f8 f9 f10 f11 f12 = some (rr, y0, y1, y2, y3, y4, y5, y6, y7, y8, y9)) : KX l yX4_bookOf wsX4_bookOf { frames := 6, cells := 1, slots := 6, locals := 111 } D (tyS cI cS cL) [.ref a0, .int p1, .int p2] [(a0, .inr (4, [.ref a1, .ref b0_1, .ref b0_2, .ref a6, .ref b0_4, .ref b0_5, .ref b0_6, .int x0_length, .int x0_isReadingOld])), (a1, .inr (2, [.ref a2, .ref a3, .ref a4, .ref a5, .int x1_size])), (a2, .inl (cI, 10, .inl f2)), (a3, .inl (cI, 10, .inl f3)), (a4, .inl (cI, 10, .inl f4)), (a5, .inl (cI, 10, .inl f5)), (a6, .inr (1, [.ref a7, .ref a8, .ref a9, .ref a10, .ref a11, .ref a12, .ref b6_6, .int x6_areOrdersCounted, .int x6_isAnyOrder, .int x6_size])), (a7, .inl (cI, 10, .inl f7)), (a8, .inl (cI, 10, .inl f8)), (a9, .inl (cI, 10, .inl f9)), (a10, .inl (cI, 10, .inl f10)), (a11, .inl (cI, 10, .inl f11)), (a12, .inl (cI, 10, .inl f12))] rr (fun w => w = [(a0, .inr (4, [.ref a1, .ref b0_1, .ref b0_2, .ref a6, .ref b0_4, .ref b0_5, .ref b0_6, .int x0_length, .int y0])), (a1, .inr (2, [.ref a2, .ref a3, .ref a4, .ref a5, .int x1_size])), (a2, .inl (cI, 10, .inl f2)), (a3, .inl (cI, 10, .inl f3)), (a4, .inl (cI, 10, .inl f4)), (a5, .inl (cI, 10, .inl f5)), (a6, .inr (1, [.ref a7, .ref a8, .ref a9, .ref a10, .ref a11, .ref a12, .ref b6_6, .int y1, .int y2, .int y3])), (a7, .inl (cI, 10, .inl y4)), (a8, .inl (cI, 10, .inl y5)), (a9, .inl (cI, 10, .inl y6)), (a10, .inl (cI, 10, .inl y7)), (a11, .inl (cI, 10, .inl y8)), (a12, .inl (cI, 10, .inl y9))]) := by
  refine g_entryX (cc := cX4_bookOf) (nL := 3) (rt := (some .int)) (by decide) rfl (Nat.le_of_ble_eq_true rfl) ?_
  intro p e s m args below meth c A (X : GC p s m args c cX4_bookOf 3 RX4 wsX4_bookOf D (tyS cI cS cL) A) Y hex hr hlk
  have h := hc
  unfold f_X4_bookOf at h
  refine g_lv (lv' := [(0, .ref a0), (1, .int p1), (2, .int p2)]) [0, 1, 2] rfl ?_
  refine g_aload_n X (j := 0) dX4_bookOf_0 rfl ?_
  refine g_iload_n X (j := 1) dX4_bookOf_1 rfl ?_
  obtain ⟨r1, hc, h⟩ := bd1 h
  refine g_callV (q0 := 0) (ci := 4) (is := [0, 1]) (As := [.int p1]) (ws' := [(a0, .inr (4, [.ref a1, .ref b0_1, .ref b0_2, .ref a6, .ref b0_4, .ref b0_5, .ref b0_6, .int x0_length, .int x0_isReadingOld])), (a1, .inr (2, [.ref a2, .ref a3, .ref a4, .ref a5, .int x1_size])), (a2, .inl (cI, 10, .inl f2)), (a3, .inl (cI, 10, .inl f3)), (a4, .inl (cI, 10, .inl f4)), (a5, .inl (cI, 10, .inl f5)), (a6, .inr (1, [.ref a7, .ref a8, .ref a9, .ref a10, .ref a11, .ref a12, .ref b6_6, .int x6_areOrdersCounted, .int x6_isAnyOrder, .int x6_size])), (a7, .inl (cI, 10, .inl f7)), (a8, .inl (cI, 10, .inl f8)), (a9, .inl (cI, 10, .inl f9)), (a10, .inl (cI, 10, .inl f10)), (a11, .inl (cI, 10, .inl f11)), (a12, .inl (cI, 10, .inl f12))]) (st := []) X (c_X4_isBook l D cI cS cL a0 a1 b0_1 b0_2 a6 b0_4 b0_5 b0_6 a2 a3 a4 a5 p1 x0_length x0_isReadingOld x1_size r1 hc) gX4_bookOf_X4_isBook rfl ⟨rfl, rfl⟩ hd_X4_isBook ⟨Nat.le_of_ble_eq_true rfl, Nat.le_of_ble_eq_true rfl⟩ ⟨Nat.zero_le _, Nat.zero_le _⟩ rfl rfl rfl rfl rfl rfl rfl (Nat.le_of_ble_eq_true rfl) rfl dX4_bookOf_2 ?_
  refine g_if_ne (tgt := 18) X h dX4_bookOf_5 (by decide) (fun h => ?_) (fun h => ?_)
  · refine g_iload_n X (j := 2) dX4_bookOf_18 rfl ?_
    refine jn_g h (u0 ([(a0, .inr (4, [.ref a1, .ref b0_1, .ref b0_2, .ref a6, .ref b0_4, .ref b0_5, .ref b0_6, .int x0_length, .int x0_isReadingOld])), (a1, .inr (2, [.ref a2, .ref a3, .ref a4, .ref a5, .int x1_size])), (a2, .inl (cI, 10, .inl f2)), (a3, .inl (cI, 10, .inl f3)), (a4, .inl (cI, 10, .inl f4)), (a5, .inl (cI, 10, .inl f5)), (a6, .inr (1, [.ref a7, .ref a8, .ref a9, .ref a10, .ref a11, .ref a12, .ref b6_6, .int x6_areOrdersCounted, .int x6_isAnyOrder, .int x6_size])), (a7, .inl (cI, 10, .inl f7)), (a8, .inl (cI, 10, .inl f8)), (a9, .inl (cI, 10, .inl f9)), (a10, .inl (cI, 10, .inl f10)), (a11, .inl (cI, 10, .inl f11)), (a12, .inl (cI, 10, .inl f12))])) (u0 ([])) (u0 ([])) 28 ?_ ?_
    · rintro ⟨⟩ h
      dsimp only [u0] at h ⊢
      have h := Option.some.inj h
      simp only [Prod.mk.injEq] at h
      obtain ⟨rfl, rfl, rfl, rfl, rfl, rfl, rfl, rfl, rfl, rfl, rfl⟩ := h
      exact g_throw (cls := "java/lang/IllegalArgumentException") (text := "what is not 0 to 10") X Y hlt hex hlk (by decide +kernel) (by decide +kernel) ck_X4_bookOf_68 ci_X4_bookOf_68 (by decide +kernel) gw_X4_bookOf_72 hbad_72 hgood_72 dX4_bookOf_28 dX4_bookOf_31 dX4_bookOf_32 dX4_bookOf_34 dX4_bookOf_37 (Nat.le_of_ble_eq_true rfl) (Nat.le_of_ble_eq_true rfl) (Nat.le_of_ble_eq_true rfl) (Nat.le_of_ble_eq_true rfl) rfl rfl
    · intro K2 hK2 h
      refine g_if_lt (tgt := 28) X h dX4_bookOf_19 (by decide) (fun h => ?_) (fun h => ?_)
      · refine g_lv (lv' := []) [] rfl ?_
        exact hK2 () h
      · refine g_iload_n X (j := 2) dX4_bookOf_22 rfl ?_
        refine g_bipush (v := 10) X dX4_bookOf_23 (by decide) ?_
        refine g_icmp_le (tgt := 38) X h dX4_bookOf_25 (by decide) (fun h => ?_) (fun h => ?_)
        · refine g_aload_n X (j := 0) dX4_bookOf_38 rfl ?_
          refine g_iload_n X (j := 1) dX4_bookOf_39 rfl ?_
          refine g_iload_n X (j := 2) dX4_bookOf_40 rfl ?_
          obtain ⟨r3, o4, o5, o6, o7, o8, o9, o10, o11, o12, o13, hc, h⟩ := bd11 h
          refine g_callV (q0 := 0) (ci := 4) (is := [0, 1, 2, 3, 4, 5, 6, 7, 8, 9, 10, 11, 12]) (As := [.int p1, .int p2]) (ws' := [(a0, .inr (4, [.ref a1, .ref b0_1, .ref b0_2, .ref a6, .ref b0_4, .ref b0_5, .ref b0_6, .int x0_length, .int o4])), (a1, .inr (2, [.ref a2, .ref a3, .ref a4, .ref a5, .int x1_size])), (a2, .inl (cI, 10, .inl f2)), (a3, .inl (cI, 10, .inl f3)), (a4, .inl (cI, 10, .inl f4)), (a5, .inl (cI, 10, .inl f5)), (a6, .inr (1, [.ref a7, .ref a8, .ref a9, .ref a10, .ref a11, .ref a12, .ref b6_6, .int o5, .int o6, .int o7])), (a7, .inl (cI, 10, .inl o8)), (a8, .inl (cI, 10, .inl o9)), (a9, .inl (cI, 10, .inl o10)), (a10, .inl (cI, 10, .inl o11)), (a11, .inl (cI, 10, .inl o12)), (a12, .inl (cI, 10, .inl o13))]) (st := []) X (c_X4_numberOfBook l D cI cS cL a0 a1 a2 a3 a4 a5 a6 a7 a8 a9 a10 a11 a12 b0_1 b0_2 b0_4 b0_5 b0_6 b6_6 p1 p2 x0_length x0_isReadingOld x1_size f2 f3 f4 f5 x6_areOrdersCounted x6_isAnyOrder x6_size f7 f8 f9 f10 f11 f12 r3 o4 o5 o6 o7 o8 o9 o10 o11 o12 o13 hc) gX4_bookOf_X4_numberOfBook rfl ⟨rfl, rfl⟩ hd_X4_numberOfBook ⟨Nat.le_of_ble_eq_true rfl, Nat.le_of_ble_eq_true rfl⟩ ⟨Nat.zero_le _, Nat.zero_le _⟩ rfl rfl rfl rfl rfl rfl rfl (Nat.le_of_ble_eq_true rfl) rfl dX4_bookOf_41 ?_
          have h := Option.some.inj h
          simp only [Prod.mk.injEq] at h
          obtain ⟨rfl, rfl, rfl, rfl, rfl, rfl, rfl, rfl, rfl, rfl, rfl⟩ := h
          exact g_xiret X hr hlk dX4_bookOf_44 rfl rfl
        · refine g_lv (lv' := []) [] rfl ?_
          exact hK2 () h
  · have h := Option.some.inj h
    simp only [Prod.mk.injEq] at h
    obtain ⟨rfl, rfl, rfl, rfl, rfl, rfl, rfl, rfl, rfl, rfl, rfl⟩ := h
    exact g_throw (cls := "java/lang/IndexOutOfBoundsException") (text := "no such book") X Y hlt hex hlk (by decide +kernel) (by decide +kernel) ck_X4_bookOf_93 ci_X4_bookOf_93 (by decide +kernel) gw_X4_bookOf_97 hbad_97 hgood_97 dX4_bookOf_8 dX4_bookOf_11 dX4_bookOf_12 dX4_bookOf_14 dX4_bookOf_17 (Nat.le_of_ble_eq_true rfl) (Nat.le_of_ble_eq_true rfl) (Nat.le_of_ble_eq_true rfl) (Nat.le_of_ble_eq_true rfl) rfl rfl
def f_X4_ahead (p1 : Int32) (p2 : Int32) (x1_size : Int32) (f2 : Nat → Int32) (f3 : Nat → Int32) (f4 : Nat → Int32) (f5 : Nat → Int32) : Option ((Int32 ⊕ String)) := (f_X4_isBook p1 x1_size).bind (u1 fun (r1 : Int32) => (jn (u0 (some (Sum.inr "java/lang/IndexOutOfBoundsException"))) (fun K2 => (if r1 = 0 then K2 () else (f_X4_isBook p2 x1_size).bind (u1 fun (r3 : Int32) => (if r3 = 0 then K2 () else (if p1 = p2 then some (Sum.inr "java/lang/IllegalArgumentException") else (f_X2_reasonsAhead p1 p2 f2 f3 f4 f5).bind (u1 fun (r4 : Int32) => some (Sum.inl r4)))))))))
theorem ck_X4_ahead_93 : Cond.classLink RX4 93 "java/lang/IndexOutOfBoundsException" ∈ wsX4_ahead := by decide +kernel
theorem ci_X4_ahead_93 : Cond.initialized "java/lang/IndexOutOfBoundsException" ∈ wsX4_ahead := by decide +kernel
theorem gw_X4_ahead_97 : ∀ w ∈ (vx_atS RX4 97 "java/lang/IndexOutOfBoundsException" excN).filter goodWord, w ∈ wsX4_ahead := fun _ h => List.mem_cons_of_mem _ (List.mem_append_left _ (List.mem_append_right _ h))
theorem in_X4_ahead_X4 : ∀ w ∈ wsX40, w ∈ wsX4_ahead := by decide +kernel
theorem fl_X4_ahead_12 : Cond.fieldLink RX4 12 "ColophonHunt" "shelf" "LColophonHunt$Shelf;" ∈ wsX4_ahead := by decide +kernel
theorem ck_X4_ahead_68 : Cond.classLink RX4 68 "java/lang/IllegalArgumentException" ∈ wsX4_ahead := by decide +kernel
theorem ci_X4_ahead_68 : Cond.initialized "java/lang/IllegalArgumentException" ∈ wsX4_ahead := by decide +kernel
theorem gw_X4_ahead_72 : ∀ w ∈ (vx_atS RX4 72 "java/lang/IllegalArgumentException" excN).filter goodWord, w ∈ wsX4_ahead := fun _ h => List.mem_cons_of_mem _ (List.mem_append_right _ h)
theorem hd_X4_ahead : yX4_ahead.cls = RX4 ∧ yX4_ahead.cls ≠ "java/lang/invoke/MethodHandle" ∧ yX4_ahead.cls ≠ "java/lang/invoke/VarHandle" ∧ (parseMethodDescriptor yX4_ahead.desc).map (fun d => d.parameters.length) = some 2 := by decide +kernel
set_option maxRecDepth 100000 in
set_option maxHeartbeats 4000000 in
theorem c_X4_ahead (l : Launch) (hlt : l.stackTraces = false) (D : va_G) (cI cS cL : ClassId) (a0 : Nat) (a1 : Nat) (a2 : Nat) (a3 : Nat) (a4 : Nat) (a5 : Nat) (b0_1 : Nat) (b0_2 : Nat) (b0_3 : Nat) (b0_4 : Nat) (b0_5 : Nat) (b0_6 : Nat) (p1 : Int32) (p2 : Int32) (x0_length : Int32) (x0_isReadingOld : Int32) (x1_size : Int32) (f2 : Nat → Int32) (f3 : Nat → Int32) (f4 : Nat → Int32) (f5 : Nat → Int32) (rr : Int32 ⊕ String) (hc : f_X4_ahead p1 p2 x1_size f2 f3 f4 f5 = some rr) : KX l yX4_ahead wsX4_ahead { frames := 6, cells := 1, slots := 6, locals := 82 } D (tyS cI cS cL) [.ref a0, .int p1, .int p2] [(a0, .inr (4, [.ref a1, .ref b0_1, .ref b0_2, .ref b0_3, .ref b0_4, .ref b0_5, .ref b0_6, .int x0_length, .int x0_isReadingOld])), (a1, .inr (2, [.ref a2, .ref a3, .ref a4, .ref a5, .int x1_size])), (a2, .inl (cI, 10, .inl f2)), (a3, .inl (cI, 10, .inl f3)), (a4, .inl (cI, 10, .inl f4)), (a5, .inl (cI, 10, .inl f5))] rr (fun w => w = [(a0, .inr (4, [.ref a1, .ref b0_1, .ref b0_2, .ref b0_3, .ref b0_4, .ref b0_5, .ref b0_6, .int x0_length, .int x0_isReadingOld])), (a1, .inr (2, [.ref a2, .ref a3, .ref a4, .ref a5, .int x1_size])), (a2, .inl (cI, 10, .inl f2)), (a3, .inl (cI, 10, .inl f3)), (a4, .inl (cI, 10, .inl f4)), (a5, .inl (cI, 10, .inl f5))]) := by
  refine g_entryX (cc := cX4_ahead) (nL := 3) (rt := (some .int)) (by decide) rfl (Nat.le_of_ble_eq_true rfl) ?_
  intro p e s m args below meth c A (X : GC p s m args c cX4_ahead 3 RX4 wsX4_ahead D (tyS cI cS cL) A) Y hex hr hlk
  have h := hc
  unfold f_X4_ahead at h
  refine g_lv (lv' := [(0, .ref a0), (1, .int p1), (2, .int p2)]) [0, 1, 2] rfl ?_
  refine g_aload_n X (j := 0) dX4_ahead_0 rfl ?_
  refine g_iload_n X (j := 1) dX4_ahead_1 rfl ?_
  obtain ⟨r1, hc, h⟩ := bd1 h
  refine g_callV (q0 := 0) (ci := 4) (is := [0, 1]) (As := [.int p1]) (ws' := [(a0, .inr (4, [.ref a1, .ref b0_1, .ref b0_2, .ref b0_3, .ref b0_4, .ref b0_5, .ref b0_6, .int x0_length, .int x0_isReadingOld])), (a1, .inr (2, [.ref a2, .ref a3, .ref a4, .ref a5, .int x1_size])), (a2, .inl (cI, 10, .inl f2)), (a3, .inl (cI, 10, .inl f3)), (a4, .inl (cI, 10, .inl f4)), (a5, .inl (cI, 10, .inl f5))]) (st := []) X (c_X4_isBook l D cI cS cL a0 a1 b0_1 b0_2 b0_3 b0_4 b0_5 b0_6 a2 a3 a4 a5 p1 x0_length x0_isReadingOld x1_size r1 hc) gX4_ahead_X4_isBook rfl ⟨rfl, rfl⟩ hd_X4_isBook ⟨Nat.le_of_ble_eq_true rfl, Nat.le_of_ble_eq_true rfl⟩ ⟨Nat.zero_le _, Nat.zero_le _⟩ rfl rfl rfl rfl rfl rfl rfl (Nat.le_of_ble_eq_true rfl) rfl dX4_ahead_2 ?_
  refine jn_g h (u0 ([(a0, .inr (4, [.ref a1, .ref b0_1, .ref b0_2, .ref b0_3, .ref b0_4, .ref b0_5, .ref b0_6, .int x0_length, .int x0_isReadingOld])), (a1, .inr (2, [.ref a2, .ref a3, .ref a4, .ref a5, .int x1_size])), (a2, .inl (cI, 10, .inl f2)), (a3, .inl (cI, 10, .inl f3)), (a4, .inl (cI, 10, .inl f4)), (a5, .inl (cI, 10, .inl f5))])) (u0 ([])) (u0 ([])) 16 ?_ ?_
  · rintro ⟨⟩ h
    dsimp only [u0] at h ⊢
    have h := Option.some.inj h
    subst h
    exact g_throw (cls := "java/lang/IndexOutOfBoundsException") (text := "no such book") X Y hlt hex hlk (by decide +kernel) (by decide +kernel) ck_X4_ahead_93 ci_X4_ahead_93 (by decide +kernel) gw_X4_ahead_97 hbad_97 hgood_97 dX4_ahead_16 dX4_ahead_19 dX4_ahead_20 dX4_ahead_22 dX4_ahead_25 (Nat.le_of_ble_eq_true rfl) (Nat.le_of_ble_eq_true rfl) (Nat.le_of_ble_eq_true rfl) (Nat.le_of_ble_eq_true rfl) rfl rfl
  · intro K2 hK2 h
    refine g_if_eq (tgt := 16) X h dX4_ahead_5 (by decide) (fun h => ?_) (fun h => ?_)
    · refine g_lv (lv' := []) [] rfl ?_
      exact hK2 () h
    · refine g_aload_n X (j := 0) dX4_ahead_8 rfl ?_
      refine g_iload_n X (j := 2) dX4_ahead_9 rfl ?_
      obtain ⟨r3, hc, h⟩ := bd1 h
      refine g_callV (q0 := 0) (ci := 4) (is := [0, 1]) (As := [.int p2]) (ws' := [(a0, .inr (4, [.ref a1, .ref b0_1, .ref b0_2, .ref b0_3, .ref b0_4, .ref b0_5, .ref b0_6, .int x0_length, .int x0_isReadingOld])), (a1, .inr (2, [.ref a2, .ref a3, .ref a4, .ref a5, .int x1_size])), (a2, .inl (cI, 10, .inl f2)), (a3, .inl (cI, 10, .inl f3)), (a4, .inl (cI, 10, .inl f4)), (a5, .inl (cI, 10, .inl f5))]) (st := []) X (c_X4_isBook l D cI cS cL a0 a1 b0_1 b0_2 b0_3 b0_4 b0_5 b0_6 a2 a3 a4 a5 p2 x0_length x0_isReadingOld x1_size r3 hc) gX4_ahead_X4_isBook rfl ⟨rfl, rfl⟩ hd_X4_isBook ⟨Nat.le_of_ble_eq_true rfl, Nat.le_of_ble_eq_true rfl⟩ ⟨Nat.zero_le _, Nat.zero_le _⟩ rfl rfl rfl rfl rfl rfl rfl (Nat.le_of_ble_eq_true rfl) rfl dX4_ahead_10 ?_
      refine g_if_ne (tgt := 26) X h dX4_ahead_13 (by decide) (fun h => ?_) (fun h => ?_)
      · refine g_iload_n X (j := 1) dX4_ahead_26 rfl ?_
        refine g_iload_n X (j := 2) dX4_ahead_27 rfl ?_
        refine g_icmp_ne (tgt := 41) X h dX4_ahead_28 (by decide) (fun h => ?_) (fun h => ?_)
        · refine g_aload_n X (j := 0) dX4_ahead_41 rfl ?_
          refine g_get (q0 := 0) (k := 0) (ci := 4) X in_X4_ahead_X4 fl_X4_ahead_12 rfl rfl (Nat.le_of_ble_eq_true rfl) rfl dX4_ahead_42 ?_
          refine g_iload_n X (j := 1) dX4_ahead_45 rfl ?_
          refine g_iload_n X (j := 2) dX4_ahead_46 rfl ?_
          obtain ⟨r4, hc, h⟩ := bd1 h
          refine g_callV (q0 := 1) (ci := 2) (is := [1, 2, 3, 4, 5]) (As := [.int p1, .int p2]) (ws' := [(a0, .inr (4, [.ref a1, .ref b0_1, .ref b0_2, .ref b0_3, .ref b0_4, .ref b0_5, .ref b0_6, .int x0_length, .int x0_isReadingOld])), (a1, .inr (2, [.ref a2, .ref a3, .ref a4, .ref a5, .int x1_size])), (a2, .inl (cI, 10, .inl f2)), (a3, .inl (cI, 10, .inl f3)), (a4, .inl (cI, 10, .inl f4)), (a5, .inl (cI, 10, .inl f5))]) (st := []) X (c_X2_reasonsAhead l D cI cS cL a1 a2 a3 a4 a5 p1 p2 x1_size f2 f3 f4 f5 r4 hc) gX4_ahead_X2_reasonsAhead rfl ⟨rfl, rfl⟩ hd_X2_reasonsAhead ⟨Nat.le_of_ble_eq_true rfl, Nat.le_of_ble_eq_true rfl⟩ ⟨Nat.zero_le _, Nat.zero_le _⟩ rfl rfl rfl rfl rfl rfl rfl (Nat.le_of_ble_eq_true rfl) rfl dX4_ahead_47 ?_
          have h := Option.some.inj h
          subst h
          exact g_xiret X hr hlk dX4_ahead_50 rfl rfl
        · have h := Option.some.inj h
          subst h
          exact g_throw (cls := "java/lang/IllegalArgumentException") (text := "both are the same") X Y hlt hex hlk (by decide +kernel) (by decide +kernel) ck_X4_ahead_68 ci_X4_ahead_68 (by decide +kernel) gw_X4_ahead_72 hbad_72 hgood_72 dX4_ahead_31 dX4_ahead_34 dX4_ahead_35 dX4_ahead_37 dX4_ahead_40 (Nat.le_of_ble_eq_true rfl) (Nat.le_of_ble_eq_true rfl) (Nat.le_of_ble_eq_true rfl) (Nat.le_of_ble_eq_true rfl) rfl rfl
      · refine g_lv (lv' := []) [] rfl ?_
        exact hK2 () h
def f_X4_count (p1 : Int32) (x0_isReadingOld : Int32) (x1_size : Int32) (f2 : Nat → Int32) (f3 : Nat → Int32) (f4 : Nat → Int32) (f5 : Nat → Int32) (x6_size : Int32) (x7_areOrdersCounted : Int32) (x7_isAnyOrder : Int32) (x7_size : Int32) (f8 : Nat → Int32) (f9 : Nat → Int32) (f10 : Nat → Int32) (f11 : Nat → Int32) (f12 : Nat → Int32) (f13 : Nat → Int32) (f14 : Nat → Int32) : Option ((Int32 ⊕ String) × Int32 × Int32 × Int32 × Int32 × (Nat → Int32) × (Nat → Int32) × (Nat → Int32) × (Nat → Int32) × (Nat → Int32) × (Nat → Int32) × (Nat → Int32)) := (jn (u0 (some ((Sum.inr "java/lang/IllegalArgumentException"), x0_isReadingOld, x7_areOrdersCounted, x7_isAnyOrder, x7_size, f8, f9, f10, f11, f12, f13, f14))) (fun K1 => (if p1 < 0 then K1 () else (if p1 ≤ 9 then (f_X4_numberOfAll p1 x0_isReadingOld x1_size f2 f3 f4 f5 x6_size x7_areOrdersCounted x7_isAnyOrder x7_size f8 f9 f10 f11 f12 f13 f14).bind (u12 fun (r2 : Int32) (o3 : Int32) (o4 : Int32) (o5 : Int32) (o6 : Int32) (o7 : Nat → Int32) (o8 : Nat → Int32) (o9 : Nat → Int32) (o10 : Nat → Int32) (o11 : Nat → Int32) (o12 : Nat → Int32) (o13 : Nat → Int32) => some ((Sum.inl r2), o3, o4, o5, o6, o7, o8, o9, o10, o11, o12, o13)) else K1 ()))))
theorem ck_X4_count_68 : Cond.classLink RX4 68 "java/lang/IllegalArgumentException" ∈ wsX4_count := by decide +kernel
theorem ci_X4_count_68 : Cond.initialized "java/lang/IllegalArgumentException" ∈ wsX4_count := by decide +kernel
theorem gw_X4_count_72 : ∀ w ∈ (vx_atS RX4 72 "java/lang/IllegalArgumentException" excN).filter goodWord, w ∈ wsX4_count := fun _ h => List.mem_cons_of_mem _ (List.mem_append_right _ h)
theorem hd_X4_count : yX4_count.cls = RX4 ∧ yX4_count.cls ≠ "java/lang/invoke/MethodHandle" ∧ yX4_count.cls ≠ "java/lang/invoke/VarHandle" ∧ (parseMethodDescriptor yX4_count.desc).map (fun d => d.parameters.length) = some 1 := by decide +kernel
set_option maxRecDepth 100000 in
set_option maxHeartbeats 4000000 in
theorem c_X4_count (l : Launch) (hlt : l.stackTraces = false) (D : va_G) (cI cS cL : ClassId) (a0 : Nat) (a1 : Nat) (a2 : Nat) (a3 : Nat) (a4 : Nat) (a5 : Nat) (a6 : Nat) (a7 : Nat) (a8 : Nat) (a9 : Nat) (a10 : Nat) (a11 : Nat) (a12 : Nat) (a13 : Nat) (a14 : Nat) (b0_1 : Nat) (b0_4 : Nat) (b0_5 : Nat) (b0_6 : Nat) (b6_0 : Nat) (p1 : Int32) (x0_length : Int32) (x0_isReadingOld : Int32) (x1_size : Int32) (f2 : Nat → Int32) (f3 : Nat → Int32) (f4 : Nat → Int32) (f5 : Nat → Int32) (x6_size : Int32) (x7_areOrdersCounted : Int32) (x7_isAnyOrder : Int32) (x7_size : Int32) (f8 : Nat → Int32) (f9 : Nat → Int32) (f10 : Nat → Int32) (f11 : Nat → Int32) (f12 : Nat → Int32) (f13 : Nat → Int32) (f14 : Nat → Int32) (rr : Int32 ⊕ String) (y0 : Int32) (y1 : Int32) (y2 : Int32) (y3 : Int32) (y4 : Nat → Int32) (y5 : Nat → Int32) (y6 : Nat → Int32) (y7 : Nat → Int32) (y8 : Nat → Int32) (y9 : Nat → Int32) (y10 : Nat → Int32) (hc : f_X4_count p1 x0_isReadingOld x1_size f2 f3 f4 f5 x6_size x7_areOrdersCounted x7_isAnyOrder x7_size f8 f9 f10 f11 f12 f13 f14 = some (rr, y0, y1, y2, y3, y4, y5, y6, y7, y8, y9, y10)) : KX l yX4_count wsX4_count { frames := 6, cells := 1, slots := 6, locals := 109 } D (tyS cI cS cL) [.ref a0, .int p1] [(a0, .inr (4, [.ref a1, .ref b0_1, .ref a6, .ref a7, .ref b0_4, .ref b0_5, .ref b0_6, .int x0_length, .int x0_isReadingOld])), (a1, .inr (2, [.ref a2, .ref a3, .ref a4, .ref a5, .int x1_size])), (a2, .inl (cI, 10, .inl f2)), (a3, .inl (cI, 10, .inl f3)), (a4, .inl (cI, 10, .inl f4)), (a5, .inl (cI, 10, .inl f5)), (a6, .inr (0, [.ref b6_0, .int x6_size])), (a7, .inr (1, [.ref a8, .ref a9, .ref a10, .ref a11, .ref a12, .ref a13, .ref a14, .int x7_areOrdersCounted, .int x7_isAnyOrder, .int x7_size])), (a8, .inl (cI, 10, .inl f8)), (a9, .inl (cI, 10, .inl f9)), (a10, .inl (cI, 10, .inl f10)), (a11, .inl (cI, 10, .inl f11)), (a12, .inl (cI, 10, .inl f12)), (a13, .inl (cI, 10, .inl f13)), (a14, .inl (cI, 1024, .inl f14))] rr (fun w => w = [(a0, .inr (4, [.ref a1, .ref b0_1, .ref a6, .ref a7, .ref b0_4, .ref b0_5, .ref b0_6, .int x0_length, .int y0])), (a1, .inr (2, [.ref a2, .ref a3, .ref a4, .ref a5, .int x1_size])), (a2, .inl (cI, 10, .inl f2)), (a3, .inl (cI, 10, .inl f3)), (a4, .inl (cI, 10, .inl f4)), (a5, .inl (cI, 10, .inl f5)), (a6, .inr (0, [.ref b6_0, .int x6_size])), (a7, .inr (1, [.ref a8, .ref a9, .ref a10, .ref a11, .ref a12, .ref a13, .ref a14, .int y1, .int y2, .int y3])), (a8, .inl (cI, 10, .inl y4)), (a9, .inl (cI, 10, .inl y5)), (a10, .inl (cI, 10, .inl y6)), (a11, .inl (cI, 10, .inl y7)), (a12, .inl (cI, 10, .inl y8)), (a13, .inl (cI, 10, .inl y9)), (a14, .inl (cI, 1024, .inl y10))]) := by
  refine g_entryX (cc := cX4_count) (nL := 2) (rt := (some .int)) (by decide) rfl (Nat.le_of_ble_eq_true rfl) ?_
  intro p e s m args below meth c A (X : GC p s m args c cX4_count 2 RX4 wsX4_count D (tyS cI cS cL) A) Y hex hr hlk
  have h := hc
  unfold f_X4_count at h
  refine g_lv (lv' := [(0, .ref a0), (1, .int p1)]) [0, 1] rfl ?_
  refine g_iload_n X (j := 1) dX4_count_0 rfl ?_
  refine jn_g h (u0 ([(a0, .inr (4, [.ref a1, .ref b0_1, .ref a6, .ref a7, .ref b0_4, .ref b0_5, .ref b0_6, .int x0_length, .int x0_isReadingOld])), (a1, .inr (2, [.ref a2, .ref a3, .ref a4, .ref a5, .int x1_size])), (a2, .inl (cI, 10, .inl f2)), (a3, .inl (cI, 10, .inl f3)), (a4, .inl (cI, 10, .inl f4)), (a5, .inl (cI, 10, .inl f5)), (a6, .inr (0, [.ref b6_0, .int x6_size])), (a7, .inr (1, [.ref a8, .ref a9, .ref a10, .ref a11, .ref a12, .ref a13, .ref a14, .int x7_areOrdersCounted, .int x7_isAnyOrder, .int x7_size])), (a8, .inl (cI, 10, .inl f8)), (a9, .inl (cI, 10, .inl f9)), (a10, .inl (cI, 10, .inl f10)), (a11, .inl (cI, 10, .inl f11)), (a12, .inl (cI, 10, .inl f12)), (a13, .inl (cI, 10, .inl f13)), (a14, .inl (cI, 1024, .inl f14))])) (u0 ([])) (u0 ([])) 10 ?_ ?_
  · rintro ⟨⟩ h
    dsimp only [u0] at h ⊢
    have h := Option.some.inj h
    simp only [Prod.mk.injEq] at h
    obtain ⟨rfl, rfl, rfl, rfl, rfl, rfl, rfl, rfl, rfl, rfl, rfl, rfl⟩ := h
    exact g_throw (cls := "java/lang/IllegalArgumentException") (text := "what is not 0 to 9") X Y hlt hex hlk (by decide +kernel) (by decide +kernel) ck_X4_count_68 ci_X4_count_68 (by decide +kernel) gw_X4_count_72 hbad_72 hgood_72 dX4_count_10 dX4_count_13 dX4_count_14 dX4_count_16 dX4_count_19 (Nat.le_of_ble_eq_true rfl) (Nat.le_of_ble_eq_true rfl) (Nat.le_of_ble_eq_true rfl) (Nat.le_of_ble_eq_true rfl) rfl rfl
  · intro K1 hK1 h
    refine g_if_lt (tgt := 10) X h dX4_count_1 (by decide) (fun h => ?_) (fun h => ?_)
    · refine g_lv (lv' := []) [] rfl ?_
      exact hK1 () h
    · refine g_iload_n X (j := 1) dX4_count_4 rfl ?_
      refine g_bipush (v := 9) X dX4_count_5 (by decide) ?_
      refine g_icmp_le (tgt := 20) X h dX4_count_7 (by decide) (fun h => ?_) (fun h => ?_)
      · refine g_aload_n X (j := 0) dX4_count_20 rfl ?_
        refine g_iload_n X (j := 1) dX4_count_21 rfl ?_
        obtain ⟨r2, o3, o4, o5, o6, o7, o8, o9, o10, o11, o12, o13, hc, h⟩ := bd12 h
        refine g_callV (q0 := 0) (ci := 4) (is := [0, 1, 2, 3, 4, 5, 6, 7, 8, 9, 10, 11, 12, 13, 14]) (As := [.int p1]) (ws' := [(a0, .inr (4, [.ref a1, .ref b0_1, .ref a6, .ref a7, .ref b0_4, .ref b0_5, .ref b0_6, .int x0_length, .int o3])), (a1, .inr (2, [.ref a2, .ref a3, .ref a4, .ref a5, .int x1_size])), (a2, .inl (cI, 10, .inl f2)), (a3, .inl (cI, 10, .inl f3)), (a4, .inl (cI, 10, .inl f4)), (a5, .inl (cI, 10, .inl f5)), (a6, .inr (0, [.ref b6_0, .int x6_size])), (a7, .inr (1, [.ref a8, .ref a9, .ref a10, .ref a11, .ref a12, .ref a13, .ref a14, .int o4, .int o5, .int o6])), (a8, .inl (cI, 10, .inl o7)), (a9, .inl (cI, 10, .inl o8)), (a10, .inl (cI, 10, .inl o9)), (a11, .inl (cI, 10, .inl o10)), (a12, .inl (cI, 10, .inl o11)), (a13, .inl (cI, 10, .inl o12)), (a14, .inl (cI, 1024, .inl o13))]) (st := []) X (c_X4_numberOfAll l D cI cS cL a0 a1 a2 a3 a4 a5 a6 a7 a8 a9 a10 a11 a12 a13 a14 b0_1 b0_4 b0_5 b0_6 b6_0 p1 x0_length x0_isReadingOld x1_size f2 f3 f4 f5 x6_size x7_areOrdersCounted x7_isAnyOrder x7_size f8 f9 f10 f11 f12 f13 f14 r2 o3 o4 o5 o6 o7 o8 o9 o10 o11 o12 o13 hc) gX4_count_X4_numberOfAll rfl ⟨rfl, rfl⟩ hd_X4_numberOfAll ⟨Nat.le_of_ble_eq_true rfl, Nat.le_of_ble_eq_true rfl⟩ ⟨Nat.zero_le _, Nat.zero_le _⟩ rfl rfl rfl rfl rfl rfl rfl (Nat.le_of_ble_eq_true rfl) rfl dX4_count_22 ?_
        have h := Option.some.inj h
        simp only [Prod.mk.injEq] at h
        obtain ⟨rfl, rfl, rfl, rfl, rfl, rfl, rfl, rfl, rfl, rfl, rfl, rfl⟩ := h
        exact g_xiret X hr hlk dX4_count_25 rfl rfl
      · refine g_lv (lv' := []) [] rfl ?_
        exact hK1 () h
def f_X4_order (p1 : Int32) (x0_isReadingOld : Int32) (x1_size : Int32) (f2 : Nat → Int32) (f3 : Nat → Int32) (f4 : Nat → Int32) (f5 : Nat → Int32) (x6_areOrdersCounted : Int32) (x6_isAnyOrder : Int32) (x6_size : Int32) (f7 : Nat → Int32) (f8 : Nat → Int32) (f9 : Nat → Int32) (f10 : Nat → Int32) (f11 : Nat → Int32) (f12 : Nat → Int32) : Option ((Int32 ⊕ String) × Int32 × Int32 × Int32 × Int32 × (Nat → Int32) × (Nat → Int32) × (Nat → Int32) × (Nat → Int32) × (Nat → Int32) × (Nat → Int32)) := (if 0 ≤ p1 then (f_X4_currentReading x0_isReadingOld x1_size f2 f3 f4 f5 x6_areOrdersCounted x6_isAnyOrder x6_size f7 f8 f9 f10 f11 f12).bind (u10 fun (o2 : Int32) (o3 : Int32) (o4 : Int32) (o5 : Int32) (o6 : Nat → Int32) (o7 : Nat → Int32) (o8 : Nat → Int32) (o9 : Nat → Int32) (o10 : Nat → Int32) (o11 : Nat → Int32) => (f_X1_bookInFirstOrder p1 o4 o5 o6).bind (u1 fun (r12 : Int32) => some ((Sum.inl r12), o2, o3, o4, o5, o6, o7, o8, o9, o10, o11))) else some ((Sum.inr "java/lang/IllegalArgumentException"), x0_isReadingOld, x6_areOrdersCounted, x6_isAnyOrder, x6_size, f7, f8, f9, f10, f11, f12))
theorem ck_X4_order_68 : Cond.classLink RX4 68 "java/lang/IllegalArgumentException" ∈ wsX4_order := by decide +kernel
theorem ci_X4_order_68 : Cond.initialized "java/lang/IllegalArgumentException" ∈ wsX4_order := by decide +kernel
theorem gw_X4_order_72 : ∀ w ∈ (vx_atS RX4 72 "java/lang/IllegalArgumentException" excN).filter goodWord, w ∈ wsX4_order := fun _ h => List.mem_cons_of_mem _ (List.mem_append_right _ h)
theorem hd_X4_order : yX4_order.cls = RX4 ∧ yX4_order.cls ≠ "java/lang/invoke/MethodHandle" ∧ yX4_order.cls ≠ "java/lang/invoke/VarHandle" ∧ (parseMethodDescriptor yX4_order.desc).map (fun d => d.parameters.length) = some 1 := by decide +kernel
set_option maxRecDepth 100000 in
set_option maxHeartbeats 4000000 in
theorem c_X4_order (l : Launch) (hlt : l.stackTraces = false) (D : va_G) (cI cS cL : ClassId) (a0 : Nat) (a1 : Nat) (a2 : Nat) (a3 : Nat) (a4 : Nat) (a5 : Nat) (a6 : Nat) (a7 : Nat) (a8 : Nat) (a9 : Nat) (a10 : Nat) (a11 : Nat) (a12 : Nat) (b0_1 : Nat) (b0_2 : Nat) (b0_4 : Nat) (b0_5 : Nat) (b0_6 : Nat) (b6_6 : Nat) (p1 : Int32) (x0_length : Int32) (x0_isReadingOld : Int32) (x1_size : Int32) (f2 : Nat → Int32) (f3 : Nat → Int32) (f4 : Nat → Int32) (f5 : Nat → Int32) (x6_areOrdersCounted : Int32) (x6_isAnyOrder : Int32) (x6_size : Int32) (f7 : Nat → Int32) (f8 : Nat → Int32) (f9 : Nat → Int32) (f10 : Nat → Int32) (f11 : Nat → Int32) (f12 : Nat → Int32) (rr : Int32 ⊕ String) (y0 : Int32) (y1 : Int32) (y2 : Int32) (y3 : Int32) (y4 : Nat → Int32) (y5 : Nat → Int32) (y6 : Nat → Int32) (y7 : Nat → Int32) (y8 : Nat → Int32) (y9 : Nat → Int32) (hc : f_X4_order p1 x0_isReadingOld x1_size f2 f3 f4 f5 x6_areOrdersCounted x6_isAnyOrder x6_size f7 f8 f9 f10 f11 f12 = some (rr, y0, y1, y2, y3, y4, y5, y6, y7, y8, y9)) : KX l yX4_order wsX4_order { frames := 6, cells := 1, slots := 6, locals := 88 } D (tyS cI cS cL) [.ref a0, .int p1] [(a0, .inr (4, [.ref a1, .ref b0_1, .ref b0_2, .ref a6, .ref b0_4, .ref b0_5, .ref b0_6, .int x0_length, .int x0_isReadingOld])), (a1, .inr (2, [.ref a2, .ref a3, .ref a4, .ref a5, .int x1_size])), (a2, .inl (cI, 10, .inl f2)), (a3, .inl (cI, 10, .inl f3)), (a4, .inl (cI, 10, .inl f4)), (a5, .inl (cI, 10, .inl f5)), (a6, .inr (1, [.ref a7, .ref a8, .ref a9, .ref a10, .ref a11, .ref a12, .ref b6_6, .int x6_areOrdersCounted, .int x6_isAnyOrder, .int x6_size])), (a7, .inl (cI, 10, .inl f7)), (a8, .inl (cI, 10, .inl f8)), (a9, .inl (cI, 10, .inl f9)), (a10, .inl (cI, 10, .inl f10)), (a11, .inl (cI, 10, .inl f11)), (a12, .inl (cI, 10, .inl f12))] rr (fun w => w = [(a0, .inr (4, [.ref a1, .ref b0_1, .ref b0_2, .ref a6, .ref b0_4, .ref b0_5, .ref b0_6, .int x0_length, .int y0])), (a1, .inr (2, [.ref a2, .ref a3, .ref a4, .ref a5, .int x1_size])), (a2, .inl (cI, 10, .inl f2)), (a3, .inl (cI, 10, .inl f3)), (a4, .inl (cI, 10, .inl f4)), (a5, .inl (cI, 10, .inl f5)), (a6, .inr (1, [.ref a7, .ref a8, .ref a9, .ref a10, .ref a11, .ref a12, .ref b6_6, .int y1, .int y2, .int y3])), (a7, .inl (cI, 10, .inl y4)), (a8, .inl (cI, 10, .inl y5)), (a9, .inl (cI, 10, .inl y6)), (a10, .inl (cI, 10, .inl y7)), (a11, .inl (cI, 10, .inl y8)), (a12, .inl (cI, 10, .inl y9))]) := by
  refine g_entryX (cc := cX4_order) (nL := 2) (rt := (some .int)) (by decide) rfl (Nat.le_of_ble_eq_true rfl) ?_
  intro p e s m args below meth c A (X : GC p s m args c cX4_order 2 RX4 wsX4_order D (tyS cI cS cL) A) Y hex hr hlk
  have h := hc
  unfold f_X4_order at h
  refine g_lv (lv' := [(0, .ref a0), (1, .int p1)]) [0, 1] rfl ?_
  refine g_iload_n X (j := 1) dX4_order_0 rfl ?_
  refine g_if_ge (tgt := 14) X h dX4_order_1 (by decide) (fun h => ?_) (fun h => ?_)
  · refine g_aload_n X (j := 0) dX4_order_14 rfl ?_
    obtain ⟨o2, o3, o4, o5, o6, o7, o8, o9, o10, o11, hc, h⟩ := bd10 h
    refine g_callV (q0 := 0) (ci := 4) (is := [0, 1, 2, 3, 4, 5, 6, 7, 8, 9, 10, 11, 12]) (As := []) (ws' := [(a0, .inr (4, [.ref a1, .ref b0_1, .ref b0_2, .ref a6, .ref b0_4, .ref b0_5, .ref b0_6, .int x0_length, .int o2])), (a1, .inr (2, [.ref a2, .ref a3, .ref a4, .ref a5, .int x1_size])), (a2, .inl (cI, 10, .inl f2)), (a3, .inl (cI, 10, .inl f3)), (a4, .inl (cI, 10, .inl f4)), (a5, .inl (cI, 10, .inl f5)), (a6, .inr (1, [.ref a7, .ref a8, .ref a9, .ref a10, .ref a11, .ref a12, .ref b6_6, .int o3, .int o4, .int o5])), (a7, .inl (cI, 10, .inl o6)), (a8, .inl (cI, 10, .inl o7)), (a9, .inl (cI, 10, .inl o8)), (a10, .inl (cI, 10, .inl o9)), (a11, .inl (cI, 10, .inl o10)), (a12, .inl (cI, 10, .inl o11))]) (st := []) X (c_X4_currentReading l D cI cS cL a0 a1 a2 a3 a4 a5 a6 a7 a8 a9 a10 a11 a12 b0_1 b0_2 b0_4 b0_5 b0_6 b6_6 x0_length x0_isReadingOld x1_size f2 f3 f4 f5 x6_areOrdersCounted x6_isAnyOrder x6_size f7 f8 f9 f10 f11 f12 o2 o3 o4 o5 o6 o7 o8 o9 o10 o11 hc) gX4_order_X4_currentReading rfl ⟨rfl, rfl⟩ hd_X4_currentReading ⟨Nat.le_of_ble_eq_true rfl, Nat.le_of_ble_eq_true rfl⟩ ⟨Nat.zero_le _, Nat.zero_le _⟩ rfl rfl rfl rfl rfl rfl rfl (Nat.le_of_ble_eq_true rfl) rfl dX4_order_15 ?_
    refine g_iload_n X (j := 1) dX4_order_18 rfl ?_
    obtain ⟨r12, hc, h⟩ := bd1 h
    refine g_callV (q0 := 6) (ci := 1) (is := [6, 7]) (As := [.int p1]) (ws' := [(a0, .inr (4, [.ref a1, .ref b0_1, .ref b0_2, .ref a6, .ref b0_4, .ref b0_5, .ref b0_6, .int x0_length, .int o2])), (a1, .inr (2, [.ref a2, .ref a3, .ref a4, .ref a5, .int x1_size])), (a2, .inl (cI, 10, .inl f2)), (a3, .inl (cI, 10, .inl f3)), (a4, .inl (cI, 10, .inl f4)), (a5, .inl (cI, 10, .inl f5)), (a6, .inr (1, [.ref a7, .ref a8, .ref a9, .ref a10, .ref a11, .ref a12, .ref b6_6, .int o3, .int o4, .int o5])), (a7, .inl (cI, 10, .inl o6)), (a8, .inl (cI, 10, .inl o7)), (a9, .inl (cI, 10, .inl o8)), (a10, .inl (cI, 10, .inl o9)), (a11, .inl (cI, 10, .inl o10)), (a12, .inl (cI, 10, .inl o11))]) (st := []) X (c_X1_bookInFirstOrder l D cI cS cL a6 a7 a8 a9 a10 a11 a12 b6_6 p1 o3 o4 o5 o6 r12 hc) gX4_order_X1_bookInFirstOrder rfl ⟨rfl, rfl⟩ hd_X1_bookInFirstOrder ⟨Nat.le_of_ble_eq_true rfl, Nat.le_of_ble_eq_true rfl⟩ ⟨Nat.zero_le _, Nat.zero_le _⟩ rfl rfl rfl rfl rfl rfl rfl (Nat.le_of_ble_eq_true rfl) rfl dX4_order_19 ?_
    have h := Option.some.inj h
    simp only [Prod.mk.injEq] at h
    obtain ⟨rfl, rfl, rfl, rfl, rfl, rfl, rfl, rfl, rfl, rfl, rfl⟩ := h
    exact g_xiret X hr hlk dX4_order_22 rfl rfl
  · have h := Option.some.inj h
    simp only [Prod.mk.injEq] at h
    obtain ⟨rfl, rfl, rfl, rfl, rfl, rfl, rfl, rfl, rfl, rfl, rfl⟩ := h
    exact g_throw (cls := "java/lang/IllegalArgumentException") (text := "place is below 0") X Y hlt hex hlk (by decide +kernel) (by decide +kernel) ck_X4_order_68 ci_X4_order_68 (by decide +kernel) gw_X4_order_72 hbad_72 hgood_72 dX4_order_4 dX4_order_7 dX4_order_8 dX4_order_10 dX4_order_13 (Nat.le_of_ble_eq_true rfl) (Nat.le_of_ble_eq_true rfl) (Nat.le_of_ble_eq_true rfl) (Nat.le_of_ble_eq_true rfl) rfl rfl
def f_X4_place (p1 : Int32) (p2 : Int32) (x0_isReadingOld : Int32) (x1_size : Int32) (f2 : Nat → Int32) (f3 : Nat → Int32) (f4 : Nat → Int32) (f5 : Nat → Int32) (x6_areOrdersCounted : Int32) (x6_isAnyOrder : Int32) (x6_size : Int32) (f7 : Nat → Int32) (f8 : Nat → Int32) (f9 : Nat → Int32) (f10 : Nat → Int32) (f11 : Nat → Int32) (f12 : Nat → Int32) (f13 : Nat → Int32) : Option ((Int32 ⊕ String) × Int32 × Int32 × Int32 × Int32 × (Nat → Int32) × (Nat → Int32) × (Nat → Int32) × (Nat → Int32) × (Nat → Int32) × (Nat → Int32) × (Nat → Int32)) := (f_X4_isBook p1 x1_size).bind (u1 fun (r1 : Int32) => (if r1 = 0 then some ((Sum.inr "java/lang/IndexOutOfBoundsException"), x0_isReadingOld, x6_areOrdersCounted, x6_isAnyOrder, x6_size, f7, f8, f9, f10, f11, f12, f13) else (jn (u0 (some ((Sum.inr "java/lang/IllegalArgumentException"), x0_isReadingOld, x6_areOrdersCounted, x6_isAnyOrder, x6_size, f7, f8, f9, f10, f11, f12, f13))) (fun K2 => (if p2 < 0 then K2 () else (if p2 ≤ 2 then (f_X4_numberOfPlaces p1 p2 x0_isReadingOld x1_size f2 f3 f4 f5 x6_areOrdersCounted x6_isAnyOrder x6_size f7 f8 f9 f10 f11 f12 f13).bind (u12 fun (r3 : Int32) (o4 : Int32) (o5 : Int32) (o6 : Int32) (o7 : Int32) (o8 : Nat → Int32) (o9 : Nat → Int32) (o10 : Nat → Int32) (o11 : Nat → Int32) (o12 : Nat → Int32) (o13 : Nat → Int32) (o14 : Nat → Int32) => some ((Sum.inl r3), o4, o5, o6, o7, o8, o9, o10, o11, o12, o13, o14)) else K2 ()))))))
theorem ck_X4_place_68 : Cond.classLink RX4 68 "java/lang/IllegalArgumentException" ∈ wsX4_place := by decide +kernel
theorem ci_X4_place_68 : Cond.initialized "java/lang/IllegalArgumentException" ∈ wsX4_place := by decide +kernel
theorem gw_X4_place_72 : ∀ w ∈ (vx_atS RX4 72 "java/lang/IllegalArgumentException" excN).filter goodWord, w ∈ wsX4_place := fun _ h => List.mem_cons_of_mem _ (List.mem_append_right _ h)
theorem ck_X4_place_93 : Cond.classLink RX4 93 "java/lang/IndexOutOfBoundsException" ∈ wsX4_place := by decide +kernel
theorem ci_X4_place_93 : Cond.initialized "java/lang/IndexOutOfBoundsException" ∈ wsX4_place := by decide +kernel
theorem gw_X4_place_97 : ∀ w ∈ (vx_atS RX4 97 "java/lang/IndexOutOfBoundsException" excN).filter goodWord, w ∈ wsX4_place := fun _ h => List.mem_cons_of_mem _ (List.mem_append_left _ (List.mem_append_right _ h))
theorem hd_X4_place : yX4_place.cls = RX4 ∧ yX4_place.cls ≠ "java/lang/invoke/MethodHandle" ∧ yX4_place.cls ≠ "java/lang/invoke/VarHandle" ∧ (parseMethodDescriptor yX4_place.desc).map (fun d => d.parameters.length) = some 2 := by decide +kernel
set_option maxRecDepth 100000 in
set_option maxHeartbeats 4000000 in
theorem c_X4_place (l : Launch) (hlt : l.stackTraces = false) (D : va_G) (cI cS cL : ClassId) (a0 : Nat) (a1 : Nat) (a2 : Nat) (a3 : Nat) (a4 : Nat) (a5 : Nat) (a6 : Nat) (a7 : Nat) (a8 : Nat) (a9 : Nat) (a10 : Nat) (a11 : Nat) (a12 : Nat) (a13 : Nat) (b0_1 : Nat) (b0_2 : Nat) (b0_4 : Nat) (b0_5 : Nat) (b0_6 : Nat) (p1 : Int32) (p2 : Int32) (x0_length : Int32) (x0_isReadingOld : Int32) (x1_size : Int32) (f2 : Nat → Int32) (f3 : Nat → Int32) (f4 : Nat → Int32) (f5 : Nat → Int32) (x6_areOrdersCounted : Int32) (x6_isAnyOrder : Int32) (x6_size : Int32) (f7 : Nat → Int32) (f8 : Nat → Int32) (f9 : Nat → Int32) (f10 : Nat → Int32) (f11 : Nat → Int32) (f12 : Nat → Int32) (f13 : Nat → Int32) (rr : Int32 ⊕ String) (y0 : Int32) (y1 : Int32) (y2 : Int32) (y3 : Int32) (y4 : Nat → Int32) (y5 : Nat → Int32) (y6 : Nat → Int32) (y7 : Nat → Int32) (y8 : Nat → Int32) (y9 : Nat → Int32) (y10 : Nat → Int32) (hc : f_X4_place p1 p2 x0_isReadingOld x1_size f2 f3 f4 f5 x6_areOrdersCounted x6_isAnyOrder x6_size f7 f8 f9 f10 f11 f12 f13 = some (rr, y0, y1, y2, y3, y4, y5, y6, y7, y8, y9, y10)) : KX l yX4_place wsX4_place { frames := 6, cells := 1, slots := 6, locals := 110 } D (tyS cI cS cL) [.ref a0, .int p1, .int p2] [(a0, .inr (4, [.ref a1, .ref b0_1, .ref b0_2, .ref a6, .ref b0_4, .ref b0_5, .ref b0_6, .int x0_length, .int x0_isReadingOld])), (a1, .inr (2, [.ref a2, .ref a3, .ref a4, .ref a5, .int x1_size])), (a2, .inl (cI, 10, .inl f2)), (a3, .inl (cI, 10, .inl f3)), (a4, .inl (cI, 10, .inl f4)), (a5, .inl (cI, 10, .inl f5)), (a6, .inr (1, [.ref a7, .ref a8, .ref a9, .ref a10, .ref a11, .ref a12, .ref a13, .int x6_areOrdersCounted, .int x6_isAnyOrder, .int x6_size])), (a7, .inl (cI, 10, .inl f7)), (a8, .inl (cI, 10, .inl f8)), (a9, .inl (cI, 10, .inl f9)), (a10, .inl (cI, 10, .inl f10)), (a11, .inl (cI, 10, .inl f11)), (a12, .inl (cI, 10, .inl f12)), (a13, .inl (cI, 1024, .inl f13))] rr (fun w => w = [(a0, .inr (4, [.ref a1, .ref b0_1, .ref b0_2, .ref a6, .ref b0_4, .ref b0_5, .ref b0_6, .int x0_length, .int y0])), (a1, .inr (2, [.ref a2, .ref a3, .ref a4, .ref a5, .int x1_size])), (a2, .inl (cI, 10, .inl f2)), (a3, .inl (cI, 10, .inl f3)), (a4, .inl (cI, 10, .inl f4)), (a5, .inl (cI, 10, .inl f5)), (a6, .inr (1, [.ref a7, .ref a8, .ref a9, .ref a10, .ref a11, .ref a12, .ref a13, .int y1, .int y2, .int y3])), (a7, .inl (cI, 10, .inl y4)), (a8, .inl (cI, 10, .inl y5)), (a9, .inl (cI, 10, .inl y6)), (a10, .inl (cI, 10, .inl y7)), (a11, .inl (cI, 10, .inl y8)), (a12, .inl (cI, 10, .inl y9)), (a13, .inl (cI, 1024, .inl y10))]) := by
  refine g_entryX (cc := cX4_place) (nL := 3) (rt := (some .int)) (by decide) rfl (Nat.le_of_ble_eq_true rfl) ?_
  intro p e s m args below meth c A (X : GC p s m args c cX4_place 3 RX4 wsX4_place D (tyS cI cS cL) A) Y hex hr hlk
  have h := hc
  unfold f_X4_place at h
  refine g_lv (lv' := [(0, .ref a0), (1, .int p1), (2, .int p2)]) [0, 1, 2] rfl ?_
  refine g_aload_n X (j := 0) dX4_place_0 rfl ?_
  refine g_iload_n X (j := 1) dX4_place_1 rfl ?_
  obtain ⟨r1, hc, h⟩ := bd1 h
  refine g_callV (q0 := 0) (ci := 4) (is := [0, 1]) (As := [.int p1]) (ws' := [(a0, .inr (4, [.ref a1, .ref b0_1, .ref b0_2, .ref a6, .ref b0_4, .ref b0_5, .ref b0_6, .int x0_length, .int x0_isReadingOld])), (a1, .inr (2, [.ref a2, .ref a3, .ref a4, .ref a5, .int x1_size])), (a2, .inl (cI, 10, .inl f2)), (a3, .inl (cI, 10, .inl f3)), (a4, .inl (cI, 10, .inl f4)), (a5, .inl (cI, 10, .inl f5)), (a6, .inr (1, [.ref a7, .ref a8, .ref a9, .ref a10, .ref a11, .ref a12, .ref a13, .int x6_areOrdersCounted, .int x6_isAnyOrder, .int x6_size])), (a7, .inl (cI, 10, .inl f7)), (a8, .inl (cI, 10, .inl f8)), (a9, .inl (cI, 10, .inl f9)), (a10, .inl (cI, 10, .inl f10)), (a11, .inl (cI, 10, .inl f11)), (a12, .inl (cI, 10, .inl f12)), (a13, .inl (cI, 1024, .inl f13))]) (st := []) X (c_X4_isBook l D cI cS cL a0 a1 b0_1 b0_2 a6 b0_4 b0_5 b0_6 a2 a3 a4 a5 p1 x0_length x0_isReadingOld x1_size r1 hc) gX4_place_X4_isBook rfl ⟨rfl, rfl⟩ hd_X4_isBook ⟨Nat.le_of_ble_eq_true rfl, Nat.le_of_ble_eq_true rfl⟩ ⟨Nat.zero_le _, Nat.zero_le _⟩ rfl rfl rfl rfl rfl rfl rfl (Nat.le_of_ble_eq_true rfl) rfl dX4_place_2 ?_
  refine g_if_ne (tgt := 18) X h dX4_place_5 (by decide) (fun h => ?_) (fun h => ?_)
  · refine g_iload_n X (j := 2) dX4_place_18 rfl ?_
    refine jn_g h (u0 ([(a0, .inr (4, [.ref a1, .ref b0_1, .ref b0_2, .ref a6, .ref b0_4, .ref b0_5, .ref b0_6, .int x0_length, .int x0_isReadingOld])), (a1, .inr (2, [.ref a2, .ref a3, .ref a4, .ref a5, .int x1_size])), (a2, .inl (cI, 10, .inl f2)), (a3, .inl (cI, 10, .inl f3)), (a4, .inl (cI, 10, .inl f4)), (a5, .inl (cI, 10, .inl f5)), (a6, .inr (1, [.ref a7, .ref a8, .ref a9, .ref a10, .ref a11, .ref a12, .ref a13, .int x6_areOrdersCounted, .int x6_isAnyOrder, .int x6_size])), (a7, .inl (cI, 10, .inl f7)), (a8, .inl (cI, 10, .inl f8)), (a9, .inl (cI, 10, .inl f9)), (a10, .inl (cI, 10, .inl f10)), (a11, .inl (cI, 10, .inl f11)), (a12, .inl (cI, 10, .inl f12)), (a13, .inl (cI, 1024, .inl f13))])) (u0 ([])) (u0 ([])) 27 ?_ ?_
    · rintro ⟨⟩ h
      dsimp only [u0] at h ⊢
      have h := Option.some.inj h
      simp only [Prod.mk.injEq] at h
      obtain ⟨rfl, rfl, rfl, rfl, rfl, rfl, rfl, rfl, rfl, rfl, rfl, rfl⟩ := h
      exact g_throw (cls := "java/lang/IllegalArgumentException") (text := "what is not 0 to 2") X Y hlt hex hlk (by decide +kernel) (by decide +kernel) ck_X4_place_68 ci_X4_place_68 (by decide +kernel) gw_X4_place_72 hbad_72 hgood_72 dX4_place_27 dX4_place_30 dX4_place_31 dX4_place_33 dX4_place_36 (Nat.le_of_ble_eq_true rfl) (Nat.le_of_ble_eq_true rfl) (Nat.le_of_ble_eq_true rfl) (Nat.le_of_ble_eq_true rfl) rfl rfl
    · intro K2 hK2 h
      refine g_if_lt (tgt := 27) X h dX4_place_19 (by decide) (fun h => ?_) (fun h => ?_)
      · refine g_lv (lv' := []) [] rfl ?_
        exact hK2 () h
      · refine g_iload_n X (j := 2) dX4_place_22 rfl ?_
        refine g_iconst (v := 2) X dX4_place_23 (by decide) ?_
        refine g_icmp_le (tgt := 37) X h dX4_place_24 (by decide) (fun h => ?_) (fun h => ?_)
        · refine g_aload_n X (j := 0) dX4_place_37 rfl ?_
          refine g_iload_n X (j := 1) dX4_place_38 rfl ?_
          refine g_iload_n X (j := 2) dX4_place_39 rfl ?_
          obtain ⟨r3, o4, o5, o6, o7, o8, o9, o10, o11, o12, o13, o14, hc, h⟩ := bd12 h
          refine g_callV (q0 := 0) (ci := 4) (is := [0, 1, 2, 3, 4, 5, 6, 7, 8, 9, 10, 11, 12, 13]) (As := [.int p1, .int p2]) (ws' := [(a0, .inr (4, [.ref a1, .ref b0_1, .ref b0_2, .ref a6, .ref b0_4, .ref b0_5, .ref b0_6, .int x0_length, .int o4])), (a1, .inr (2, [.ref a2, .ref a3, .ref a4, .ref a5, .int x1_size])), (a2, .inl (cI, 10, .inl f2)), (a3, .inl (cI, 10, .inl f3)), (a4, .inl (cI, 10, .inl f4)), (a5, .inl (cI, 10, .inl f5)), (a6, .inr (1, [.ref a7, .ref a8, .ref a9, .ref a10, .ref a11, .ref a12, .ref a13, .int o5, .int o6, .int o7])), (a7, .inl (cI, 10, .inl o8)), (a8, .inl (cI, 10, .inl o9)), (a9, .inl (cI, 10, .inl o10)), (a10, .inl (cI, 10, .inl o11)), (a11, .inl (cI, 10, .inl o12)), (a12, .inl (cI, 10, .inl o13)), (a13, .inl (cI, 1024, .inl o14))]) (st := []) X (c_X4_numberOfPlaces l D cI cS cL a0 a1 a2 a3 a4 a5 a6 a7 a8 a9 a10 a11 a12 a13 b0_1 b0_2 b0_4 b0_5 b0_6 p1 p2 x0_length x0_isReadingOld x1_size f2 f3 f4 f5 x6_areOrdersCounted x6_isAnyOrder x6_size f7 f8 f9 f10 f11 f12 f13 r3 o4 o5 o6 o7 o8 o9 o10 o11 o12 o13 o14 hc) gX4_place_X4_numberOfPlaces rfl ⟨rfl, rfl⟩ hd_X4_numberOfPlaces ⟨Nat.le_of_ble_eq_true rfl, Nat.le_of_ble_eq_true rfl⟩ ⟨Nat.zero_le _, Nat.zero_le _⟩ rfl rfl rfl rfl rfl rfl rfl (Nat.le_of_ble_eq_true rfl) rfl dX4_place_40 ?_
          have h := Option.some.inj h
          simp only [Prod.mk.injEq] at h
          obtain ⟨rfl, rfl, rfl, rfl, rfl, rfl, rfl, rfl, rfl, rfl, rfl, rfl⟩ := h
          exact g_xiret X hr hlk dX4_place_43 rfl rfl
        · refine g_lv (lv' := []) [] rfl ?_
          exact hK2 () h
  · have h := Option.some.inj h
    simp only [Prod.mk.injEq] at h
    obtain ⟨rfl, rfl, rfl, rfl, rfl, rfl, rfl, rfl, rfl, rfl, rfl, rfl⟩ := h
    exact g_throw (cls := "java/lang/IndexOutOfBoundsException") (text := "no such book") X Y hlt hex hlk (by decide +kernel) (by decide +kernel) ck_X4_place_93 ci_X4_place_93 (by decide +kernel) gw_X4_place_97 hbad_97 hgood_97 dX4_place_8 dX4_place_11 dX4_place_12 dX4_place_14 dX4_place_17 (Nat.le_of_ble_eq_true rfl) (Nat.le_of_ble_eq_true rfl) (Nat.le_of_ble_eq_true rfl) (Nat.le_of_ble_eq_true rfl) rfl rfl
def f_X4_wrong (p1 : Int32) (x0_isReadingOld : Int32) (x1_size : Int32) (f2 : Nat → Int32) (f3 : Nat → Int32) (f4 : Nat → Int32) (f5 : Nat → Int32) (x6_areOrdersCounted : Int32) (x6_isAnyOrder : Int32) (x6_size : Int32) (f7 : Nat → Int32) (f8 : Nat → Int32) (f9 : Nat → Int32) (f10 : Nat → Int32) (f11 : Nat → Int32) (f12 : Nat → Int32) (f13 : Nat → Int32) : Option ((Int32 ⊕ String) × Int32 × Int32 × Int32 × Int32 × (Nat → Int32) × (Nat → Int32) × (Nat → Int32) × (Nat → Int32) × (Nat → Int32) × (Nat → Int32) × (Nat → Int32)) := (jn (u0 ((f_X4_currentReading x0_isReadingOld x1_size f2 f3 f4 f5 x6_areOrdersCounted x6_isAnyOrder x6_size f7 f8 f9 f10 f11 f12).bind (u10 fun (o3 : Int32) (o4 : Int32) (o5 : Int32) (o6 : Int32) (o7 : Nat → Int32) (o8 : Nat → Int32) (o9 : Nat → Int32) (o10 : Nat → Int32) (o11 : Nat → Int32) (o12 : Nat → Int32) => (f_X1_leastWrongBooks o4 o5 o6 o7 f13).bind (u3 fun (r13 : Int32) (o14 : Int32) (o15 : Nat → Int32) => (jn (u1 fun (s16 : Int32) => some ((Sum.inl s16), o3, o14, o5, o6, o7, o8, o9, o10, o11, o12, o15)) (fun K17 => (if p1 = 0 then (f_J6_bitCount_0f7a4 r13).bind (u1 fun (r18 : Int32) => K17 r18) else K17 r13))))))) (fun K1 => (if p1 = 0 then K1 () else (if p1 = 1 then K1 () else some ((Sum.inr "java/lang/IllegalArgumentException"), x0_isReadingOld, x6_areOrdersCounted, x6_isAnyOrder, x6_size, f7, f8, f9, f10, f11, f12, f13)))))
theorem ck_X4_wrong_68 : Cond.classLink RX4 68 "java/lang/IllegalArgumentException" ∈ wsX4_wrong := by decide +kernel
theorem ci_X4_wrong_68 : Cond.initialized "java/lang/IllegalArgumentException" ∈ wsX4_wrong := by decide +kernel
theorem gw_X4_wrong_72 : ∀ w ∈ (vx_atS RX4 72 "java/lang/IllegalArgumentException" excN).filter goodWord, w ∈ wsX4_wrong := fun _ h => List.mem_cons_of_mem _ (List.mem_append_right _ h)
theorem hd_X4_wrong : yX4_wrong.cls = RX4 ∧ yX4_wrong.cls ≠ "java/lang/invoke/MethodHandle" ∧ yX4_wrong.cls ≠ "java/lang/invoke/VarHandle" ∧ (parseMethodDescriptor yX4_wrong.desc).map (fun d => d.parameters.length) = some 1 := by decide +kernel
set_option maxRecDepth 100000 in
set_option maxHeartbeats 4000000 in
theorem c_X4_wrong (l : Launch) (hlt : l.stackTraces = false) (D : va_G) (cI cS cL : ClassId) (a0 : Nat) (a1 : Nat) (a2 : Nat) (a3 : Nat) (a4 : Nat) (a5 : Nat) (a6 : Nat) (a7 : Nat) (a8 : Nat) (a9 : Nat) (a10 : Nat) (a11 : Nat) (a12 : Nat) (a13 : Nat) (b0_1 : Nat) (b0_2 : Nat) (b0_4 : Nat) (b0_5 : Nat) (b0_6 : Nat) (p1 : Int32) (x0_length : Int32) (x0_isReadingOld : Int32) (x1_size : Int32) (f2 : Nat → Int32) (f3 : Nat → Int32) (f4 : Nat → Int32) (f5 : Nat → Int32) (x6_areOrdersCounted : Int32) (x6_isAnyOrder : Int32) (x6_size : Int32) (f7 : Nat → Int32) (f8 : Nat → Int32) (f9 : Nat → Int32) (f10 : Nat → Int32) (f11 : Nat → Int32) (f12 : Nat → Int32) (f13 : Nat → Int32) (rr : Int32 ⊕ String) (y0 : Int32) (y1 : Int32) (y2 : Int32) (y3 : Int32) (y4 : Nat → Int32) (y5 : Nat → Int32) (y6 : Nat → Int32) (y7 : Nat → Int32) (y8 : Nat → Int32) (y9 : Nat → Int32) (y10 : Nat → Int32) (hc : f_X4_wrong p1 x0_isReadingOld x1_size f2 f3 f4 f5 x6_areOrdersCounted x6_isAnyOrder x6_size f7 f8 f9 f10 f11 f12 f13 = some (rr, y0, y1, y2, y3, y4, y5, y6, y7, y8, y9, y10)) : KX l yX4_wrong wsX4_wrong { frames := 6, cells := 1, slots := 6, locals := 88 } D (tyS cI cS cL) [.ref a0, .int p1] [(a0, .inr (4, [.ref a1, .ref b0_1, .ref b0_2, .ref a6, .ref b0_4, .ref b0_5, .ref b0_6, .int x0_length, .int x0_isReadingOld])), (a1, .inr (2, [.ref a2, .ref a3, .ref a4, .ref a5, .int x1_size])), (a2, .inl (cI, 10, .inl f2)), (a3, .inl (cI, 10, .inl f3)), (a4, .inl (cI, 10, .inl f4)), (a5, .inl (cI, 10, .inl f5)), (a6, .inr (1, [.ref a7, .ref a8, .ref a9, .ref a10, .ref a11, .ref a12, .ref a13, .int x6_areOrdersCounted, .int x6_isAnyOrder, .int x6_size])), (a7, .inl (cI, 10, .inl f7)), (a8, .inl (cI, 10, .inl f8)), (a9, .inl (cI, 10, .inl f9)), (a10, .inl (cI, 10, .inl f10)), (a11, .inl (cI, 10, .inl f11)), (a12, .inl (cI, 10, .inl f12)), (a13, .inl (cI, 1024, .inl f13))] rr (fun w => w = [(a0, .inr (4, [.ref a1, .ref b0_1, .ref b0_2, .ref a6, .ref b0_4, .ref b0_5, .ref b0_6, .int x0_length, .int y0])), (a1, .inr (2, [.ref a2, .ref a3, .ref a4, .ref a5, .int x1_size])), (a2, .inl (cI, 10, .inl f2)), (a3, .inl (cI, 10, .inl f3)), (a4, .inl (cI, 10, .inl f4)), (a5, .inl (cI, 10, .inl f5)), (a6, .inr (1, [.ref a7, .ref a8, .ref a9, .ref a10, .ref a11, .ref a12, .ref a13, .int y1, .int y2, .int y3])), (a7, .inl (cI, 10, .inl y4)), (a8, .inl (cI, 10, .inl y5)), (a9, .inl (cI, 10, .inl y6)), (a10, .inl (cI, 10, .inl y7)), (a11, .inl (cI, 10, .inl y8)), (a12, .inl (cI, 10, .inl y9)), (a13, .inl (cI, 1024, .inl y10))]) := by
  refine g_entryX (cc := cX4_wrong) (nL := 3) (rt := (some .int)) (by decide) rfl (Nat.le_of_ble_eq_true rfl) ?_
  intro p e s m args below meth c A (X : GC p s m args c cX4_wrong 3 RX4 wsX4_wrong D (tyS cI cS cL) A) Y hex hr hlk
  have h := hc
  unfold f_X4_wrong at h
  refine g_lv (lv' := [(0, .ref a0), (1, .int p1)]) [0, 1] rfl ?_
  refine g_iload_n X (j := 1) dX4_wrong_0 rfl ?_
  refine jn_g h (u0 ([(a0, .inr (4, [.ref a1, .ref b0_1, .ref b0_2, .ref a6, .ref b0_4, .ref b0_5, .ref b0_6, .int x0_length, .int x0_isReadingOld])), (a1, .inr (2, [.ref a2, .ref a3, .ref a4, .ref a5, .int x1_size])), (a2, .inl (cI, 10, .inl f2)), (a3, .inl (cI, 10, .inl f3)), (a4, .inl (cI, 10, .inl f4)), (a5, .inl (cI, 10, .inl f5)), (a6, .inr (1, [.ref a7, .ref a8, .ref a9, .ref a10, .ref a11, .ref a12, .ref a13, .int x6_areOrdersCounted, .int x6_isAnyOrder, .int x6_size])), (a7, .inl (cI, 10, .inl f7)), (a8, .inl (cI, 10, .inl f8)), (a9, .inl (cI, 10, .inl f9)), (a10, .inl (cI, 10, .inl f10)), (a11, .inl (cI, 10, .inl f11)), (a12, .inl (cI, 10, .inl f12)), (a13, .inl (cI, 1024, .inl f13))])) (u0 ([(0, .ref a0), (1, .int p1)])) (u0 ([])) 19 ?_ ?_
  · rintro ⟨⟩ h
    dsimp only [u0] at h ⊢
    refine g_aload_n X (j := 0) dX4_wrong_19 rfl ?_
    obtain ⟨o3, o4, o5, o6, o7, o8, o9, o10, o11, o12, hc, h⟩ := bd10 h
    refine g_callV (q0 := 0) (ci := 4) (is := [0, 1, 2, 3, 4, 5, 6, 7, 8, 9, 10, 11, 12]) (As := []) (ws' := [(a0, .inr (4, [.ref a1, .ref b0_1, .ref b0_2, .ref a6, .ref b0_4, .ref b0_5, .ref b0_6, .int x0_length, .int o3])), (a1, .inr (2, [.ref a2, .ref a3, .ref a4, .ref a5, .int x1_size])), (a2, .inl (cI, 10, .inl f2)), (a3, .inl (cI, 10, .inl f3)), (a4, .inl (cI, 10, .inl f4)), (a5, .inl (cI, 10, .inl f5)), (a6, .inr (1, [.ref a7, .ref a8, .ref a9, .ref a10, .ref a11, .ref a12, .ref a13, .int o4, .int o5, .int o6])), (a7, .inl (cI, 10, .inl o7)), (a8, .inl (cI, 10, .inl o8)), (a9, .inl (cI, 10, .inl o9)), (a10, .inl (cI, 10, .inl o10)), (a11, .inl (cI, 10, .inl o11)), (a12, .inl (cI, 10, .inl o12)), (a13, .inl (cI, 1024, .inl f13))]) (st := []) X (c_X4_currentReading l D cI cS cL a0 a1 a2 a3 a4 a5 a6 a7 a8 a9 a10 a11 a12 b0_1 b0_2 b0_4 b0_5 b0_6 a13 x0_length x0_isReadingOld x1_size f2 f3 f4 f5 x6_areOrdersCounted x6_isAnyOrder x6_size f7 f8 f9 f10 f11 f12 o3 o4 o5 o6 o7 o8 o9 o10 o11 o12 hc) gX4_wrong_X4_currentReading rfl ⟨rfl, rfl⟩ hd_X4_currentReading ⟨Nat.le_of_ble_eq_true rfl, Nat.le_of_ble_eq_true rfl⟩ ⟨Nat.zero_le _, Nat.zero_le _⟩ rfl rfl rfl rfl rfl rfl rfl (Nat.le_of_ble_eq_true rfl) rfl dX4_wrong_20 ?_
    obtain ⟨r13, o14, o15, hc, h⟩ := bd3 h
    refine g_callV (q0 := 6) (ci := 1) (is := [6, 7, 13]) (As := []) (ws' := [(a0, .inr (4, [.ref a1, .ref b0_1, .ref b0_2, .ref a6, .ref b0_4, .ref b0_5, .ref b0_6, .int x0_length, .int o3])), (a1, .inr (2, [.ref a2, .ref a3, .ref a4, .ref a5, .int x1_size])), (a2, .inl (cI, 10, .inl f2)), (a3, .inl (cI, 10, .inl f3)), (a4, .inl (cI, 10, .inl f4)), (a5, .inl (cI, 10, .inl f5)), (a6, .inr (1, [.ref a7, .ref a8, .ref a9, .ref a10, .ref a11, .ref a12, .ref a13, .int o14, .int o5, .int o6])), (a7, .inl (cI, 10, .inl o7)), (a8, .inl (cI, 10, .inl o8)), (a9, .inl (cI, 10, .inl o9)), (a10, .inl (cI, 10, .inl o10)), (a11, .inl (cI, 10, .inl o11)), (a12, .inl (cI, 10, .inl o12)), (a13, .inl (cI, 1024, .inl o15))]) (st := []) X (c_X1_leastWrongBooks l D cI cS cL a6 a7 a13 a8 a9 a10 a11 a12 o4 o5 o6 o7 f13 r13 o14 o15 hc) gX4_wrong_X1_leastWrongBooks rfl ⟨rfl, rfl⟩ hd_X1_leastWrongBooks ⟨Nat.le_of_ble_eq_true rfl, Nat.le_of_ble_eq_true rfl⟩ ⟨Nat.zero_le _, Nat.zero_le _⟩ rfl rfl rfl rfl rfl rfl rfl (Nat.le_of_ble_eq_true rfl) rfl dX4_wrong_23 ?_
    refine g_istore_n (lv' := [(2, .int r13), (0, .ref a0), (1, .int p1)]) X dX4_wrong_26 rfl (by decide) rfl ?_
    refine g_iload_n X (j := 2) dX4_wrong_27 rfl ?_
    refine jn_g h (u1 fun s16 => [(a0, .inr (4, [.ref a1, .ref b0_1, .ref b0_2, .ref a6, .ref b0_4, .ref b0_5, .ref b0_6, .int x0_length, .int o3])), (a1, .inr (2, [.ref a2, .ref a3, .ref a4, .ref a5, .int x1_size])), (a2, .inl (cI, 10, .inl f2)), (a3, .inl (cI, 10, .inl f3)), (a4, .inl (cI, 10, .inl f4)), (a5, .inl (cI, 10, .inl f5)), (a6, .inr (1, [.ref a7, .ref a8, .ref a9, .ref a10, .ref a11, .ref a12, .ref a13, .int o14, .int o5, .int o6])), (a7, .inl (cI, 10, .inl o7)), (a8, .inl (cI, 10, .inl o8)), (a9, .inl (cI, 10, .inl o9)), (a10, .inl (cI, 10, .inl o10)), (a11, .inl (cI, 10, .inl o11)), (a12, .inl (cI, 10, .inl o12)), (a13, .inl (cI, 1024, .inl o15))]) (u1 fun s16 => []) (u1 fun s16 => [.int s16]) 39 ?_ ?_
    · rintro s16 h
      dsimp only [u1] at h ⊢
      have h := Option.some.inj h
      simp only [Prod.mk.injEq] at h
      obtain ⟨rfl, rfl, rfl, rfl, rfl, rfl, rfl, rfl, rfl, rfl, rfl, rfl⟩ := h
      exact g_xiret X hr hlk dX4_wrong_39 rfl rfl
    · intro K17 hK17 h
      refine g_if_ne (tgt := 38) X h dX4_wrong_28 (by decide) (fun h => ?_) (fun h => ?_)
      · refine g_iload_n X (j := 0) dX4_wrong_38 rfl ?_
        refine g_lv (lv' := []) [] rfl ?_
        exact hK17 r13 h
      · refine g_iload_n X (j := 0) dX4_wrong_31 rfl ?_
        obtain ⟨r18, hc, h⟩ := bd1 h
        refine g_callS (is := []) (As := [.int r13]) (ws' := [(a0, .inr (4, [.ref a1, .ref b0_1, .ref b0_2, .ref a6, .ref b0_4, .ref b0_5, .ref b0_6, .int x0_length, .int o3])), (a1, .inr (2, [.ref a2, .ref a3, .ref a4, .ref a5, .int x1_size])), (a2, .inl (cI, 10, .inl f2)), (a3, .inl (cI, 10, .inl f3)), (a4, .inl (cI, 10, .inl f4)), (a5, .inl (cI, 10, .inl f5)), (a6, .inr (1, [.ref a7, .ref a8, .ref a9, .ref a10, .ref a11, .ref a12, .ref a13, .int o14, .int o5, .int o6])), (a7, .inl (cI, 10, .inl o7)), (a8, .inl (cI, 10, .inl o8)), (a9, .inl (cI, 10, .inl o9)), (a10, .inl (cI, 10, .inl o10)), (a11, .inl (cI, 10, .inl o11)), (a12, .inl (cI, 10, .inl o12)), (a13, .inl (cI, 1024, .inl o15))]) (st := []) X (c_J6_bitCount_0f7a4 l D cI cS cL r13 r18 hc) gX4_wrong_J6_bitCount_0f7a4 rfl ⟨rfl, rfl⟩ hd_J6_bitCount_0f7a4.2 ⟨Nat.le_of_ble_eq_true rfl, Nat.le_of_ble_eq_true rfl⟩ ⟨Nat.zero_le _, Nat.zero_le _⟩ rfl rfl rfl rfl rfl (Nat.le_of_ble_eq_true rfl) rfl dX4_wrong_32 ?_
        refine g_goto (tgt := 39) X dX4_wrong_35 (by decide) ?_
        refine g_lv (lv' := []) [] rfl ?_
        exact hK17 r18 h
  · intro K1 hK1 h
    refine g_if_eq (tgt := 19) X h dX4_wrong_1 (by decide) (fun h => ?_) (fun h => ?_)
    · exact hK1 () h
    · refine g_iload_n X (j := 1) dX4_wrong_4 rfl ?_
      refine g_iconst (v := 1) X dX4_wrong_5 (by decide) ?_
      refine g_icmp_eq (tgt := 19) X h dX4_wrong_6 (by decide) (fun h => ?_) (fun h => ?_)
      · exact hK1 () h
      · have h := Option.some.inj h
        simp only [Prod.mk.injEq] at h
        obtain ⟨rfl, rfl, rfl, rfl, rfl, rfl, rfl, rfl, rfl, rfl, rfl, rfl⟩ := h
        exact g_throw (cls := "java/lang/IllegalArgumentException") (text := "what is not 0 or 1") X Y hlt hex hlk (by decide +kernel) (by decide +kernel) ck_X4_wrong_68 ci_X4_wrong_68 (by decide +kernel) gw_X4_wrong_72 hbad_72 hgood_72 dX4_wrong_9 dX4_wrong_12 dX4_wrong_13 dX4_wrong_15 dX4_wrong_18 (Nat.le_of_ble_eq_true rfl) (Nat.le_of_ble_eq_true rfl) (Nat.le_of_ble_eq_true rfl) (Nat.le_of_ble_eq_true rfl) rfl rfl
