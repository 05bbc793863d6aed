set_option maxRecDepth 20000 in
theorem ggX5_order_X5_fails : GoodIn wsX5_order wsX5_fails := goodIn_r _ [6, 1, 39, 40, 41, 42, 43, 44, 45, 46, 47, 48, 49, 50, 51, 52, 53] (by decide +kernel) (by decide +kernel)
set_option maxRecDepth 20000 in
theorem gX5_order_X5_fails : GoodIn wsX5_order (wsV RX5 49 RX5 yX5_fails wsX5_fails) := goodIn_app (goodIn_of _ (by decide +kernel)) ggX5_order_X5_fails
set_option maxRecDepth 20000 in
theorem ggX5_order_X5_ordered : GoodIn wsX5_order wsX5_ordered := goodIn_r _ [10, 11, 12, 13, 14, 15, 5, 16, 17, 18, 19, 20, 21, 22, 23, 24, 25, 26, 27, 28, 29, 30, 31, 32, 33, 34, 35, 36, 37, 38, 39, 40, 41, 42, 43, 44, 45, 46, 47, 48, 49, 50, 51, 52, 53] (by decide +kernel) (by decide +kernel)
set_option maxRecDepth 20000 in
theorem gX5_order_X5_ordered : GoodIn wsX5_order (wsV RX5 169 RX5 yX5_ordered wsX5_ordered) := goodIn_app (goodIn_of _ (by decide +kernel)) ggX5_order_X5_ordered
theorem dX5_order_0 : decode cX5_order 0 = .ok (.aload_n 0, 1) := by decide +kernel
theorem dX5_order_1 : decode cX5_order 1 = .ok (.iconst 0, 1) := by decide +kernel
theorem dX5_order_2 : decode cX5_order 2 = .ok (.putfield 38, 3) := by decide +kernel
theorem dX5_order_5 : decode cX5_order 5 = .ok (.iload_n 1, 1) := by decide +kernel
theorem dX5_order_6 : decode cX5_order 6 = .ok (.ifCond .ge 11, 3) := by decide +kernel
theorem dX5_order_9 : decode cX5_order 9 = .ok (.aload_n 0, 1) := by decide +kernel
theorem dX5_order_10 : decode cX5_order 10 = .ok (.iconst 1, 1) := by decide +kernel
theorem dX5_order_11 : decode cX5_order 11 = .ok (.invokevirtual 49, 3) := by decide +kernel
theorem dX5_order_14 : decode cX5_order 14 = .ok (.goto 8, 3) := by decide +kernel
theorem dX5_order_17 : decode cX5_order 17 = .ok (.aload_n 0, 1) := by decide +kernel
theorem dX5_order_18 : decode cX5_order 18 = .ok (.iload_n 1, 1) := by decide +kernel
theorem dX5_order_19 : decode cX5_order 19 = .ok (.invokevirtual 169, 3) := by decide +kernel
theorem dX5_order_22 : decode cX5_order 22 = .ok (.ireturn, 1) := by decide +kernel
theorem dX5_allBefore_0 : decode cX5_allBefore 0 = .ok (.aload_n 0, 1) := by decide +kernel
theorem dX5_allBefore_1 : decode cX5_allBefore 1 = .ok (.getfield 25, 3) := by decide +kernel
theorem dX5_allBefore_4 : decode cX5_allBefore 4 = .ok (.iload_n 1, 1) := by decide +kernel
theorem dX5_allBefore_5 : decode cX5_allBefore 5 = .ok (.iaload, 1) := by decide +kernel
theorem dX5_allBefore_6 : decode cX5_allBefore 6 = .ok (.istore_n 2, 1) := by decide +kernel
theorem dX5_allBefore_7 : decode cX5_allBefore 7 = .ok (.iconst 0, 1) := by decide +kernel
theorem dX5_allBefore_8 : decode cX5_allBefore 8 = .ok (.istore_n 3, 1) := by decide +kernel
theorem dX5_allBefore_9 : decode cX5_allBefore 9 = .ok (.iload_n 3, 1) := by decide +kernel
theorem dX5_allBefore_10 : decode cX5_allBefore 10 = .ok (.bipush 10, 2) := by decide +kernel
theorem dX5_allBefore_12 : decode cX5_allBefore 12 = .ok (.if_icmp .ge 54, 3) := by decide +kernel
theorem dX5_allBefore_15 : decode cX5_allBefore 15 = .ok (.iconst 0, 1) := by decide +kernel
theorem dX5_allBefore_16 : decode cX5_allBefore 16 = .ok (.istore 4, 2) := by decide +kernel
theorem dX5_allBefore_18 : decode cX5_allBefore 18 = .ok (.iload 4, 2) := by decide +kernel
theorem dX5_allBefore_20 : decode cX5_allBefore 20 = .ok (.aload_n 0, 1) := by decide +kernel
theorem dX5_allBefore_21 : decode cX5_allBefore 21 = .ok (.getfield 7, 3) := by decide +kernel
theorem dX5_allBefore_24 : decode cX5_allBefore 24 = .ok (.bipush 40, 2) := by decide +kernel
theorem dX5_allBefore_26 : decode cX5_allBefore 26 = .ok (.iaload, 1) := by decide +kernel
theorem dX5_allBefore_27 : decode cX5_allBefore 27 = .ok (.if_icmp .ge 33, 3) := by decide +kernel
theorem dX5_allBefore_30 : decode cX5_allBefore 30 = .ok (.iload_n 2, 1) := by decide +kernel
theorem dX5_allBefore_31 : decode cX5_allBefore 31 = .ok (.iload_n 2, 1) := by decide +kernel
theorem dX5_allBefore_32 : decode cX5_allBefore 32 = .ok (.iload 4, 2) := by decide +kernel
theorem dX5_allBefore_34 : decode cX5_allBefore 34 = .ok (.ishr, 1) := by decide +kernel
theorem dX5_allBefore_35 : decode cX5_allBefore 35 = .ok (.iconst 1, 1) := by decide +kernel
theorem dX5_allBefore_36 : decode cX5_allBefore 36 = .ok (.iand, 1) := by decide +kernel
theorem dX5_allBefore_37 : decode cX5_allBefore 37 = .ok (.iconst 1, 1) := by decide +kernel
theorem dX5_allBefore_38 : decode cX5_allBefore 38 = .ok (.if_icmp .ne 13, 3) := by decide +kernel
theorem dX5_allBefore_41 : decode cX5_allBefore 41 = .ok (.aload_n 0, 1) := by decide +kernel
theorem dX5_allBefore_42 : decode cX5_allBefore 42 = .ok (.getfield 25, 3) := by decide +kernel
theorem dX5_allBefore_45 : decode cX5_allBefore 45 = .ok (.iload 4, 2) := by decide +kernel
theorem dX5_allBefore_47 : decode cX5_allBefore 47 = .ok (.iaload, 1) := by decide +kernel
theorem dX5_allBefore_48 : decode cX5_allBefore 48 = .ok (.goto 4, 3) := by decide +kernel
theorem dX5_allBefore_51 : decode cX5_allBefore 51 = .ok (.iconst 0, 1) := by decide +kernel
theorem dX5_allBefore_52 : decode cX5_allBefore 52 = .ok (.ior, 1) := by decide +kernel
theorem dX5_allBefore_53 : decode cX5_allBefore 53 = .ok (.istore_n 2, 1) := by decide +kernel
theorem dX5_allBefore_54 : decode cX5_allBefore 54 = .ok (.iinc 4 1, 3) := by decide +kernel
theorem dX5_allBefore_57 : decode cX5_allBefore 57 = .ok (.goto (-39), 3) := by decide +kernel
theorem dX5_allBefore_60 : decode cX5_allBefore 60 = .ok (.iinc 3 1, 3) := by decide +kernel
theorem dX5_allBefore_63 : decode cX5_allBefore 63 = .ok (.goto (-54), 3) := by decide +kernel
theorem dX5_allBefore_66 : decode cX5_allBefore 66 = .ok (.iload_n 2, 1) := by decide +kernel
theorem dX5_allBefore_67 : decode cX5_allBefore 67 = .ok (.ireturn, 1) := by decide +kernel
set_option maxRecDepth 20000 in
theorem ggX5_stands_X5_fits : GoodIn wsX5_stands wsX5_fits := goodIn_r _ [8, 3, 9, 10, 11, 7, 12, 13, 14, 15, 16, 2, 17, 18, 19, 20, 21, 22, 23, 24, 25, 26, 27, 28, 29, 37, 38, 39, 40, 41, 42, 43, 44, 45, 46, 47, 48, 49, 50, 51] (by decide +kernel) (by decide +kernel)
set_option maxRecDepth 20000 in
theorem gX5_stands_X5_fits : GoodIn wsX5_stands (wsV RX5 160 RX5 yX5_fits wsX5_fits) := goodIn_app (goodIn_of _ (by decide +kernel)) ggX5_stands_X5_fits
set_option maxRecDepth 20000 in
theorem ggX5_stands_X5_allBefore : GoodIn wsX5_stands wsX5_allBefore := goodIn_r _ [33, 2, 1, 37, 38, 39, 40, 41, 42, 43, 44, 45, 46, 47, 48, 49, 50, 51] (by decide +kernel) (by decide +kernel)
set_option maxRecDepth 20000 in
theorem gX5_stands_X5_allBefore : GoodIn wsX5_stands (wsV RX5 172 RX5 yX5_allBefore wsX5_allBefore) := goodIn_app (goodIn_of _ (by decide +kernel)) ggX5_stands_X5_allBefore
set_option maxRecDepth 20000 in
theorem ggX5_stands_X5_ones : GoodIn wsX5_stands wsX5_ones := goodIn_r _ [36] (by decide +kernel) (by decide +kernel)
set_option maxRecDepth 20000 in
theorem gX5_stands_X5_ones : GoodIn wsX5_stands (va_wsS RX5 146 yX5_ones wsX5_ones) := goodIn_app (goodIn_of _ (by decide +kernel)) ggX5_stands_X5_ones
theorem dX5_stands_0 : decode cX5_stands 0 = .ok (.aload_n 0, 1) := by decide +kernel
theorem dX5_stands_1 : decode cX5_stands 1 = .ok (.aload_n 0, 1) := by decide +kernel
theorem dX5_stands_2 : decode cX5_stands 2 = .ok (.getfield 7, 3) := by decide +kernel
theorem dX5_stands_5 : decode cX5_stands 5 = .ok (.invokevirtual 160, 3) := by decide +kernel
theorem dX5_stands_8 : decode cX5_stands 8 = .ok (.istore_n 3, 1) := by decide +kernel
theorem dX5_stands_9 : decode cX5_stands 9 = .ok (.iload_n 2, 1) := by decide +kernel
theorem dX5_stands_10 : decode cX5_stands 10 = .ok (.iconst 2, 1) := by decide +kernel
theorem dX5_stands_11 : decode cX5_stands 11 = .ok (.if_icmp .ne 43, 3) := by decide +kernel
theorem dX5_stands_14 : decode cX5_stands 14 = .ok (.iload_n 3, 1) := by decide +kernel
theorem dX5_stands_15 : decode cX5_stands 15 = .ok (.ifCond .le 37, 3) := by decide +kernel
theorem dX5_stands_18 : decode cX5_stands 18 = .ok (.aload_n 0, 1) := by decide +kernel
theorem dX5_stands_19 : decode cX5_stands 19 = .ok (.getfield 25, 3) := by decide +kernel
theorem dX5_stands_22 : decode cX5_stands 22 = .ok (.iload_n 1, 1) := by decide +kernel
theorem dX5_stands_23 : decode cX5_stands 23 = .ok (.iaload, 1) := by decide +kernel
theorem dX5_stands_24 : decode cX5_stands 24 = .ok (.ifCond .ne 28, 3) := by decide +kernel
theorem dX5_stands_27 : decode cX5_stands 27 = .ok (.aload_n 0, 1) := by decide +kernel
theorem dX5_stands_28 : decode cX5_stands 28 = .ok (.getfield 28, 3) := by decide +kernel
theorem dX5_stands_31 : decode cX5_stands 31 = .ok (.iconst 1, 1) := by decide +kernel
theorem dX5_stands_32 : decode cX5_stands 32 = .ok (.aload_n 0, 1) := by decide +kernel
theorem dX5_stands_33 : decode cX5_stands 33 = .ok (.getfield 7, 3) := by decide +kernel
theorem dX5_stands_36 : decode cX5_stands 36 = .ok (.bipush 40, 2) := by decide +kernel
theorem dX5_stands_38 : decode cX5_stands 38 = .ok (.iaload, 1) := by decide +kernel
theorem dX5_stands_39 : decode cX5_stands 39 = .ok (.ishl, 1) := by decide +kernel
theorem dX5_stands_40 : decode cX5_stands 40 = .ok (.iconst 1, 1) := by decide +kernel
theorem dX5_stands_41 : decode cX5_stands 41 = .ok (.isub, 1) := by decide +kernel
theorem dX5_stands_42 : decode cX5_stands 42 = .ok (.iconst 1, 1) := by decide +kernel
theorem dX5_stands_43 : decode cX5_stands 43 = .ok (.iload_n 1, 1) := by decide +kernel
theorem dX5_stands_44 : decode cX5_stands 44 = .ok (.ishl, 1) := by decide +kernel
theorem dX5_stands_45 : decode cX5_stands 45 = .ok (.iconst (-1), 1) := by decide +kernel
theorem dX5_stands_46 : decode cX5_stands 46 = .ok (.ixor, 1) := by decide +kernel
theorem dX5_stands_47 : decode cX5_stands 47 = .ok (.iand, 1) := by decide +kernel
theorem dX5_stands_48 : decode cX5_stands 48 = .ok (.iaload, 1) := by decide +kernel
theorem dX5_stands_49 : decode cX5_stands 49 = .ok (.goto 4, 3) := by decide +kernel
theorem dX5_stands_52 : decode cX5_stands 52 = .ok (.iconst 0, 1) := by decide +kernel
theorem dX5_stands_53 : decode cX5_stands 53 = .ok (.ireturn, 1) := by decide +kernel
theorem dX5_stands_54 : decode cX5_stands 54 = .ok (.iconst 0, 1) := by decide +kernel
theorem dX5_stands_55 : decode cX5_stands 55 = .ok (.istore 4, 2) := by decide +kernel
theorem dX5_stands_57 : decode cX5_stands 57 = .ok (.iconst 0, 1) := by decide +kernel
theorem dX5_stands_58 : decode cX5_stands 58 = .ok (.istore 5, 2) := by decide +kernel
theorem dX5_stands_60 : decode cX5_stands 60 = .ok (.iload 5, 2) := by decide +kernel
theorem dX5_stands_62 : decode cX5_stands 62 = .ok (.aload_n 0, 1) := by decide +kernel
theorem dX5_stands_63 : decode cX5_stands 63 = .ok (.getfield 7, 3) := by decide +kernel
theorem dX5_stands_66 : decode cX5_stands 66 = .ok (.bipush 40, 2) := by decide +kernel
theorem dX5_stands_68 : decode cX5_stands 68 = .ok (.iaload, 1) := by decide +kernel
theorem dX5_stands_69 : decode cX5_stands 69 = .ok (.if_icmp .ge 24, 3) := by decide +kernel
theorem dX5_stands_72 : decode cX5_stands 72 = .ok (.iload 4, 2) := by decide +kernel
theorem dX5_stands_74 : decode cX5_stands 74 = .ok (.aload_n 0, 1) := by decide +kernel
theorem dX5_stands_75 : decode cX5_stands 75 = .ok (.iload 5, 2) := by decide +kernel
theorem dX5_stands_77 : decode cX5_stands 77 = .ok (.invokevirtual 172, 3) := by decide +kernel
theorem dX5_stands_80 : decode cX5_stands 80 = .ok (.iload_n 1, 1) := by decide +kernel
theorem dX5_stands_81 : decode cX5_stands 81 = .ok (.ishr, 1) := by decide +kernel
theorem dX5_stands_82 : decode cX5_stands 82 = .ok (.iconst 1, 1) := by decide +kernel
theorem dX5_stands_83 : decode cX5_stands 83 = .ok (.iand, 1) := by decide +kernel
theorem dX5_stands_84 : decode cX5_stands 84 = .ok (.iadd, 1) := by decide +kernel
theorem dX5_stands_85 : decode cX5_stands 85 = .ok (.istore 4, 2) := by decide +kernel
theorem dX5_stands_87 : decode cX5_stands 87 = .ok (.iinc 5 1, 3) := by decide +kernel
theorem dX5_stands_90 : decode cX5_stands 90 = .ok (.goto (-30), 3) := by decide +kernel
theorem dX5_stands_93 : decode cX5_stands 93 = .ok (.iload_n 3, 1) := by decide +kernel
theorem dX5_stands_94 : decode cX5_stands 94 = .ok (.ifCond .ne 7, 3) := by decide +kernel
theorem dX5_stands_97 : decode cX5_stands 97 = .ok (.iconst (-1), 1) := by decide +kernel
theorem dX5_stands_98 : decode cX5_stands 98 = .ok (.goto 30, 3) := by decide +kernel
theorem dX5_stands_101 : decode cX5_stands 101 = .ok (.iload_n 2, 1) := by decide +kernel
theorem dX5_stands_102 : decode cX5_stands 102 = .ok (.ifCond .ne 14, 3) := by decide +kernel
theorem dX5_stands_105 : decode cX5_stands 105 = .ok (.aload_n 0, 1) := by decide +kernel
theorem dX5_stands_106 : decode cX5_stands 106 = .ok (.iload_n 1, 1) := by decide +kernel
theorem dX5_stands_107 : decode cX5_stands 107 = .ok (.invokevirtual 172, 3) := by decide +kernel
theorem dX5_stands_110 : decode cX5_stands 110 = .ok (.invokestatic 146, 3) := by decide +kernel
theorem dX5_stands_113 : decode cX5_stands 113 = .ok (.goto 15, 3) := by decide +kernel
theorem dX5_stands_116 : decode cX5_stands 116 = .ok (.aload_n 0, 1) := by decide +kernel
theorem dX5_stands_117 : decode cX5_stands 117 = .ok (.getfield 7, 3) := by decide +kernel
theorem dX5_stands_120 : decode cX5_stands 120 = .ok (.bipush 40, 2) := by decide +kernel
theorem dX5_stands_122 : decode cX5_stands 122 = .ok (.iaload, 1) := by decide +kernel
theorem dX5_stands_123 : decode cX5_stands 123 = .ok (.iconst 1, 1) := by decide +kernel
theorem dX5_stands_124 : decode cX5_stands 124 = .ok (.isub, 1) := by decide +kernel
theorem dX5_stands_125 : decode cX5_stands 125 = .ok (.iload 4, 2) := by decide +kernel
theorem dX5_stands_127 : decode cX5_stands 127 = .ok (.isub, 1) := by decide +kernel
theorem dX5_stands_128 : decode cX5_stands 128 = .ok (.ireturn, 1) := by decide +kernel
set_option maxRecDepth 20000 in
theorem ggX5_place_X5_isBook : GoodIn wsX5_place wsX5_isBook := goodIn_r _ [6, 7, 8, 9, 5, 10, 53, 54, 55, 56, 57, 58, 59, 60, 61, 62, 63, 64, 65, 66, 67] (by decide +kernel) (by decide +kernel)
set_option maxRecDepth 20000 in
theorem gX5_place_X5_isBook : GoodIn wsX5_place (wsV RX5 95 RX5 yX5_isBook wsX5_isBook) := goodIn_app (goodIn_of _ (by decide +kernel)) ggX5_place_X5_isBook
set_option maxRecDepth 20000 in
theorem ggX5_place_X5_fails : GoodIn wsX5_place wsX5_fails := goodIn_r _ [14, 1, 53, 54, 55, 56, 57, 58, 59, 60, 61, 62, 63, 64, 65, 66, 67] (by decide +kernel) (by decide +kernel)
set_option maxRecDepth 20000 in
theorem gX5_place_X5_fails : GoodIn wsX5_place (wsV RX5 49 RX5 yX5_fails wsX5_fails) := goodIn_app (goodIn_of _ (by decide +kernel)) ggX5_place_X5_fails
set_option maxRecDepth 20000 in
theorem ggX5_place_X5_in : GoodIn wsX5_place wsX5_in := goodIn_r _ [10] (by decide +kernel) (by decide +kernel)
set_option maxRecDepth 20000 in
theorem gX5_place_X5_in : GoodIn wsX5_place (va_wsS RX5 41 yX5_in wsX5_in) := goodIn_app (goodIn_of _ (by decide +kernel)) ggX5_place_X5_in
set_option maxRecDepth 20000 in
theorem ggX5_place_X5_stands : GoodIn wsX5_place wsX5_stands := goodIn_r _ [18, 7, 19, 20, 21, 22, 23, 5, 24, 25, 26, 27, 28, 29, 30, 31, 32, 33, 34, 35, 36, 37, 38, 39, 40, 41, 42, 43, 44, 45, 46, 47, 48, 49, 50, 51, 52, 53, 54, 55, 56, 57, 58, 59, 60, 61, 62, 63, 64, 65, 66, 67] (by decide +kernel) (by decide +kernel)
set_option maxRecDepth 20000 in
theorem gX5_place_X5_stands : GoodIn wsX5_place (wsV RX5 175 RX5 yX5_stands wsX5_stands) := goodIn_app (goodIn_of _ (by decide +kernel)) ggX5_place_X5_stands
theorem dX5_place_0 : decode cX5_place 0 = .ok (.aload_n 0, 1) := by decide +kernel
theorem dX5_place_1 : decode cX5_place 1 = .ok (.iconst 0, 1) := by decide +kernel
theorem dX5_place_2 : decode cX5_place 2 = .ok (.putfield 38, 3) := by decide +kernel
theorem dX5_place_5 : decode cX5_place 5 = .ok (.aload_n 0, 1) := by decide +kernel
theorem dX5_place_6 : decode cX5_place 6 = .ok (.iload_n 1, 1) := by decide +kernel
theorem dX5_place_7 : decode cX5_place 7 = .ok (.invokevirtual 95, 3) := by decide +kernel
theorem dX5_place_10 : decode cX5_place 10 = .ok (.ifCond .ne 9, 3) := by decide +kernel
theorem dX5_place_13 : decode cX5_place 13 = .ok (.aload_n 0, 1) := by decide +kernel
theorem dX5_place_14 : decode cX5_place 14 = .ok (.iconst 1, 1) := by decide +kernel
theorem dX5_place_15 : decode cX5_place 15 = .ok (.invokevirtual 49, 3) := by decide +kernel
theorem dX5_place_18 : decode cX5_place 18 = .ok (.ireturn, 1) := by decide +kernel
theorem dX5_place_19 : decode cX5_place 19 = .ok (.iload_n 2, 1) := by decide +kernel
theorem dX5_place_20 : decode cX5_place 20 = .ok (.iconst 0, 1) := by decide +kernel
theorem dX5_place_21 : decode cX5_place 21 = .ok (.iconst 2, 1) := by decide +kernel
theorem dX5_place_22 : decode cX5_place 22 = .ok (.invokestatic 41, 3) := by decide +kernel
theorem dX5_place_25 : decode cX5_place 25 = .ok (.ifCond .eq 12, 3) := by decide +kernel
theorem dX5_place_28 : decode cX5_place 28 = .ok (.aload_n 0, 1) := by decide +kernel
theorem dX5_place_29 : decode cX5_place 29 = .ok (.iload_n 1, 1) := by decide +kernel
theorem dX5_place_30 : decode cX5_place 30 = .ok (.iload_n 2, 1) := by decide +kernel
theorem dX5_place_31 : decode cX5_place 31 = .ok (.invokevirtual 175, 3) := by decide +kernel
theorem dX5_place_34 : decode cX5_place 34 = .ok (.goto 8, 3) := by decide +kernel
theorem dX5_place_37 : decode cX5_place 37 = .ok (.aload_n 0, 1) := by decide +kernel
theorem dX5_place_38 : decode cX5_place 38 = .ok (.iconst 2, 1) := by decide +kernel
theorem dX5_place_39 : decode cX5_place 39 = .ok (.invokevirtual 49, 3) := by decide +kernel
theorem dX5_place_42 : decode cX5_place 42 = .ok (.ireturn, 1) := by decide +kernel
set_option maxRecDepth 20000 in
theorem ggX5_leftOut_X5_lays : GoodIn wsX5_leftOut wsX5_lays := goodIn_r _ [7, 2, 8, 9, 10, 6, 11, 12, 13, 14, 15, 16, 17, 18, 19, 20, 21, 22, 23, 24, 25, 29, 30, 31, 32, 33, 34, 35, 36, 37, 38, 39, 40, 41, 42, 43] (by decide +kernel) (by decide +kernel)
set_option maxRecDepth 20000 in
theorem gX5_leftOut_X5_lays : GoodIn wsX5_leftOut (wsV RX5 72 RX5 yX5_lays wsX5_lays) := goodIn_app (goodIn_of _ (by decide +kernel)) ggX5_leftOut_X5_lays
set_option maxRecDepth 20000 in
theorem ggX5_leftOut_X5_ones : GoodIn wsX5_leftOut wsX5_ones := goodIn_r _ [28] (by decide +kernel) (by decide +kernel)
set_option maxRecDepth 20000 in
theorem gX5_leftOut_X5_ones : GoodIn wsX5_leftOut (va_wsS RX5 146 yX5_ones wsX5_ones) := goodIn_app (goodIn_of _ (by decide +kernel)) ggX5_leftOut_X5_ones
theorem dX5_leftOut_0 : decode cX5_leftOut 0 = .ok (.aload_n 0, 1) := by decide +kernel
theorem dX5_leftOut_1 : decode cX5_leftOut 1 = .ok (.aload_n 0, 1) := by decide +kernel
theorem dX5_leftOut_2 : decode cX5_leftOut 2 = .ok (.getfield 7, 3) := by decide +kernel
theorem dX5_leftOut_5 : decode cX5_leftOut 5 = .ok (.invokevirtual 72, 3) := by decide +kernel
theorem dX5_leftOut_8 : decode cX5_leftOut 8 = .ok (.iconst 1, 1) := by decide +kernel
theorem dX5_leftOut_9 : decode cX5_leftOut 9 = .ok (.aload_n 0, 1) := by decide +kernel
theorem dX5_leftOut_10 : decode cX5_leftOut 10 = .ok (.getfield 7, 3) := by decide +kernel
theorem dX5_leftOut_13 : decode cX5_leftOut 13 = .ok (.bipush 40, 2) := by decide +kernel
theorem dX5_leftOut_15 : decode cX5_leftOut 15 = .ok (.iaload, 1) := by decide +kernel
theorem dX5_leftOut_16 : decode cX5_leftOut 16 = .ok (.ishl, 1) := by decide +kernel
theorem dX5_leftOut_17 : decode cX5_leftOut 17 = .ok (.iconst 1, 1) := by decide +kernel
theorem dX5_leftOut_18 : decode cX5_leftOut 18 = .ok (.isub, 1) := by decide +kernel
theorem dX5_leftOut_19 : decode cX5_leftOut 19 = .ok (.istore_n 1, 1) := by decide +kernel
theorem dX5_leftOut_20 : decode cX5_leftOut 20 = .ok (.iload_n 1, 1) := by decide +kernel
theorem dX5_leftOut_21 : decode cX5_leftOut 21 = .ok (.istore_n 2, 1) := by decide +kernel
theorem dX5_leftOut_22 : decode cX5_leftOut 22 = .ok (.iload_n 2, 1) := by decide +kernel
theorem dX5_leftOut_23 : decode cX5_leftOut 23 = .ok (.ifCond .lt 79, 3) := by decide +kernel
theorem dX5_leftOut_26 : decode cX5_leftOut 26 = .ok (.iconst 1, 1) := by decide +kernel
theorem dX5_leftOut_27 : decode cX5_leftOut 27 = .ok (.aload_n 0, 1) := by decide +kernel
theorem dX5_leftOut_28 : decode cX5_leftOut 28 = .ok (.getfield 7, 3) := by decide +kernel
theorem dX5_leftOut_31 : decode cX5_leftOut 31 = .ok (.bipush 40, 2) := by decide +kernel
theorem dX5_leftOut_33 : decode cX5_leftOut 33 = .ok (.iaload, 1) := by decide +kernel
theorem dX5_leftOut_34 : decode cX5_leftOut 34 = .ok (.ishl, 1) := by decide +kernel
theorem dX5_leftOut_35 : decode cX5_leftOut 35 = .ok (.iconst 1, 1) := by decide +kernel
theorem dX5_leftOut_36 : decode cX5_leftOut 36 = .ok (.isub, 1) := by decide +kernel
theorem dX5_leftOut_37 : decode cX5_leftOut 37 = .ok (.iload_n 2, 1) := by decide +kernel
theorem dX5_leftOut_38 : decode cX5_leftOut 38 = .ok (.iconst (-1), 1) := by decide +kernel
theorem dX5_leftOut_39 : decode cX5_leftOut 39 = .ok (.ixor, 1) := by decide +kernel
theorem dX5_leftOut_40 : decode cX5_leftOut 40 = .ok (.iand, 1) := by decide +kernel
theorem dX5_leftOut_41 : decode cX5_leftOut 41 = .ok (.istore_n 3, 1) := by decide +kernel
theorem dX5_leftOut_42 : decode cX5_leftOut 42 = .ok (.aload_n 0, 1) := by decide +kernel
theorem dX5_leftOut_43 : decode cX5_leftOut 43 = .ok (.getfield 28, 3) := by decide +kernel
theorem dX5_leftOut_46 : decode cX5_leftOut 46 = .ok (.iload_n 2, 1) := by decide +kernel
theorem dX5_leftOut_47 : decode cX5_leftOut 47 = .ok (.iaload, 1) := by decide +kernel
theorem dX5_leftOut_48 : decode cX5_leftOut 48 = .ok (.ifCond .le 34, 3) := by decide +kernel
theorem dX5_leftOut_51 : decode cX5_leftOut 51 = .ok (.iload_n 3, 1) := by decide +kernel
theorem dX5_leftOut_52 : decode cX5_leftOut 52 = .ok (.invokestatic 146, 3) := by decide +kernel
theorem dX5_leftOut_55 : decode cX5_leftOut 55 = .ok (.iload_n 1, 1) := by decide +kernel
theorem dX5_leftOut_56 : decode cX5_leftOut 56 = .ok (.invokestatic 146, 3) := by decide +kernel
theorem dX5_leftOut_59 : decode cX5_leftOut 59 = .ok (.if_icmp .lt 19, 3) := by decide +kernel
theorem dX5_leftOut_62 : decode cX5_leftOut 62 = .ok (.iload_n 3, 1) := by decide +kernel
theorem dX5_leftOut_63 : decode cX5_leftOut 63 = .ok (.invokestatic 146, 3) := by decide +kernel
theorem dX5_leftOut_66 : decode cX5_leftOut 66 = .ok (.iload_n 1, 1) := by decide +kernel
theorem dX5_leftOut_67 : decode cX5_leftOut 67 = .ok (.invokestatic 146, 3) := by decide +kernel
theorem dX5_leftOut_70 : decode cX5_leftOut 70 = .ok (.if_icmp .ne 12, 3) := by decide +kernel
theorem dX5_leftOut_73 : decode cX5_leftOut 73 = .ok (.iload_n 3, 1) := by decide +kernel
theorem dX5_leftOut_74 : decode cX5_leftOut 74 = .ok (.iload_n 1, 1) := by decide +kernel
theorem dX5_leftOut_75 : decode cX5_leftOut 75 = .ok (.if_icmp .ge 7, 3) := by decide +kernel
theorem dX5_leftOut_78 : decode cX5_leftOut 78 = .ok (.iconst 1, 1) := by decide +kernel
theorem dX5_leftOut_79 : decode cX5_leftOut 79 = .ok (.goto 4, 3) := by decide +kernel
theorem dX5_leftOut_82 : decode cX5_leftOut 82 = .ok (.iconst 0, 1) := by decide +kernel
theorem dX5_leftOut_83 : decode cX5_leftOut 83 = .ok (.istore 4, 2) := by decide +kernel
theorem dX5_leftOut_85 : decode cX5_leftOut 85 = .ok (.iload 4, 2) := by decide +kernel
theorem dX5_leftOut_87 : decode cX5_leftOut 87 = .ok (.ifCond .eq 7, 3) := by decide +kernel
theorem dX5_leftOut_90 : decode cX5_leftOut 90 = .ok (.iload_n 3, 1) := by decide +kernel
theorem dX5_leftOut_91 : decode cX5_leftOut 91 = .ok (.goto 4, 3) := by decide +kernel
theorem dX5_leftOut_94 : decode cX5_leftOut 94 = .ok (.iload_n 1, 1) := by decide +kernel
theorem dX5_leftOut_95 : decode cX5_leftOut 95 = .ok (.istore_n 1, 1) := by decide +kernel
theorem dX5_leftOut_96 : decode cX5_leftOut 96 = .ok (.iinc 2 (-1), 3) := by decide +kernel
theorem dX5_leftOut_99 : decode cX5_leftOut 99 = .ok (.goto (-77), 3) := by decide +kernel
theorem dX5_leftOut_102 : decode cX5_leftOut 102 = .ok (.iload_n 1, 1) := by decide +kernel
theorem dX5_leftOut_103 : decode cX5_leftOut 103 = .ok (.ireturn, 1) := by decide +kernel
set_option maxRecDepth 20000 in
theorem ggX5_wrong_X5_in : GoodIn wsX5_wrong wsX5_in := goodIn_r _ [5] (by decide +kernel) (by decide +kernel)
set_option maxRecDepth 20000 in
theorem gX5_wrong_X5_in : GoodIn wsX5_wrong (va_wsS RX5 41 yX5_in wsX5_in) := goodIn_app (goodIn_of _ (by decide +kernel)) ggX5_wrong_X5_in
set_option maxRecDepth 20000 in
theorem ggX5_wrong_X5_fails : GoodIn wsX5_wrong wsX5_fails := goodIn_r _ [9, 1, 41, 42, 43, 44, 45, 46, 47, 48, 49, 50, 51, 52, 53, 54, 55] (by decide +kernel) (by decide +kernel)
set_option maxRecDepth 20000 in
theorem gX5_wrong_X5_fails : GoodIn wsX5_wrong (wsV RX5 49 RX5 yX5_fails wsX5_fails) := goodIn_app (goodIn_of _ (by decide +kernel)) ggX5_wrong_X5_fails
set_option maxRecDepth 20000 in
theorem ggX5_wrong_X5_leftOut : GoodIn wsX5_wrong wsX5_leftOut := goodIn_r _ [13, 14, 15, 16, 17, 18, 4, 19, 20, 21, 22, 23, 24, 25, 26, 27, 28, 29, 30, 31, 32, 33, 34, 35, 36, 37, 38, 39, 40, 41, 42, 43, 44, 45, 46, 47, 48, 49, 50, 51, 52, 53, 54, 55] (by decide +kernel) (by decide +kernel)
set_option maxRecDepth 20000 in
theorem gX5_wrong_X5_leftOut : GoodIn wsX5_wrong (wsV RX5 178 RX5 yX5_leftOut wsX5_leftOut) := goodIn_app (goodIn_of _ (by decide +kernel)) ggX5_wrong_X5_leftOut
set_option maxRecDepth 20000 in
theorem ggX5_wrong_X5_ones : GoodIn wsX5_wrong wsX5_ones := goodIn_r _ [40] (by decide +kernel) (by decide +kernel)
set_option maxRecDepth 20000 in
theorem gX5_wrong_X5_ones : GoodIn wsX5_wrong (va_wsS RX5 146 yX5_ones wsX5_ones) := goodIn_app (goodIn_of _ (by decide +kernel)) ggX5_wrong_X5_ones
theorem dX5_wrong_0 : decode cX5_wrong 0 = .ok (.aload_n 0, 1) := by decide +kernel
theorem dX5_wrong_1 : decode cX5_wrong 1 = .ok (.iconst 0, 1) := by decide +kernel
theorem dX5_wrong_2 : decode cX5_wrong 2 = .ok (.putfield 38, 3) := by decide +kernel
theorem dX5_wrong_5 : decode cX5_wrong 5 = .ok (.iload_n 1, 1) := by decide +kernel
theorem dX5_wrong_6 : decode cX5_wrong 6 = .ok (.iconst 0, 1) := by decide +kernel
theorem dX5_wrong_7 : decode cX5_wrong 7 = .ok (.iconst 1, 1) := by decide +kernel
theorem dX5_wrong_8 : decode cX5_wrong 8 = .ok (.invokestatic 41, 3) := by decide +kernel
theorem dX5_wrong_11 : decode cX5_wrong 11 = .ok (.ifCond .ne 9, 3) := by decide +kernel
theorem dX5_wrong_14 : decode cX5_wrong 14 = .ok (.aload_n 0, 1) := by decide +kernel
theorem dX5_wrong_15 : decode cX5_wrong 15 = .ok (.iconst 1, 1) := by decide +kernel
theorem dX5_wrong_16 : decode cX5_wrong 16 = .ok (.invokevirtual 49, 3) := by decide +kernel
theorem dX5_wrong_19 : decode cX5_wrong 19 = .ok (.ireturn, 1) := by decide +kernel
theorem dX5_wrong_20 : decode cX5_wrong 20 = .ok (.aload_n 0, 1) := by decide +kernel
theorem dX5_wrong_21 : decode cX5_wrong 21 = .ok (.invokevirtual 178, 3) := by decide +kernel
theorem dX5_wrong_24 : decode cX5_wrong 24 = .ok (.istore_n 2, 1) := by decide +kernel
theorem dX5_wrong_25 : decode cX5_wrong 25 = .ok (.iload_n 1, 1) := by decide +kernel
theorem dX5_wrong_26 : decode cX5_wrong 26 = .ok (.ifCond .ne 10, 3) := by decide +kernel
theorem dX5_wrong_29 : decode cX5_wrong 29 = .ok (.iload_n 2, 1) := by decide +kernel
theorem dX5_wrong_30 : decode cX5_wrong 30 = .ok (.invokestatic 146, 3) := by decide +kernel
theorem dX5_wrong_33 : decode cX5_wrong 33 = .ok (.goto 4, 3) := by decide +kernel
theorem dX5_wrong_36 : decode cX5_wrong 36 = .ok (.iload_n 2, 1) := by decide +kernel
theorem dX5_wrong_37 : decode cX5_wrong 37 = .ok (.ireturn, 1) := by decide +kernel
def f_X5_order (p1 : Int32) (x0_thrown : Int32) (f1 : Nat → Int32) (f2 : Nat → Int32) (f3 : Nat → Int32) : Option (Int32 × Int32 × (Nat → Int32) × (Nat → Int32)) := (jn (u4 fun (w1 : Int32) (w2 : Nat → Int32) (w3 : Nat → Int32) (s4 : Int32) => some (s4, w1, w2, w3)) (fun K5 => (if 0 ≤ p1 then (f_X5_ordered p1 f1 f2 f3).bind (u3 fun (r6 : Int32) (o7 : Nat → Int32) (o8 : Nat → Int32) => K5 (0, o7, o8, r6)) else (f_X5_fails 1 0).bind (u2 fun (r9 : Int32) (o10 : Int32) => K5 (o10, f2, f3, r9)))))
theorem in_X5_order_X5 : ∀ w ∈ wsX50, w ∈ wsX5_order := by decide +kernel
theorem fl_X5_order_38 : Cond.fieldLink RX5 38 "ColophonHuntModel" "thrown" "I" ∈ wsX5_order := by decide +kernel
theorem hd_X5_order : yX5_order.cls = RX5 ∧ yX5_order.cls ≠ "java/lang/invoke/MethodHandle" ∧ yX5_order.cls ≠ "java/lang/invoke/VarHandle" ∧ (parseMethodDescriptor yX5_order.desc).map (fun d => d.parameters.length) = some 1 := by decide +kernel
set_option maxRecDepth 100000 in
set_option maxHeartbeats 4000000 in
theorem c_X5_order (l : Launch) (D : va_G) (cI cS cL : ClassId) (a0 : Nat) (a1 : Nat) (a2 : Nat) (a3 : Nat) (b0_1 : Nat) (b0_2 : Nat) (b0_4 : Nat) (b0_10 : Nat) (b0_14 : Nat) (p1 : Int32) (x0_kept : Int32) (x0_typed : Int32) (x0_thrown : Int32) (x0_at : Int32) (x0_isFault : Int32) (x0_value : Int32) (x0_tolds : Int32) (f1 : Nat → Int32) (f2 : Nat → Int32) (f3 : Nat → Int32) (rr : Int32) (y0 : Int32) (y1 : Nat → Int32) (y2 : Nat → Int32) (hc : f_X5_order p1 x0_thrown f1 f2 f3 = some (rr, y0, y1, y2)) : KM l yX5_order wsX5_order { frames := 6, cells := 0, slots := 0, locals := 139 } D (tyS cI cS cL) [.ref a0, .int p1] [(a0, .inr (5, [.ref a1, .ref b0_1, .ref b0_2, .int x0_kept, .ref b0_4, .int x0_typed, .int x0_thrown, .int x0_at, .int x0_isFault, .int x0_value, .ref b0_10, .int x0_tolds, .ref a2, .ref a3, .ref b0_14])), (a1, .inl (cI, 41, .inl f1)), (a2, .inl (cI, 10, .inl f2)), (a3, .inl (cI, 1024, .inl f3))] (some (.int rr)) (fun w => w = [(a0, .inr (5, [.ref a1, .ref b0_1, .ref b0_2, .int x0_kept, .ref b0_4, .int x0_typed, .int y0, .int x0_at, .int x0_isFault, .int x0_value, .ref b0_10, .int x0_tolds, .ref a2, .ref a3, .ref b0_14])), (a1, .inl (cI, 41, .inl f1)), (a2, .inl (cI, 10, .inl y1)), (a3, .inl (cI, 1024, .inl y2))]) 0 0 := by
  refine g_entry (cc := cX5_order) (nL := 2) (rt := (some .int)) (by decide) rfl (Nat.le_of_ble_eq_true rfl) ?_
  intro p e s m args below meth c A (X : GC p s m args c cX5_order 2 RX5 wsX5_order D (tyS cI cS cL) A) hr hlk _ _
  have h := hc
  unfold f_X5_order at h
  refine g_lv (lv' := [(0, .ref a0), (1, .int p1)]) [0, 1] rfl ?_
  refine g_aload_n X (j := 0) dX5_order_0 rfl ?_
  refine g_iconst (v := 0) X dX5_order_1 (by decide) ?_
  refine g_put (q0 := 0) (k := 6) (ci := 5) (ws' := [(a0, .inr (5, [.ref a1, .ref b0_1, .ref b0_2, .int x0_kept, .ref b0_4, .int x0_typed, .int 0, .int x0_at, .int x0_isFault, .int x0_value, .ref b0_10, .int x0_tolds, .ref a2, .ref a3, .ref b0_14])), (a1, .inl (cI, 41, .inl f1)), (a2, .inl (cI, 10, .inl f2)), (a3, .inl (cI, 1024, .inl f3))]) X tyX5_ok nmX5 in_X5_order_X5 fl_X5_order_38 rfl rfl (Nat.le_of_ble_eq_true rfl) rfl rfl rfl (Nat.le_of_ble_eq_true rfl) dX5_order_2 rfl ?_
  refine g_iload_n X (j := 1) dX5_order_5 rfl ?_
  refine jn_g h (u4 fun w1 w2 w3 s4 => [(a0, .inr (5, [.ref a1, .ref b0_1, .ref b0_2, .int x0_kept, .ref b0_4, .int x0_typed, .int w1, .int x0_at, .int x0_isFault, .int x0_value, .ref b0_10, .int x0_tolds, .ref a2, .ref a3, .ref b0_14])), (a1, .inl (cI, 41, .inl f1)), (a2, .inl (cI, 10, .inl w2)), (a3, .inl (cI, 1024, .inl w3))]) (u4 fun w1 w2 w3 s4 => []) (u4 fun w1 w2 w3 s4 => [.int s4]) 22 ?_ ?_
  · rintro ⟨w1, w2, w3, s4⟩ h
    dsimp only [u4] at h ⊢
    have h := Option.some.inj h
    simp only [Prod.mk.injEq] at h
    obtain ⟨rfl, rfl, rfl, rfl⟩ := h
    exact g_iret X hr hlk dX5_order_22 rfl rfl
  · intro K5 hK5 h
    refine g_if_ge (tgt := 17) X h dX5_order_6 (by decide) (fun h => ?_) (fun h => ?_)
    · refine g_aload_n X (j := 0) dX5_order_17 rfl ?_
      refine g_iload_n X (j := 1) dX5_order_18 rfl ?_
      obtain ⟨r6, o7, o8, hc, h⟩ := bd3 h
      refine g_callV (q0 := 0) (ci := 5) (is := [0, 1, 2, 3]) (As := [.int p1]) (ws' := [(a0, .inr (5, [.ref a1, .ref b0_1, .ref b0_2, .int x0_kept, .ref b0_4, .int x0_typed, .int 0, .int x0_at, .int x0_isFault, .int x0_value, .ref b0_10, .int x0_tolds, .ref a2, .ref a3, .ref b0_14])), (a1, .inl (cI, 41, .inl f1)), (a2, .inl (cI, 10, .inl o7)), (a3, .inl (cI, 1024, .inl o8))]) (st := []) X (c_X5_ordered l D cI cS cL a0 a1 a2 a3 b0_1 b0_2 b0_4 b0_10 b0_14 p1 x0_kept x0_typed 0 x0_at x0_isFault x0_value x0_tolds f1 f2 f3 r6 o7 o8 hc) gX5_order_X5_ordered rfl ⟨rfl, rfl⟩ hd_X5_ordered ⟨Nat.le_of_ble_eq_true rfl, Nat.le_of_ble_eq_true rfl⟩ ⟨Nat.zero_le _, Nat.zero_le _⟩ rfl rfl rfl rfl rfl rfl rfl (Nat.le_of_ble_eq_true rfl) rfl dX5_order_19 ?_
      refine g_lv (lv' := []) [] rfl ?_
      exact hK5 (0, o7, o8, r6) h
    · refine g_aload_n X (j := 0) dX5_order_9 rfl ?_
      refine g_iconst (v := 1) X dX5_order_10 (by decide) ?_
      obtain ⟨r9, o10, hc, h⟩ := bd2 h
      refine g_callV (q0 := 0) (ci := 5) (is := [0]) (As := [.int 1]) (ws' := [(a0, .inr (5, [.ref a1, .ref b0_1, .ref b0_2, .int x0_kept, .ref b0_4, .int x0_typed, .int o10, .int x0_at, .int x0_isFault, .int x0_value, .ref b0_10, .int x0_tolds, .ref a2, .ref a3, .ref b0_14])), (a1, .inl (cI, 41, .inl f1)), (a2, .inl (cI, 10, .inl f2)), (a3, .inl (cI, 1024, .inl f3))]) (st := []) X (c_X5_fails l D cI cS cL a0 a1 b0_1 b0_2 b0_4 b0_10 a2 a3 b0_14 1 x0_kept x0_typed 0 x0_at x0_isFault x0_value x0_tolds r9 o10 hc) gX5_order_X5_fails rfl ⟨rfl, rfl⟩ hd_X5_fails ⟨Nat.le_of_ble_eq_true rfl, Nat.le_of_ble_eq_true rfl⟩ ⟨Nat.zero_le _, Nat.zero_le _⟩ rfl rfl rfl rfl rfl rfl rfl (Nat.le_of_ble_eq_true rfl) rfl dX5_order_11 ?_
      refine g_goto (tgt := 22) X dX5_order_14 (by decide) ?_
      refine g_lv (lv' := []) [] rfl ?_
      exact hK5 (o10, f2, f3, r9) h
def f_X5_allBefore (p1 : Int32) (f1 : Nat → Int32) (f2 : Nat → Int32) : Option (Int32) := (rdA f2 10 p1).bind (fun v1 => (wl (u2 fun (l2_2 : Int32) (l3_3 : Int32) => (if 10 ≤ l3_3 then some (Sum.inr l2_2) else (wl (u2 fun (l2_5 : Int32) (l4_6 : Int32) => (rdA f1 41 40).bind (fun v8 => (if v8 ≤ l4_6 then some (Sum.inr l2_5) else (jn (u1 fun (s9 : Int32) => some (Sum.inl ((l2_5 ||| s9), (l4_6 + 1)))) (fun K10 => (if ((l2_5 >>> (l4_6 &&& 31)) &&& 1) = 1 then (rdA f2 10 l4_6).bind (fun v11 => K10 v11) else K10 0)))))) 9999 (l2_2, 0)).bind (u1 fun (l2_7 : Int32) => some (Sum.inl (l2_7, (l3_3 + 1)))))) 9999 (v1, 0)).bind (u1 fun (l2_4 : Int32) => some l2_4))
theorem in_X5_allBefore_X5 : ∀ w ∈ wsX50, w ∈ wsX5_allBefore := by decide +kernel
theorem fl_X5_allBefore_25 : Cond.fieldLink RX5 25 "ColophonHuntModel" "before" "[I" ∈ wsX5_allBefore := by decide +kernel
theorem fl_X5_allBefore_7 : Cond.fieldLink RX5 7 "ColophonHuntModel" "now" "[I" ∈ wsX5_allBefore := by decide +kernel
theorem hd_X5_allBefore : yX5_allBefore.cls = RX5 ∧ yX5_allBefore.cls ≠ "java/lang/invoke/MethodHandle" ∧ yX5_allBefore.cls ≠ "java/lang/invoke/VarHandle" ∧ (parseMethodDescriptor yX5_allBefore.desc).map (fun d => d.parameters.length) = some 1 := by decide +kernel
set_option maxRecDepth 100000 in
set_option maxHeartbeats 4000000 in
theorem c_X5_allBefore (l : Launch) (D : va_G) (cI cS cL : ClassId) (a0 : Nat) (a1 : Nat) (a2 : Nat) (b0_1 : Nat) (b0_2 : Nat) (b0_4 : Nat) (b0_10 : Nat) (b0_13 : Nat) (b0_14 : Nat) (p1 : Int32) (x0_kept : Int32) (x0_typed : Int32) (x0_thrown : Int32) (x0_at : Int32) (x0_isFault : Int32) (x0_value : Int32) (x0_tolds : Int32) (f1 : Nat → Int32) (f2 : Nat → Int32) (rr : Int32) (hc : f_X5_allBefore p1 f1 f2 = some rr) : KM l yX5_allBefore wsX5_allBefore { frames := 0, cells := 0, slots := 0, locals := 0 } D (tyS cI cS cL) [.ref a0, .int p1] [(a0, .inr (5, [.ref a1, .ref b0_1, .ref b0_2, .int x0_kept, .ref b0_4, .int x0_typed, .int x0_thrown, .int x0_at, .int x0_isFault, .int x0_value, .ref b0_10, .int x0_tolds, .ref a2, .ref b0_13, .ref b0_14])), (a1, .inl (cI, 41, .inl f1)), (a2, .inl (cI, 10, .inl f2))] (some (.int rr)) (fun w => w = [(a0, .inr (5, [.ref a1, .ref b0_1, .ref b0_2, .int x0_kept, .ref b0_4, .int x0_typed, .int x0_thrown, .int x0_at, .int x0_isFault, .int x0_value, .ref b0_10, .int x0_tolds, .ref a2, .ref b0_13, .ref b0_14])), (a1, .inl (cI, 41, .inl f1)), (a2, .inl (cI, 10, .inl f2))]) 0 0 := by
  refine g_entry (cc := cX5_allBefore) (nL := 5) (rt := (some .int)) (by decide) rfl (Nat.le_of_ble_eq_true rfl) ?_
  intro p e s m args below meth c A (X : GC p s m args c cX5_allBefore 5 RX5 wsX5_allBefore D (tyS cI cS cL) A) hr hlk _ _
  have h := hc
  unfold f_X5_allBefore at h
  refine g_lv (lv' := [(0, .ref a0), (1, .int p1)]) [0, 1] rfl ?_
  refine g_aload_n X (j := 0) dX5_allBefore_0 rfl ?_
  refine g_get (q0 := 0) (k := 12) (ci := 5) X in_X5_allBefore_X5 fl_X5_allBefore_25 rfl rfl (Nat.le_of_ble_eq_true rfl) rfl dX5_allBefore_1 ?_
  refine g_iload_n X (j := 1) dX5_allBefore_4 rfl ?_
  refine g_iald (q0 := 2) (t0 := 0) X h rfl rfl dX5_allBefore_5 (fun v1 h => ?_)
  refine g_istore_n (lv' := [(2, .int v1), (0, .ref a0), (1, .int p1)]) X dX5_allBefore_6 rfl (by decide) rfl ?_
  refine g_iconst (v := 0) X dX5_allBefore_7 (by decide) ?_
  refine g_istore_n (lv' := [(3, .int 0), (2, .int v1), (0, .ref a0), (1, .int p1)]) X dX5_allBefore_8 rfl (by decide) rfl ?_
  refine g_lv (lv' := [(0, .ref a0), (2, .int v1), (3, .int 0)]) [2, 1, 0] rfl ?_
  refine wl_g1 h (u2 fun l2_2 l3_3 => [(a0, .inr (5, [.ref a1, .ref b0_1, .ref b0_2, .int x0_kept, .ref b0_4, .int x0_typed, .int x0_thrown, .int x0_at, .int x0_isFault, .int x0_value, .ref b0_10, .int x0_tolds, .ref a2, .ref b0_13, .ref b0_14])), (a1, .inl (cI, 41, .inl f1)), (a2, .inl (cI, 10, .inl f2))]) (u2 fun l2_2 l3_3 => [(0, .ref a0), (2, .int l2_2), (3, .int l3_3)]) rfl rfl (u1 fun l2_4 => [(a0, .inr (5, [.ref a1, .ref b0_1, .ref b0_2, .int x0_kept, .ref b0_4, .int x0_typed, .int x0_thrown, .int x0_at, .int x0_isFault, .int x0_value, .ref b0_10, .int x0_tolds, .ref a2, .ref b0_13, .ref b0_14])), (a1, .inl (cI, 41, .inl f1)), (a2, .inl (cI, 10, .inl f2))]) (u1 fun l2_4 => [(2, .int l2_4)]) 66 ?_ ?_
  · rintro l2_4 h
    dsimp only [u1] at h ⊢
    refine g_iload_n X (j := 0) dX5_allBefore_66 rfl ?_
    have h := Option.some.inj h
    subst h
    exact g_iret X hr hlk dX5_allBefore_67 rfl rfl
  · rintro ⟨l2_2, l3_3⟩ o h hI hE
    dsimp only [u2] at h ⊢
    refine g_iload_n X (j := 2) dX5_allBefore_9 rfl ?_
    refine g_bipush (v := 10) X dX5_allBefore_10 (by decide) ?_
    refine g_icmp_ge (tgt := 66) X h dX5_allBefore_12 (by decide) (fun h => ?_) (fun h => ?_)
    · refine g_lv (lv' := [(2, .int l2_2)]) [1] rfl ?_
      exact hE l2_2 (Option.some.inj h).symm
    · refine g_iconst (v := 0) X dX5_allBefore_15 (by decide) ?_
      refine g_istore (lv' := [(4, .int 0), (0, .ref a0), (2, .int l2_2), (3, .int l3_3)]) X dX5_allBefore_16 (by decide) rfl ?_
      refine g_lv (lv' := [(0, .ref a0), (2, .int l2_2), (3, .int l3_3), (4, .int 0)]) [1, 2, 3, 0] rfl ?_
      refine wl_g1 h (u2 fun l2_5 l4_6 => [(a0, .inr (5, [.ref a1, .ref b0_1, .ref b0_2, .int x0_kept, .ref b0_4, .int x0_typed, .int x0_thrown, .int x0_at, .int x0_isFault, .int x0_value, .ref b0_10, .int x0_tolds, .ref a2, .ref b0_13, .ref b0_14])), (a1, .inl (cI, 41, .inl f1)), (a2, .inl (cI, 10, .inl f2))]) (u2 fun l2_5 l4_6 => [(0, .ref a0), (2, .int l2_5), (3, .int l3_3), (4, .int l4_6)]) rfl rfl (u1 fun l2_7 => [(a0, .inr (5, [.ref a1, .ref b0_1, .ref b0_2, .int x0_kept, .ref b0_4, .int x0_typed, .int x0_thrown, .int x0_at, .int x0_isFault, .int x0_value, .ref b0_10, .int x0_tolds, .ref a2, .ref b0_13, .ref b0_14])), (a1, .inl (cI, 41, .inl f1)), (a2, .inl (cI, 10, .inl f2))]) (u1 fun l2_7 => [(0, .ref a0), (2, .int l2_7), (3, .int l3_3)]) 60 ?_ ?_
      · rintro l2_7 h
        dsimp only [u1] at h ⊢
        refine g_iinc (j := 2) (lv' := [(3, .int (l3_3 + 1)), (0, .ref a0), (2, .int l2_7)]) X (l3_3 + 1) dX5_allBefore_60 rfl rfl (by decide) rfl ?_
        refine g_goto (tgt := 9) X dX5_allBefore_63 (by decide) ?_
        refine g_lv (lv' := [(0, .ref a0), (2, .int l2_7), (3, .int (l3_3 + 1))]) [1, 2, 0] rfl ?_
        exact hI (l2_7, (l3_3 + 1)) (Option.some.inj h).symm
      · rintro ⟨l2_5, l4_6⟩ o h hI hE
        dsimp only [u2] at h ⊢
        refine g_iload X (j := 3) dX5_allBefore_18 rfl ?_
        refine g_aload_n X (j := 0) dX5_allBefore_20 rfl ?_
        refine g_get (q0 := 0) (k := 0) (ci := 5) X in_X5_allBefore_X5 fl_X5_allBefore_7 rfl rfl (Nat.le_of_ble_eq_true rfl) rfl dX5_allBefore_21 ?_
        refine g_bipush (v := 40) X dX5_allBefore_24 (by decide) ?_
        refine g_iald (q0 := 1) (t0 := 0) X h rfl rfl dX5_allBefore_26 (fun v8 h => ?_)
        refine g_icmp_ge (tgt := 60) X h dX5_allBefore_27 (by decide) (fun h => ?_) (fun h => ?_)
        · refine g_lv (lv' := [(0, .ref a0), (2, .int l2_5), (3, .int l3_3)]) [0, 1, 2] rfl ?_
          exact hE l2_5 (Option.some.inj h).symm
        · refine g_iload_n X (j := 1) dX5_allBefore_30 rfl ?_
          refine g_iload_n X (j := 1) dX5_allBefore_31 rfl ?_
          refine g_iload X (j := 3) dX5_allBefore_32 rfl ?_
          refine g_ishr X dX5_allBefore_34 ?_
          refine g_iconst (v := 1) X dX5_allBefore_35 (by decide) ?_
          refine g_iand X dX5_allBefore_36 ?_
          refine g_iconst (v := 1) X dX5_allBefore_37 (by decide) ?_
          refine jn_g h (u1 fun s9 => [(a0, .inr (5, [.ref a1, .ref b0_1, .ref b0_2, .int x0_kept, .ref b0_4, .int x0_typed, .int x0_thrown, .int x0_at, .int x0_isFault, .int x0_value, .ref b0_10, .int x0_tolds, .ref a2, .ref b0_13, .ref b0_14])), (a1, .inl (cI, 41, .inl f1)), (a2, .inl (cI, 10, .inl f2))]) (u1 fun s9 => [(0, .ref a0), (3, .int l3_3), (4, .int l4_6)]) (u1 fun s9 => [.int s9, .int l2_5]) 52 ?_ ?_
          · rintro s9 h
            dsimp only [u1] at h ⊢
            refine g_ior X dX5_allBefore_52 ?_
            refine g_istore_n (lv' := [(2, .int (l2_5 ||| s9)), (0, .ref a0), (3, .int l3_3), (4, .int l4_6)]) X dX5_allBefore_53 rfl (by decide) rfl ?_
            refine g_iinc (j := 3) (lv' := [(4, .int (l4_6 + 1)), (2, .int (l2_5 ||| s9)), (0, .ref a0), (3, .int l3_3)]) X (l4_6 + 1) dX5_allBefore_54 rfl rfl (by decide) rfl ?_
            refine g_goto (tgt := 18) X dX5_allBefore_57 (by decide) ?_
            refine g_lv (lv' := [(0, .ref a0), (2, .int (l2_5 ||| s9)), (3, .int l3_3), (4, .int (l4_6 + 1))]) [2, 1, 3, 0] rfl ?_
            exact hI ((l2_5 ||| s9), (l4_6 + 1)) (Option.some.inj h).symm
          · intro K10 hK10 h
            refine g_icmp_ne (tgt := 51) X h dX5_allBefore_38 (by decide) (fun h => ?_) (fun h => ?_)
            · refine g_iconst (v := 0) X dX5_allBefore_51 (by decide) ?_
              refine g_lv (lv' := [(0, .ref a0), (3, .int l3_3), (4, .int l4_6)]) [0, 2, 3] rfl ?_
              exact hK10 0 h
            · refine g_aload_n X (j := 0) dX5_allBefore_41 rfl ?_
              refine g_get (q0 := 0) (k := 12) (ci := 5) X in_X5_allBefore_X5 fl_X5_allBefore_25 rfl rfl (Nat.le_of_ble_eq_true rfl) rfl dX5_allBefore_42 ?_
              refine g_iload X (j := 3) dX5_allBefore_45 rfl ?_
              refine g_iald (q0 := 2) (t0 := 0) X h rfl rfl dX5_allBefore_47 (fun v11 h => ?_)
              refine g_goto (tgt := 52) X dX5_allBefore_48 (by decide) ?_
              refine g_lv (lv' := [(0, .ref a0), (3, .int l3_3), (4, .int l4_6)]) [0, 2, 3] rfl ?_
              exact hK10 v11 h
def f_X5_stands (p1 : Int32) (p2 : Int32) (f1 : Nat → Int32) (f2 : Nat → Int32) (f3 : Nat → Int32) : Option (Int32 × (Nat → Int32) × (Nat → Int32)) := (f_X5_fits f2 f3 41 f1).bind (u3 fun (r1 : Int32) (o2 : Nat → Int32) (o3 : Nat → Int32) => (if p2 = 2 then (jn (u1 fun (s14 : Int32) => some (s14, o2, o3)) (fun K15 => jn (u0 (K15 0)) (fun K16 => (if r1 ≤ 0 then K16 () else (rdA o2 10 p1).bind (fun v17 => (if v17 = 0 then (rdA f1 41 40).bind (fun v18 => (rdA o3 1024 ((((1 : Int32) <<< (v18 &&& 31)) - 1) &&& (((1 : Int32) <<< (p1 &&& 31)) ^^^ (-1)))).bind (fun v19 => K15 v19)) else K16 ())))))) else (wl (u2 fun (l4_4 : Int32) (l5_5 : Int32) => (rdA f1 41 40).bind (fun v7 => (if v7 ≤ l5_5 then some (Sum.inr l4_4) else (f_X5_allBefore l5_5 f1 o2).bind (u1 fun (r8 : Int32) => some (Sum.inl ((l4_4 + ((r8 >>> (p1 &&& 31)) &&& 1)), (l5_5 + 1))))))) 9999 (0, 0)).bind (u1 fun (l4_6 : Int32) => (jn (u1 fun (s9 : Int32) => some (s9, o2, o3)) (fun K10 => (if r1 = 0 then K10 (-1) else (if p2 = 0 then (f_X5_allBefore p1 f1 o2).bind (u1 fun (r12 : Int32) => (f_X5_ones r12).bind (u1 fun (r13 : Int32) => K10 r13)) else (rdA f1 41 40).bind (fun v11 => K10 ((v11 - 1) - l4_6)))))))))
theorem in_X5_stands_X5 : ∀ w ∈ wsX50, w ∈ wsX5_stands := by decide +kernel
theorem fl_X5_stands_7 : Cond.fieldLink RX5 7 "ColophonHuntModel" "now" "[I" ∈ wsX5_stands := by decide +kernel
theorem fl_X5_stands_25 : Cond.fieldLink RX5 25 "ColophonHuntModel" "before" "[I" ∈ wsX5_stands := by decide +kernel
theorem fl_X5_stands_28 : Cond.fieldLink RX5 28 "ColophonHuntModel" "ways" "[I" ∈ wsX5_stands := by decide +kernel
theorem hd_X5_stands : yX5_stands.cls = RX5 ∧ yX5_stands.cls ≠ "java/lang/invoke/MethodHandle" ∧ yX5_stands.cls ≠ "java/lang/invoke/VarHandle" ∧ (parseMethodDescriptor yX5_stands.desc).map (fun d => d.parameters.length) = some 2 := by decide +kernel
set_option maxRecDepth 100000 in
set_option maxHeartbeats 4000000 in
theorem c_X5_stands (l : Launch) (D : va_G) (cI cS cL : ClassId) (a0 : Nat) (a1 : Nat) (a2 : Nat) (a3 : Nat) (b0_1 : Nat) (b0_2 : Nat) (b0_4 : Nat) (b0_10 : Nat) (b0_14 : Nat) (p1 : Int32) (p2 : Int32) (x0_kept : Int32) (x0_typed : Int32) (x0_thrown : Int32) (x0_at : Int32) (x0_isFault : Int32) (x0_value : Int32) (x0_tolds : Int32) (f1 : Nat → Int32) (f2 : Nat → Int32) (f3 : Nat → Int32) (rr : Int32) (y0 : Nat → Int32) (y1 : Nat → Int32) (hc : f_X5_stands p1 p2 f1 f2 f3 = some (rr, y0, y1)) : KM l yX5_stands wsX5_stands { frames := 5, cells := 0, slots := 0, locals := 114 } D (tyS cI cS cL) [.ref a0, .int p1, .int p2] [(a0, .inr (5, [.ref a1, .ref b0_1, .ref b0_2, .int x0_kept, .ref b0_4, .int x0_typed, .int x0_thrown, .int x0_at, .int x0_isFault, .int x0_value, .ref b0_10, .int x0_tolds, .ref a2, .ref a3, .ref b0_14])), (a1, .inl (cI, 41, .inl f1)), (a2, .inl (cI, 10, .inl f2)), (a3, .inl (cI, 1024, .inl f3))] (some (.int rr)) (fun w => w = [(a0, .inr (5, [.ref a1, .ref b0_1, .ref b0_2, .int x0_kept, .ref b0_4, .int x0_typed, .int x0_thrown, .int x0_at, .int x0_isFault, .int x0_value, .ref b0_10, .int x0_tolds, .ref a2, .ref a3, .ref b0_14])), (a1, .inl (cI, 41, .inl f1)), (a2, .inl (cI, 10, .inl y0)), (a3, .inl (cI, 1024, .inl y1))]) 0 0 := by
  refine g_entry (cc := cX5_stands) (nL := 6) (rt := (some .int)) (by decide) rfl (Nat.le_of_ble_eq_true rfl) ?_
  intro p e s m args below meth c A (X : GC p s m args c cX5_stands 6 RX5 wsX5_stands D (tyS cI cS cL) A) hr hlk _ _
  have h := hc
  unfold f_X5_stands at h
  refine g_lv (lv' := [(0, .ref a0), (1, .int p1), (2, .int p2)]) [0, 1, 2] rfl ?_
  refine g_aload_n X (j := 0) dX5_stands_0 rfl ?_
  refine g_aload_n X (j := 0) dX5_stands_1 rfl ?_
  refine g_get (q0 := 0) (k := 0) (ci := 5) X in_X5_stands_X5 fl_X5_stands_7 rfl rfl (Nat.le_of_ble_eq_true rfl) rfl dX5_stands_2 ?_
  obtain ⟨r1, o2, o3, hc, h⟩ := bd3 h
  refine g_callV (q0 := 0) (ci := 5) (is := [0, 2, 3, 1]) (As := [.ref a1]) (ws' := [(a0, .inr (5, [.ref a1, .ref b0_1, .ref b0_2, .int x0_kept, .ref b0_4, .int x0_typed, .int x0_thrown, .int x0_at, .int x0_isFault, .int x0_value, .ref b0_10, .int x0_tolds, .ref a2, .ref a3, .ref b0_14])), (a1, .inl (cI, 41, .inl f1)), (a2, .inl (cI, 10, .inl o2)), (a3, .inl (cI, 1024, .inl o3))]) (st := []) X (c_X5_fits l D cI cS cL a0 a2 a3 a1 a1 b0_1 b0_2 b0_4 b0_10 b0_14 x0_kept x0_typed x0_thrown x0_at x0_isFault x0_value x0_tolds f2 f3 41 f1 r1 o2 o3 hc) gX5_stands_X5_fits rfl ⟨rfl, rfl⟩ hd_X5_fits ⟨Nat.le_of_ble_eq_true rfl, Nat.le_of_ble_eq_true rfl⟩ ⟨Nat.zero_le _, Nat.zero_le _⟩ rfl rfl rfl rfl rfl rfl rfl (Nat.le_of_ble_eq_true rfl) rfl dX5_stands_5 ?_
  refine g_istore_n (lv' := [(3, .int r1), (0, .ref a0), (1, .int p1), (2, .int p2)]) X dX5_stands_8 rfl (by decide) rfl ?_
  refine g_iload_n X (j := 3) dX5_stands_9 rfl ?_
  refine g_iconst (v := 2) X dX5_stands_10 (by decide) ?_
  refine g_icmp_ne (tgt := 54) X h dX5_stands_11 (by decide) (fun h => ?_) (fun h => ?_)
  · refine g_iconst (v := 0) X dX5_stands_54 (by decide) ?_
    refine g_istore (lv' := [(4, .int 0), (3, .int r1), (0, .ref a0), (1, .int p1), (2, .int p2)]) X dX5_stands_55 (by decide) rfl ?_
    refine g_iconst (v := 0) X dX5_stands_57 (by decide) ?_
    refine g_istore (lv' := [(5, .int 0), (4, .int 0), (3, .int r1), (0, .ref a0), (1, .int p1), (2, .int p2)]) X dX5_stands_58 (by decide) rfl ?_
    refine g_lv (lv' := [(0, .ref a0), (1, .int p1), (2, .int p2), (3, .int r1), (4, .int 0), (5, .int 0)]) [3, 4, 5, 2, 1, 0] rfl ?_
    refine wl_g1 h (u2 fun l4_4 l5_5 => [(a0, .inr (5, [.ref a1, .ref b0_1, .ref b0_2, .int x0_kept, .ref b0_4, .int x0_typed, .int x0_thrown, .int x0_at, .int x0_isFault, .int x0_value, .ref b0_10, .int x0_tolds, .ref a2, .ref a3, .ref b0_14])), (a1, .inl (cI, 41, .inl f1)), (a2, .inl (cI, 10, .inl o2)), (a3, .inl (cI, 1024, .inl o3))]) (u2 fun l4_4 l5_5 => [(0, .ref a0), (1, .int p1), (2, .int p2), (3, .int r1), (4, .int l4_4), (5, .int l5_5)]) rfl rfl (u1 fun l4_6 => [(a0, .inr (5, [.ref a1, .ref b0_1, .ref b0_2, .int x0_kept, .ref b0_4, .int x0_typed, .int x0_thrown, .int x0_at, .int x0_isFault, .int x0_value, .ref b0_10, .int x0_tolds, .ref a2, .ref a3, .ref b0_14])), (a1, .inl (cI, 41, .inl f1)), (a2, .inl (cI, 10, .inl o2)), (a3, .inl (cI, 1024, .inl o3))]) (u1 fun l4_6 => [(0, .ref a0), (1, .int p1), (2, .int p2), (3, .int r1), (4, .int l4_6)]) 93 ?_ ?_
    · rintro l4_6 h
      dsimp only [u1] at h ⊢
      refine g_iload_n X (j := 3) dX5_stands_93 rfl ?_
      refine jn_g h (u1 fun s9 => [(a0, .inr (5, [.ref a1, .ref b0_1, .ref b0_2, .int x0_kept, .ref b0_4, .int x0_typed, .int x0_thrown, .int x0_at, .int x0_isFault, .int x0_value, .ref b0_10, .int x0_tolds, .ref a2, .ref a3, .ref b0_14])), (a1, .inl (cI, 41, .inl f1)), (a2, .inl (cI, 10, .inl o2)), (a3, .inl (cI, 1024, .inl o3))]) (u1 fun s9 => []) (u1 fun s9 => [.int s9]) 128 ?_ ?_
      · rintro s9 h
        dsimp only [u1] at h ⊢
        have h := Option.some.inj h
        simp only [Prod.mk.injEq] at h
        obtain ⟨rfl, rfl, rfl⟩ := h
        exact g_iret X hr hlk dX5_stands_128 rfl rfl
      · intro K10 hK10 h
        refine g_if_ne (tgt := 101) X h dX5_stands_94 (by decide) (fun h => ?_) (fun h => ?_)
        · refine g_iload_n X (j := 2) dX5_stands_101 rfl ?_
          refine g_if_ne (tgt := 116) X h dX5_stands_102 (by decide) (fun h => ?_) (fun h => ?_)
          · refine g_aload_n X (j := 0) dX5_stands_116 rfl ?_
            refine g_get (q0 := 0) (k := 0) (ci := 5) X in_X5_stands_X5 fl_X5_stands_7 rfl rfl (Nat.le_of_ble_eq_true rfl) rfl dX5_stands_117 ?_
            refine g_bipush (v := 40) X dX5_stands_120 (by decide) ?_
            refine g_iald (q0 := 1) (t0 := 0) X h rfl rfl dX5_stands_122 (fun v11 h => ?_)
            refine g_iconst (v := 1) X dX5_stands_123 (by decide) ?_
            refine g_isub X dX5_stands_124 ?_
            refine g_iload X (j := 4) dX5_stands_125 rfl ?_
            refine g_isub X dX5_stands_127 ?_
            refine g_lv (lv' := []) [] rfl ?_
            exact hK10 ((v11 - 1) - l4_6) h
          · refine g_aload_n X (j := 0) dX5_stands_105 rfl ?_
            refine g_iload_n X (j := 1) dX5_stands_106 rfl ?_
            obtain ⟨r12, hc, h⟩ := bd1 h
            refine g_callV (q0 := 0) (ci := 5) (is := [0, 1, 2]) (As := [.int p1]) (ws' := [(a0, .inr (5, [.ref a1, .ref b0_1, .ref b0_2, .int x0_kept, .ref b0_4, .int x0_typed, .int x0_thrown, .int x0_at, .int x0_isFault, .int x0_value, .ref b0_10, .int x0_tolds, .ref a2, .ref a3, .ref b0_14])), (a1, .inl (cI, 41, .inl f1)), (a2, .inl (cI, 10, .inl o2)), (a3, .inl (cI, 1024, .inl o3))]) (st := []) X (c_X5_allBefore l D cI cS cL a0 a1 a2 b0_1 b0_2 b0_4 b0_10 a3 b0_14 p1 x0_kept x0_typed x0_thrown x0_at x0_isFault x0_value x0_tolds f1 o2 r12 hc) gX5_stands_X5_allBefore rfl ⟨rfl, rfl⟩ hd_X5_allBefore ⟨Nat.le_of_ble_eq_true rfl, Nat.le_of_ble_eq_true rfl⟩ ⟨Nat.zero_le _, Nat.zero_le _⟩ rfl rfl rfl rfl rfl rfl rfl (Nat.le_of_ble_eq_true rfl) rfl dX5_stands_107 ?_
            obtain ⟨r13, hc, h⟩ := bd1 h
            refine g_callS (is := []) (As := [.int r12]) (ws' := [(a0, .inr (5, [.ref a1, .ref b0_1, .ref b0_2, .int x0_kept, .ref b0_4, .int x0_typed, .int x0_thrown, .int x0_at, .int x0_isFault, .int x0_value, .ref b0_10, .int x0_tolds, .ref a2, .ref a3, .ref b0_14])), (a1, .inl (cI, 41, .inl f1)), (a2, .inl (cI, 10, .inl o2)), (a3, .inl (cI, 1024, .inl o3))]) (st := []) X (c_X5_ones l D cI cS cL r12 r13 hc) gX5_stands_X5_ones rfl ⟨rfl, rfl⟩ hd_X5_ones.2 ⟨Nat.le_of_ble_eq_true rfl, Nat.le_of_ble_eq_true rfl⟩ ⟨Nat.zero_le _, Nat.zero_le _⟩ rfl rfl rfl rfl rfl (Nat.le_of_ble_eq_true rfl) rfl dX5_stands_110 ?_
            refine g_goto (tgt := 128) X dX5_stands_113 (by decide) ?_
            refine g_lv (lv' := []) [] rfl ?_
            exact hK10 r13 h
        · refine g_iconst (v := (-1)) X dX5_stands_97 (by decide) ?_
          refine g_goto (tgt := 128) X dX5_stands_98 (by decide) ?_
          refine g_lv (lv' := []) [] rfl ?_
          exact hK10 (-1) h
    · rintro ⟨l4_4, l5_5⟩ o h hI hE
      dsimp only [u2] at h ⊢
      refine g_iload X (j := 5) dX5_stands_60 rfl ?_
      refine g_aload_n X (j := 0) dX5_stands_62 rfl ?_
      refine g_get (q0 := 0) (k := 0) (ci := 5) X in_X5_stands_X5 fl_X5_stands_7 rfl rfl (Nat.le_of_ble_eq_true rfl) rfl dX5_stands_63 ?_
      refine g_bipush (v := 40) X dX5_stands_66 (by decide) ?_
      refine g_iald (q0 := 1) (t0 := 0) X h rfl rfl dX5_stands_68 (fun v7 h => ?_)
      refine g_icmp_ge (tgt := 93) X h dX5_stands_69 (by decide) (fun h => ?_) (fun h => ?_)
      · refine g_lv (lv' := [(0, .ref a0), (1, .int p1), (2, .int p2), (3, .int r1), (4, .int l4_4)]) [0, 1, 2, 3, 4] rfl ?_
        exact hE l4_4 (Option.some.inj h).symm
      · refine g_iload X (j := 4) dX5_stands_72 rfl ?_
        refine g_aload_n X (j := 0) dX5_stands_74 rfl ?_
        refine g_iload X (j := 5) dX5_stands_75 rfl ?_
        obtain ⟨r8, hc, h⟩ := bd1 h
        refine g_callV (q0 := 0) (ci := 5) (is := [0, 1, 2]) (As := [.int l5_5]) (ws' := [(a0, .inr (5, [.ref a1, .ref b0_1, .ref b0_2, .int x0_kept, .ref b0_4, .int x0_typed, .int x0_thrown, .int x0_at, .int x0_isFault, .int x0_value, .ref b0_10, .int x0_tolds, .ref a2, .ref a3, .ref b0_14])), (a1, .inl (cI, 41, .inl f1)), (a2, .inl (cI, 10, .inl o2)), (a3, .inl (cI, 1024, .inl o3))]) (st := [.int l4_4]) X (c_X5_allBefore l D cI cS cL a0 a1 a2 b0_1 b0_2 b0_4 b0_10 a3 b0_14 l5_5 x0_kept x0_typed x0_thrown x0_at x0_isFault x0_value x0_tolds f1 o2 r8 hc) gX5_stands_X5_allBefore rfl ⟨rfl, rfl⟩ hd_X5_allBefore ⟨Nat.le_of_ble_eq_true rfl, Nat.le_of_ble_eq_true rfl⟩ ⟨Nat.zero_le _, Nat.zero_le _⟩ rfl rfl rfl rfl rfl rfl rfl (Nat.le_of_ble_eq_true rfl) rfl dX5_stands_77 ?_
        refine g_iload_n X (j := 1) dX5_stands_80 rfl ?_
        refine g_ishr X dX5_stands_81 ?_
        refine g_iconst (v := 1) X dX5_stands_82 (by decide) ?_
        refine g_iand X dX5_stands_83 ?_
        refine g_iadd X dX5_stands_84 ?_
        refine g_istore (lv' := [(4, .int (l4_4 + ((r8 >>> (p1 &&& 31)) &&& 1))), (0, .ref a0), (1, .int p1), (2, .int p2), (3, .int r1), (5, .int l5_5)]) X dX5_stands_85 (by decide) rfl ?_
        refine g_iinc (j := 5) (lv' := [(5, .int (l5_5 + 1)), (4, .int (l4_4 + ((r8 >>> (p1 &&& 31)) &&& 1))), (0, .ref a0), (1, .int p1), (2, .int p2), (3, .int r1)]) X (l5_5 + 1) dX5_stands_87 rfl rfl (by decide) rfl ?_
        refine g_goto (tgt := 60) X dX5_stands_90 (by decide) ?_
        refine g_lv (lv' := [(0, .ref a0), (1, .int p1), (2, .int p2), (3, .int r1), (4, .int (l4_4 + ((r8 >>> (p1 &&& 31)) &&& 1))), (5, .int (l5_5 + 1))]) [2, 3, 4, 5, 1, 0] rfl ?_
        exact hI ((l4_4 + ((r8 >>> (p1 &&& 31)) &&& 1)), (l5_5 + 1)) (Option.some.inj h).symm
  · refine g_iload_n X (j := 0) dX5_stands_14 rfl ?_
    refine jn_g h (u1 fun s14 => [(a0, .inr (5, [.ref a1, .ref b0_1, .ref b0_2, .int x0_kept, .ref b0_4, .int x0_typed, .int x0_thrown, .int x0_at, .int x0_isFault, .int x0_value, .ref b0_10, .int x0_tolds, .ref a2, .ref a3, .ref b0_14])), (a1, .inl (cI, 41, .inl f1)), (a2, .inl (cI, 10, .inl o2)), (a3, .inl (cI, 1024, .inl o3))]) (u1 fun s14 => []) (u1 fun s14 => [.int s14]) 53 ?_ ?_
    · rintro s14 h
      dsimp only [u1] at h ⊢
      have h := Option.some.inj h
      simp only [Prod.mk.injEq] at h
      obtain ⟨rfl, rfl, rfl⟩ := h
      exact g_iret X hr hlk dX5_stands_53 rfl rfl
    · intro K15 hK15 h
      refine jn_g h (u0 ([(a0, .inr (5, [.ref a1, .ref b0_1, .ref b0_2, .int x0_kept, .ref b0_4, .int x0_typed, .int x0_thrown, .int x0_at, .int x0_isFault, .int x0_value, .ref b0_10, .int x0_tolds, .ref a2, .ref a3, .ref b0_14])), (a1, .inl (cI, 41, .inl f1)), (a2, .inl (cI, 10, .inl o2)), (a3, .inl (cI, 1024, .inl o3))])) (u0 ([])) (u0 ([])) 52 ?_ ?_
      · rintro ⟨⟩ h
        dsimp only [u0] at h ⊢
        refine g_iconst (v := 0) X dX5_stands_52 (by decide) ?_
        exact hK15 0 h
      · intro K16 hK16 h
        refine g_if_le (tgt := 52) X h dX5_stands_15 (by decide) (fun h => ?_) (fun h => ?_)
        · refine g_lv (lv' := []) [] rfl ?_
          exact hK16 () h
        · refine g_aload_n X (j := 1) dX5_stands_18 rfl ?_
          refine g_get (q0 := 0) (k := 12) (ci := 5) X in_X5_stands_X5 fl_X5_stands_25 rfl rfl (Nat.le_of_ble_eq_true rfl) rfl dX5_stands_19 ?_
          refine g_iload_n X (j := 2) dX5_stands_22 rfl ?_
          refine g_iald (q0 := 2) (t0 := 0) X h rfl rfl dX5_stands_23 (fun v17 h => ?_)
          refine g_if_ne (tgt := 52) X h dX5_stands_24 (by decide) (fun h => ?_) (fun h => ?_)
          · refine g_lv (lv' := []) [] rfl ?_
            exact hK16 () h
          · refine g_aload_n X (j := 1) dX5_stands_27 rfl ?_
            refine g_get (q0 := 0) (k := 13) (ci := 5) X in_X5_stands_X5 fl_X5_stands_28 rfl rfl (Nat.le_of_ble_eq_true rfl) rfl dX5_stands_28 ?_
            refine g_iconst (v := 1) X dX5_stands_31 (by decide) ?_
            refine g_aload_n X (j := 1) dX5_stands_32 rfl ?_
            refine g_get (q0 := 0) (k := 0) (ci := 5) X in_X5_stands_X5 fl_X5_stands_7 rfl rfl (Nat.le_of_ble_eq_true rfl) rfl dX5_stands_33 ?_
            refine g_bipush (v := 40) X dX5_stands_36 (by decide) ?_
            refine g_iald (q0 := 1) (t0 := 0) X h rfl rfl dX5_stands_38 (fun v18 h => ?_)
            refine g_ishl X dX5_stands_39 ?_
            refine g_iconst (v := 1) X dX5_stands_40 (by decide) ?_
            refine g_isub X dX5_stands_41 ?_
            refine g_iconst (v := 1) X dX5_stands_42 (by decide) ?_
            refine g_iload_n X (j := 2) dX5_stands_43 rfl ?_
            refine g_ishl X dX5_stands_44 ?_
            refine g_iconst (v := (-1)) X dX5_stands_45 (by decide) ?_
            refine g_ixor X dX5_stands_46 ?_
            refine g_iand X dX5_stands_47 ?_
            refine g_iald (q0 := 3) (t0 := 0) X h rfl rfl dX5_stands_48 (fun v19 h => ?_)
            refine g_goto (tgt := 53) X dX5_stands_49 (by decide) ?_
            refine g_lv (lv' := []) [] rfl ?_
            exact hK15 v19 h
def f_X5_place (p1 : Int32) (p2 : Int32) (x0_thrown : Int32) (f1 : Nat → Int32) (f2 : Nat → Int32) (f3 : Nat → Int32) : Option (Int32 × Int32 × (Nat → Int32) × (Nat → Int32)) := (f_X5_isBook p1 f1).bind (u1 fun (r1 : Int32) => (if r1 = 0 then (f_X5_fails 1 0).bind (u2 fun (r13 : Int32) (o14 : Int32) => some (r13, o14, f2, f3)) else (f_X5_in p2 0 2).bind (u1 fun (r2 : Int32) => (jn (u4 fun (w3 : Int32) (w4 : Nat → Int32) (w5 : Nat → Int32) (s6 : Int32) => some (s6, w3, w4, w5)) (fun K7 => (if r2 = 0 then (f_X5_fails 2 0).bind (u2 fun (r8 : Int32) (o9 : Int32) => K7 (o9, f2, f3, r8)) else (f_X5_stands p1 p2 f1 f2 f3).bind (u3 fun (r10 : Int32) (o11 : Nat → Int32) (o12 : Nat → Int32) => K7 (0, o11, o12, r10))))))))
theorem in_X5_place_X5 : ∀ w ∈ wsX50, w ∈ wsX5_place := by decide +kernel
theorem fl_X5_place_38 : Cond.fieldLink RX5 38 "ColophonHuntModel" "thrown" "I" ∈ wsX5_place := by decide +kernel
theorem hd_X5_place : yX5_place.cls = RX5 ∧ yX5_place.cls ≠ "java/lang/invoke/MethodHandle" ∧ yX5_place.cls ≠ "java/lang/invoke/VarHandle" ∧ (parseMethodDescriptor yX5_place.desc).map (fun d => d.parameters.length) = some 2 := by decide +kernel
set_option maxRecDepth 100000 in
set_option maxHeartbeats 4000000 in
theorem c_X5_place (l : Launch) (D : va_G) (cI cS cL : ClassId) (a0 : Nat) (a1 : Nat) (a2 : Nat) (a3 : Nat) (b0_1 : Nat) (b0_2 : Nat) (b0_4 : Nat) (b0_10 : Nat) (b0_14 : Nat) (p1 : Int32) (p2 : Int32) (x0_kept : Int32) (x0_typed : Int32) (x0_thrown : Int32) (x0_at : Int32) (x0_isFault : Int32) (x0_value : Int32) (x0_tolds : Int32) (f1 : Nat → Int32) (f2 : Nat → Int32) (f3 : Nat → Int32) (rr : Int32) (y0 : Int32) (y1 : Nat → Int32) (y2 : Nat → Int32) (hc : f_X5_place p1 p2 x0_thrown f1 f2 f3 = some (rr, y0, y1, y2)) : KM l yX5_place wsX5_place { frames := 6, cells := 0, slots := 0, locals := 139 } D (tyS cI cS cL) [.ref a0, .int p1, .int p2] [(a0, .inr (5, [.ref a1, .ref b0_1, .ref b0_2, .int x0_kept, .ref b0_4, .int x0_typed, .int x0_thrown, .int x0_at, .int x0_isFault, .int x0_value, .ref b0_10, .int x0_tolds, .ref a2, .ref a3, .ref b0_14])), (a1, .inl (cI, 41, .inl f1)), (a2, .inl (cI, 10, .inl f2)), (a3, .inl (cI, 1024, .inl f3))] (some (.int rr)) (fun w => w = [(a0, .inr (5, [.ref a1, .ref b0_1, .ref b0_2, .int x0_kept, .ref b0_4, .int x0_typed, .int y0, .int x0_at, .int x0_isFault, .int x0_value, .ref b0_10, .int x0_tolds, .ref a2, .ref a3, .ref b0_14])), (a1, .inl (cI, 41, .inl f1)), (a2, .inl (cI, 10, .inl y1)), (a3, .inl (cI, 1024, .inl y2))]) 0 0 := by
  refine g_entry (cc := cX5_place) (nL := 3) (rt := (some .int)) (by decide) rfl (Nat.le_of_ble_eq_true rfl) ?_
  intro p e s m args below meth c A (X : GC p s m args c cX5_place 3 RX5 wsX5_place D (tyS cI cS cL) A) hr hlk _ _
  have h := hc
  unfold f_X5_place at h
  refine g_lv (lv' := [(0, .ref a0), (1, .int p1), (2, .int p2)]) [0, 1, 2] rfl ?_
  refine g_aload_n X (j := 0) dX5_place_0 rfl ?_
  refine g_iconst (v := 0) X dX5_place_1 (by decide) ?_
  refine g_put (q0 := 0) (k := 6) (ci := 5) (ws' := [(a0, .inr (5, [.ref a1, .ref b0_1, .ref b0_2, .int x0_kept, .ref b0_4, .int x0_typed, .int 0, .int x0_at, .int x0_isFault, .int x0_value, .ref b0_10, .int x0_tolds, .ref a2, .ref a3, .ref b0_14])), (a1, .inl (cI, 41, .inl f1)), (a2, .inl (cI, 10, .inl f2)), (a3, .inl (cI, 1024, .inl f3))]) X tyX5_ok nmX5 in_X5_place_X5 fl_X5_place_38 rfl rfl (Nat.le_of_ble_eq_true rfl) rfl rfl rfl (Nat.le_of_ble_eq_true rfl) dX5_place_2 rfl ?_
  refine g_aload_n X (j := 0) dX5_place_5 rfl ?_
  refine g_iload_n X (j := 1) dX5_place_6 rfl ?_
  obtain ⟨r1, hc, h⟩ := bd1 h
  refine g_callV (q0 := 0) (ci := 5) (is := [0, 1]) (As := [.int p1]) (ws' := [(a0, .inr (5, [.ref a1, .ref b0_1, .ref b0_2, .int x0_kept, .ref b0_4, .int x0_typed, .int 0, .int x0_at, .int x0_isFault, .int x0_value, .ref b0_10, .int x0_tolds, .ref a2, .ref a3, .ref b0_14])), (a1, .inl (cI, 41, .inl f1)), (a2, .inl (cI, 10, .inl f2)), (a3, .inl (cI, 1024, .inl f3))]) (st := []) X (c_X5_isBook l D cI cS cL a0 a1 b0_1 b0_2 b0_4 b0_10 a2 a3 b0_14 p1 x0_kept x0_typed 0 x0_at x0_isFault x0_value x0_tolds f1 r1 hc) gX5_place_X5_isBook rfl ⟨rfl, rfl⟩ hd_X5_isBook ⟨Nat.le_of_ble_eq_true rfl, Nat.le_of_ble_eq_true rfl⟩ ⟨Nat.zero_le _, Nat.zero_le _⟩ rfl rfl rfl rfl rfl rfl rfl (Nat.le_of_ble_eq_true rfl) rfl dX5_place_7 ?_
  refine g_if_ne (tgt := 19) X h dX5_place_10 (by decide) (fun h => ?_) (fun h => ?_)
  · refine g_iload_n X (j := 2) dX5_place_19 rfl ?_
    refine g_iconst (v := 0) X dX5_place_20 (by decide) ?_
    refine g_iconst (v := 2) X dX5_place_21 (by decide) ?_
    obtain ⟨r2, hc, h⟩ := bd1 h
    refine g_callS (is := []) (As := [.int p2, .int 0, .int 2]) (ws' := [(a0, .inr (5, [.ref a1, .ref b0_1, .ref b0_2, .int x0_kept, .ref b0_4, .int x0_typed, .int 0, .int x0_at, .int x0_isFault, .int x0_value, .ref b0_10, .int x0_tolds, .ref a2, .ref a3, .ref b0_14])), (a1, .inl (cI, 41, .inl f1)), (a2, .inl (cI, 10, .inl f2)), (a3, .inl (cI, 1024, .inl f3))]) (st := []) X (c_X5_in l D cI cS cL p2 0 2 r2 hc) gX5_place_X5_in rfl ⟨rfl, rfl⟩ hd_X5_in.2 ⟨Nat.le_of_ble_eq_true rfl, Nat.le_of_ble_eq_true rfl⟩ ⟨Nat.zero_le _, Nat.zero_le _⟩ rfl rfl rfl rfl rfl (Nat.le_of_ble_eq_true rfl) rfl dX5_place_22 ?_
    refine jn_g h (u4 fun w3 w4 w5 s6 => [(a0, .inr (5, [.ref a1, .ref b0_1, .ref b0_2, .int x0_kept, .ref b0_4, .int x0_typed, .int w3, .int x0_at, .int x0_isFault, .int x0_value, .ref b0_10, .int x0_tolds, .ref a2, .ref a3, .ref b0_14])), (a1, .inl (cI, 41, .inl f1)), (a2, .inl (cI, 10, .inl w4)), (a3, .inl (cI, 1024, .inl w5))]) (u4 fun w3 w4 w5 s6 => []) (u4 fun w3 w4 w5 s6 => [.int s6]) 42 ?_ ?_
    · rintro ⟨w3, w4, w5, s6⟩ h
      dsimp only [u4] at h ⊢
      have h := Option.some.inj h
      simp only [Prod.mk.injEq] at h
      obtain ⟨rfl, rfl, rfl, rfl⟩ := h
      exact g_iret X hr hlk dX5_place_42 rfl rfl
    · intro K7 hK7 h
      refine g_if_eq (tgt := 37) X h dX5_place_25 (by decide) (fun h => ?_) (fun h => ?_)
      · refine g_aload_n X (j := 0) dX5_place_37 rfl ?_
        refine g_iconst (v := 2) X dX5_place_38 (by decide) ?_
        obtain ⟨r8, o9, hc, h⟩ := bd2 h
        refine g_callV (q0 := 0) (ci := 5) (is := [0]) (As := [.int 2]) (ws' := [(a0, .inr (5, [.ref a1, .ref b0_1, .ref b0_2, .int x0_kept, .ref b0_4, .int x0_typed, .int o9, .int x0_at, .int x0_isFault, .int x0_value, .ref b0_10, .int x0_tolds, .ref a2, .ref a3, .ref b0_14])), (a1, .inl (cI, 41, .inl f1)), (a2, .inl (cI, 10, .inl f2)), (a3, .inl (cI, 1024, .inl f3))]) (st := []) X (c_X5_fails l D cI cS cL a0 a1 b0_1 b0_2 b0_4 b0_10 a2 a3 b0_14 2 x0_kept x0_typed 0 x0_at x0_isFault x0_value x0_tolds r8 o9 hc) gX5_place_X5_fails rfl ⟨rfl, rfl⟩ hd_X5_fails ⟨Nat.le_of_ble_eq_true rfl, Nat.le_of_ble_eq_true rfl⟩ ⟨Nat.zero_le _, Nat.zero_le _⟩ rfl rfl rfl rfl rfl rfl rfl (Nat.le_of_ble_eq_true rfl) rfl dX5_place_39 ?_
        refine g_lv (lv' := []) [] rfl ?_
        exact hK7 (o9, f2, f3, r8) h
      · refine g_aload_n X (j := 0) dX5_place_28 rfl ?_
        refine g_iload_n X (j := 1) dX5_place_29 rfl ?_
        refine g_iload_n X (j := 2) dX5_place_30 rfl ?_
        obtain ⟨r10, o11, o12, hc, h⟩ := bd3 h
        refine g_callV (q0 := 0) (ci := 5) (is := [0, 1, 2, 3]) (As := [.int p1, .int p2]) (ws' := [(a0, .inr (5, [.ref a1, .ref b0_1, .ref b0_2, .int x0_kept, .ref b0_4, .int x0_typed, .int 0, .int x0_at, .int x0_isFault, .int x0_value, .ref b0_10, .int x0_tolds, .ref a2, .ref a3, .ref b0_14])), (a1, .inl (cI, 41, .inl f1)), (a2, .inl (cI, 10, .inl o11)), (a3, .inl (cI, 1024, .inl o12))]) (st := []) X (c_X5_stands l D cI cS cL a0 a1 a2 a3 b0_1 b0_2 b0_4 b0_10 b0_14 p1 p2 x0_kept x0_typed 0 x0_at x0_isFault x0_value x0_tolds f1 f2 f3 r10 o11 o12 hc) gX5_place_X5_stands rfl ⟨rfl, rfl⟩ hd_X5_stands ⟨Nat.le_of_ble_eq_true rfl, Nat.le_of_ble_eq_true rfl⟩ ⟨Nat.zero_le _, Nat.zero_le _⟩ rfl rfl rfl rfl rfl rfl rfl (Nat.le_of_ble_eq_true rfl) rfl dX5_place_31 ?_
        refine g_goto (tgt := 42) X dX5_place_34 (by decide) ?_
        refine g_lv (lv' := []) [] rfl ?_
        exact hK7 (0, o11, o12, r10) h
  · refine g_aload_n X (j := 0) dX5_place_13 rfl ?_
    refine g_iconst (v := 1) X dX5_place_14 (by decide) ?_
    obtain ⟨r13, o14, hc, h⟩ := bd2 h
    refine g_callV (q0 := 0) (ci := 5) (is := [0]) (As := [.int 1]) (ws' := [(a0, .inr (5, [.ref a1, .ref b0_1, .ref b0_2, .int x0_kept, .ref b0_4, .int x0_typed, .int o14, .int x0_at, .int x0_isFault, .int x0_value, .ref b0_10, .int x0_tolds, .ref a2, .ref a3, .ref b0_14])), (a1, .inl (cI, 41, .inl f1)), (a2, .inl (cI, 10, .inl f2)), (a3, .inl (cI, 1024, .inl f3))]) (st := []) X (c_X5_fails l D cI cS cL a0 a1 b0_1 b0_2 b0_4 b0_10 a2 a3 b0_14 1 x0_kept x0_typed 0 x0_at x0_isFault x0_value x0_tolds r13 o14 hc) gX5_place_X5_fails rfl ⟨rfl, rfl⟩ hd_X5_fails ⟨Nat.le_of_ble_eq_true rfl, Nat.le_of_ble_eq_true rfl⟩ ⟨Nat.zero_le _, Nat.zero_le _⟩ rfl rfl rfl rfl rfl rfl rfl (Nat.le_of_ble_eq_true rfl) rfl dX5_place_15 ?_
    have h := Option.some.inj h
    simp only [Prod.mk.injEq] at h
    obtain ⟨rfl, rfl, rfl, rfl⟩ := h
    exact g_iret X hr hlk dX5_place_18 rfl rfl
def f_X5_leftOut (f1 : Nat → Int32) (f2 : Nat → Int32) (f3 : Nat → Int32) : Option (Int32 × (Nat → Int32) × (Nat → Int32)) := (f_X5_lays f2 f3 41 f1).bind (u2 fun (o2 : Nat → Int32) (o3 : Nat → Int32) => (rdA f1 41 40).bind (fun v4 => (wl (u2 fun (l1_5 : Int32) (l2_6 : Int32) => (if l2_6 < 0 then some (Sum.inr l1_5) else (rdA f1 41 40).bind (fun v8 => (rdA o3 1024 l2_6).bind (fun v9 => (jn (u1 fun (s10 : Int32) => (jn (u1 fun (s12 : Int32) => some (Sum.inl (s12, (l2_6 + (-1))))) (fun K13 => (if s10 = 0 then K13 l1_5 else K13 ((((1 : Int32) <<< (v8 &&& 31)) - 1) &&& (l2_6 ^^^ (-1))))))) (fun K11 => jn (u0 (K11 0)) (fun K14 => (if v9 ≤ 0 then K14 () else (f_X5_ones ((((1 : Int32) <<< (v8 &&& 31)) - 1) &&& (l2_6 ^^^ (-1)))).bind (u1 fun (r15 : Int32) => (f_X5_ones l1_5).bind (u1 fun (r16 : Int32) => (jn (u0 (K11 1)) (fun K17 => (if r15 < r16 then K17 () else (f_X5_ones ((((1 : Int32) <<< (v8 &&& 31)) - 1) &&& (l2_6 ^^^ (-1)))).bind (u1 fun (r18 : Int32) => (f_X5_ones l1_5).bind (u1 fun (r19 : Int32) => (if r18 = r19 then (if l1_5 ≤ ((((1 : Int32) <<< (v8 &&& 31)) - 1) &&& (l2_6 ^^^ (-1))) then K14 () else K17 ()) else K14 ())))))))))))))))) 9999 ((((1 : Int32) <<< (v4 &&& 31)) - 1), (((1 : Int32) <<< (v4 &&& 31)) - 1))).bind (u1 fun (l1_7 : Int32) => some (l1_7, o2, o3))))
theorem in_X5_leftOut_X5 : ∀ w ∈ wsX50, w ∈ wsX5_leftOut := by decide +kernel
theorem fl_X5_leftOut_7 : Cond.fieldLink RX5 7 "ColophonHuntModel" "now" "[I" ∈ wsX5_leftOut := by decide +kernel
theorem fl_X5_leftOut_28 : Cond.fieldLink RX5 28 "ColophonHuntModel" "ways" "[I" ∈ wsX5_leftOut := by decide +kernel
theorem hd_X5_leftOut : yX5_leftOut.cls = RX5 ∧ yX5_leftOut.cls ≠ "java/lang/invoke/MethodHandle" ∧ yX5_leftOut.cls ≠ "java/lang/invoke/VarHandle" ∧ (parseMethodDescriptor yX5_leftOut.desc).map (fun d => d.parameters.length) = some 0 := by decide +kernel
set_option maxRecDepth 100000 in
set_option maxHeartbeats 4000000 in
theorem c_X5_leftOut (l : Launch) (D : va_G) (cI cS cL : ClassId) (a0 : Nat) (a1 : Nat) (a2 : Nat) (a3 : Nat) (b0_1 : Nat) (b0_2 : Nat) (b0_4 : Nat) (b0_10 : Nat) (b0_14 : Nat) (x0_kept : Int32) (x0_typed : Int32) (x0_thrown : Int32) (x0_at : Int32) (x0_isFault : Int32) (x0_value : Int32) (x0_tolds : Int32) (f1 : Nat → Int32) (f2 : Nat → Int32) (f3 : Nat → Int32) (rr : Int32) (y0 : Nat → Int32) (y1 : Nat → Int32) (hc : f_X5_leftOut f1 f2 f3 = some (rr, y0, y1)) : KM l yX5_leftOut wsX5_leftOut { frames := 4, cells := 0, slots := 0, locals := 93 } D (tyS cI cS cL) [.ref a0] [(a0, .inr (5, [.ref a1, .ref b0_1, .ref b0_2, .int x0_kept, .ref b0_4, .int x0_typed, .int x0_thrown, .int x0_at, .int x0_isFault, .int x0_value, .ref b0_10, .int x0_tolds, .ref a2, .ref a3, .ref b0_14])), (a1, .inl (cI, 41, .inl f1)), (a2, .inl (cI, 10, .inl f2)), (a3, .inl (cI, 1024, .inl f3))] (some (.int rr)) (fun w => w = [(a0, .inr (5, [.ref a1, .ref b0_1, .ref b0_2, .int x0_kept, .ref b0_4, .int x0_typed, .int x0_thrown, .int x0_at, .int x0_isFault, .int x0_value, .ref b0_10, .int x0_tolds, .ref a2, .ref a3, .ref b0_14])), (a1, .inl (cI, 41, .inl f1)), (a2, .inl (cI, 10, .inl y0)), (a3, .inl (cI, 1024, .inl y1))]) 0 0 := by
  refine g_entry (cc := cX5_leftOut) (nL := 5) (rt := (some .int)) (by decide) rfl (Nat.le_of_ble_eq_true rfl) ?_
  intro p e s m args below meth c A (X : GC p s m args c cX5_leftOut 5 RX5 wsX5_leftOut D (tyS cI cS cL) A) hr hlk _ _
  have h := hc
  unfold f_X5_leftOut at h
  refine g_lv (lv' := [(0, .ref a0)]) [0] rfl ?_
  refine g_aload_n X (j := 0) dX5_leftOut_0 rfl ?_
  refine g_aload_n X (j := 0) dX5_leftOut_1 rfl ?_
  refine g_get (q0 := 0) (k := 0) (ci := 5) X in_X5_leftOut_X5 fl_X5_leftOut_7 rfl rfl (Nat.le_of_ble_eq_true rfl) rfl dX5_leftOut_2 ?_
  obtain ⟨o2, o3, hc, h⟩ := bd2 h
  refine g_callV (q0 := 0) (ci := 5) (is := [0, 2, 3, 1]) (As := [.ref a1]) (ws' := [(a0, .inr (5, [.ref a1, .ref b0_1, .ref b0_2, .int x0_kept, .ref b0_4, .int x0_typed, .int x0_thrown, .int x0_at, .int x0_isFault, .int x0_value, .ref b0_10, .int x0_tolds, .ref a2, .ref a3, .ref b0_14])), (a1, .inl (cI, 41, .inl f1)), (a2, .inl (cI, 10, .inl o2)), (a3, .inl (cI, 1024, .inl o3))]) (st := []) X (c_X5_lays l D cI cS cL a0 a2 a3 a1 a1 b0_1 b0_2 b0_4 b0_10 b0_14 x0_kept x0_typed x0_thrown x0_at x0_isFault x0_value x0_tolds f2 f3 41 f1 o2 o3 hc) gX5_leftOut_X5_lays rfl ⟨rfl, rfl⟩ hd_X5_lays ⟨Nat.le_of_ble_eq_true rfl, Nat.le_of_ble_eq_true rfl⟩ ⟨Nat.zero_le _, Nat.zero_le _⟩ rfl rfl rfl rfl rfl rfl rfl (Nat.le_of_ble_eq_true rfl) rfl dX5_leftOut_5 ?_
  refine g_iconst (v := 1) X dX5_leftOut_8 (by decide) ?_
  refine g_aload_n X (j := 0) dX5_leftOut_9 rfl ?_
  refine g_get (q0 := 0) (k := 0) (ci := 5) X in_X5_leftOut_X5 fl_X5_leftOut_7 rfl rfl (Nat.le_of_ble_eq_true rfl) rfl dX5_leftOut_10 ?_
  refine g_bipush (v := 40) X dX5_leftOut_13 (by decide) ?_
  refine g_iald (q0 := 1) (t0 := 0) X h rfl rfl dX5_leftOut_15 (fun v4 h => ?_)
  refine g_ishl X dX5_leftOut_16 ?_
  refine g_iconst (v := 1) X dX5_leftOut_17 (by decide) ?_
  refine g_isub X dX5_leftOut_18 ?_
  refine g_istore_n (lv' := [(1, .int (((1 : Int32) <<< (v4 &&& 31)) - 1)), (0, .ref a0)]) X dX5_leftOut_19 rfl (by decide) rfl ?_
  refine g_iload_n X (j := 0) dX5_leftOut_20 rfl ?_
  refine g_istore_n (lv' := [(2, .int (((1 : Int32) <<< (v4 &&& 31)) - 1)), (1, .int (((1 : Int32) <<< (v4 &&& 31)) - 1)), (0, .ref a0)]) X dX5_leftOut_21 rfl (by decide) rfl ?_
  refine g_lv (lv' := [(0, .ref a0), (1, .int (((1 : Int32) <<< (v4 &&& 31)) - 1)), (2, .int (((1 : Int32) <<< (v4 &&& 31)) - 1))]) [2, 1, 0] rfl ?_
  refine wl_g1 h (u2 fun l1_5 l2_6 => [(a0, .inr (5, [.ref a1, .ref b0_1, .ref b0_2, .int x0_kept, .ref b0_4, .int x0_typed, .int x0_thrown, .int x0_at, .int x0_isFault, .int x0_value, .ref b0_10, .int x0_tolds, .ref a2, .ref a3, .ref b0_14])), (a1, .inl (cI, 41, .inl f1)), (a2, .inl (cI, 10, .inl o2)), (a3, .inl (cI, 1024, .inl o3))]) (u2 fun l1_5 l2_6 => [(0, .ref a0), (1, .int l1_5), (2, .int l2_6)]) rfl rfl (u1 fun l1_7 => [(a0, .inr (5, [.ref a1, .ref b0_1, .ref b0_2, .int x0_kept, .ref b0_4, .int x0_typed, .int x0_thrown, .int x0_at, .int x0_isFault, .int x0_value, .ref b0_10, .int x0_tolds, .ref a2, .ref a3, .ref b0_14])), (a1, .inl (cI, 41, .inl f1)), (a2, .inl (cI, 10, .inl o2)), (a3, .inl (cI, 1024, .inl o3))]) (u1 fun l1_7 => [(1, .int l1_7)]) 102 ?_ ?_
  · rintro l1_7 h
    dsimp only [u1] at h ⊢
    refine g_iload_n X (j := 0) dX5_leftOut_102 rfl ?_
    have h := Option.some.inj h
    simp only [Prod.mk.injEq] at h
    obtain ⟨rfl, rfl, rfl⟩ := h
    exact g_iret X hr hlk dX5_leftOut_103 rfl rfl
  · rintro ⟨l1_5, l2_6⟩ o h hI hE
    dsimp only [u2] at h ⊢
    refine g_iload_n X (j := 2) dX5_leftOut_22 rfl ?_
    refine g_if_lt (tgt := 102) X h dX5_leftOut_23 (by decide) (fun h => ?_) (fun h => ?_)
    · refine g_lv (lv' := [(1, .int l1_5)]) [1] rfl ?_
      exact hE l1_5 (Option.some.inj h).symm
    · refine g_iconst (v := 1) X dX5_leftOut_26 (by decide) ?_
      refine g_aload_n X (j := 0) dX5_leftOut_27 rfl ?_
      refine g_get (q0 := 0) (k := 0) (ci := 5) X in_X5_leftOut_X5 fl_X5_leftOut_7 rfl rfl (Nat.le_of_ble_eq_true rfl) rfl dX5_leftOut_28 ?_
      refine g_bipush (v := 40) X dX5_leftOut_31 (by decide) ?_
      refine g_iald (q0 := 1) (t0 := 0) X h rfl rfl dX5_leftOut_33 (fun v8 h => ?_)
      refine g_ishl X dX5_leftOut_34 ?_
      refine g_iconst (v := 1) X dX5_leftOut_35 (by decide) ?_
      refine g_isub X dX5_leftOut_36 ?_
      refine g_iload_n X (j := 2) dX5_leftOut_37 rfl ?_
      refine g_iconst (v := (-1)) X dX5_leftOut_38 (by decide) ?_
      refine g_ixor X dX5_leftOut_39 ?_
      refine g_iand X dX5_leftOut_40 ?_
      refine g_istore_n (lv' := [(3, .int ((((1 : Int32) <<< (v8 &&& 31)) - 1) &&& (l2_6 ^^^ (-1)))), (0, .ref a0), (1, .int l1_5), (2, .int l2_6)]) X dX5_leftOut_41 rfl (by decide) rfl ?_
      refine g_aload_n X (j := 1) dX5_leftOut_42 rfl ?_
      refine g_get (q0 := 0) (k := 13) (ci := 5) X in_X5_leftOut_X5 fl_X5_leftOut_28 rfl rfl (Nat.le_of_ble_eq_true rfl) rfl dX5_leftOut_43 ?_
      refine g_iload_n X (j := 3) dX5_leftOut_46 rfl ?_
      refine g_iald (q0 := 3) (t0 := 0) X h rfl rfl dX5_leftOut_47 (fun v9 h => ?_)
      refine jn_g h (u1 fun s10 => [(a0, .inr (5, [.ref a1, .ref b0_1, .ref b0_2, .int x0_kept, .ref b0_4, .int x0_typed, .int x0_thrown, .int x0_at, .int x0_isFault, .int x0_value, .ref b0_10, .int x0_tolds, .ref a2, .ref a3, .ref b0_14])), (a1, .inl (cI, 41, .inl f1)), (a2, .inl (cI, 10, .inl o2)), (a3, .inl (cI, 1024, .inl o3))]) (u1 fun s10 => [(0, .ref a0), (1, .int l1_5), (2, .int l2_6), (3, .int ((((1 : Int32) <<< (v8 &&& 31)) - 1) &&& (l2_6 ^^^ (-1))))]) (u1 fun s10 => [.int s10]) 83 ?_ ?_
      · rintro s10 h
        dsimp only [u1] at h ⊢
        refine g_istore (lv' := [(4, .int s10), (0, .ref a0), (1, .int l1_5), (2, .int l2_6), (3, .int ((((1 : Int32) <<< (v8 &&& 31)) - 1) &&& (l2_6 ^^^ (-1))))]) X dX5_leftOut_83 (by decide) rfl ?_
        refine g_iload X (j := 0) dX5_leftOut_85 rfl ?_
        refine jn_g h (u1 fun s12 => [(a0, .inr (5, [.ref a1, .ref b0_1, .ref b0_2, .int x0_kept, .ref b0_4, .int x0_typed, .int x0_thrown, .int x0_at, .int x0_isFault, .int x0_value, .ref b0_10, .int x0_tolds, .ref a2, .ref a3, .ref b0_14])), (a1, .inl (cI, 41, .inl f1)), (a2, .inl (cI, 10, .inl o2)), (a3, .inl (cI, 1024, .inl o3))]) (u1 fun s12 => [(0, .ref a0), (2, .int l2_6)]) (u1 fun s12 => [.int s12]) 95 ?_ ?_
        · rintro s12 h
          dsimp only [u1] at h ⊢
          refine g_istore_n (lv' := [(1, .int s12), (0, .ref a0), (2, .int l2_6)]) X dX5_leftOut_95 rfl (by decide) rfl ?_
          refine g_iinc (j := 2) (lv' := [(2, .int (l2_6 + (-1))), (1, .int s12), (0, .ref a0)]) X (l2_6 + (-1)) dX5_leftOut_96 rfl rfl (by decide) rfl ?_
          refine g_goto (tgt := 22) X dX5_leftOut_99 (by decide) ?_
          refine g_lv (lv' := [(0, .ref a0), (1, .int s12), (2, .int (l2_6 + (-1)))]) [2, 1, 0] rfl ?_
          exact hI (s12, (l2_6 + (-1))) (Option.some.inj h).symm
        · intro K13 hK13 h
          refine g_if_eq (tgt := 94) X h dX5_leftOut_87 (by decide) (fun h => ?_) (fun h => ?_)
          · refine g_iload_n X (j := 2) dX5_leftOut_94 rfl ?_
            refine g_lv (lv' := [(0, .ref a0), (2, .int l2_6)]) [1, 3] rfl ?_
            exact hK13 l1_5 h
          · refine g_iload_n X (j := 4) dX5_leftOut_90 rfl ?_
            refine g_goto (tgt := 95) X dX5_leftOut_91 (by decide) ?_
            refine g_lv (lv' := [(0, .ref a0), (2, .int l2_6)]) [1, 3] rfl ?_
            exact hK13 ((((1 : Int32) <<< (v8 &&& 31)) - 1) &&& (l2_6 ^^^ (-1))) h
      · intro K11 hK11 h
        refine jn_g h (u0 ([(a0, .inr (5, [.ref a1, .ref b0_1, .ref b0_2, .int x0_kept, .ref b0_4, .int x0_typed, .int x0_thrown, .int x0_at, .int x0_isFault, .int x0_value, .ref b0_10, .int x0_tolds, .ref a2, .ref a3, .ref b0_14])), (a1, .inl (cI, 41, .inl f1)), (a2, .inl (cI, 10, .inl o2)), (a3, .inl (cI, 1024, .inl o3))])) (u0 ([(0, .ref a0), (1, .int l1_5), (2, .int l2_6), (3, .int ((((1 : Int32) <<< (v8 &&& 31)) - 1) &&& (l2_6 ^^^ (-1))))])) (u0 ([])) 82 ?_ ?_
        · rintro ⟨⟩ h
          dsimp only [u0] at h ⊢
          refine g_iconst (v := 0) X dX5_leftOut_82 (by decide) ?_
          exact hK11 0 h
        · intro K14 hK14 h
          refine g_if_le (tgt := 82) X h dX5_leftOut_48 (by decide) (fun h => ?_) (fun h => ?_)
          · refine g_lv (lv' := [(0, .ref a0), (1, .int l1_5), (2, .int l2_6), (3, .int ((((1 : Int32) <<< (v8 &&& 31)) - 1) &&& (l2_6 ^^^ (-1))))]) [1, 2, 3, 0] rfl ?_
            exact hK14 () h
          · refine g_iload_n X (j := 0) dX5_leftOut_51 rfl ?_
            obtain ⟨r15, hc, h⟩ := bd1 h
            refine g_callS (is := []) (As := [.int ((((1 : Int32) <<< (v8 &&& 31)) - 1) &&& (l2_6 ^^^ (-1)))]) (ws' := [(a0, .inr (5, [.ref a1, .ref b0_1, .ref b0_2, .int x0_kept, .ref b0_4, .int x0_typed, .int x0_thrown, .int x0_at, .int x0_isFault, .int x0_value, .ref b0_10, .int x0_tolds, .ref a2, .ref a3, .ref b0_14])), (a1, .inl (cI, 41, .inl f1)), (a2, .inl (cI, 10, .inl o2)), (a3, .inl (cI, 1024, .inl o3))]) (st := []) X (c_X5_ones l D cI cS cL ((((1 : Int32) <<< (v8 &&& 31)) - 1) &&& (l2_6 ^^^ (-1))) r15 hc) gX5_leftOut_X5_ones rfl ⟨rfl, rfl⟩ hd_X5_ones.2 ⟨Nat.le_of_ble_eq_true rfl, Nat.le_of_ble_eq_true rfl⟩ ⟨Nat.zero_le _, Nat.zero_le _⟩ rfl rfl rfl rfl rfl (Nat.le_of_ble_eq_true rfl) rfl dX5_leftOut_52 ?_
            refine g_iload_n X (j := 2) dX5_leftOut_55 rfl ?_
            obtain ⟨r16, hc, h⟩ := bd1 h
            refine g_callS (is := []) (As := [.int l1_5]) (ws' := [(a0, .inr (5, [.ref a1, .ref b0_1, .ref b0_2, .int x0_kept, .ref b0_4, .int x0_typed, .int x0_thrown, .int x0_at, .int x0_isFault, .int x0_value, .ref b0_10, .int x0_tolds, .ref a2, .ref a3, .ref b0_14])), (a1, .inl (cI, 41, .inl f1)), (a2, .inl (cI, 10, .inl o2)), (a3, .inl (cI, 1024, .inl o3))]) (st := [.int r15]) X (c_X5_ones l D cI cS cL l1_5 r16 hc) gX5_leftOut_X5_ones rfl ⟨rfl, rfl⟩ hd_X5_ones.2 ⟨Nat.le_of_ble_eq_true rfl, Nat.le_of_ble_eq_true rfl⟩ ⟨Nat.zero_le _, Nat.zero_le _⟩ rfl rfl rfl rfl rfl (Nat.le_of_ble_eq_true rfl) rfl dX5_leftOut_56 ?_
            refine jn_g h (u0 ([(a0, .inr (5, [.ref a1, .ref b0_1, .ref b0_2, .int x0_kept, .ref b0_4, .int x0_typed, .int x0_thrown, .int x0_at, .int x0_isFault, .int x0_value, .ref b0_10, .int x0_tolds, .ref a2, .ref a3, .ref b0_14])), (a1, .inl (cI, 41, .inl f1)), (a2, .inl (cI, 10, .inl o2)), (a3, .inl (cI, 1024, .inl o3))])) (u0 ([(0, .ref a0), (1, .int l1_5), (2, .int l2_6), (3, .int ((((1 : Int32) <<< (v8 &&& 31)) - 1) &&& (l2_6 ^^^ (-1))))])) (u0 ([])) 78 ?_ ?_
            · rintro ⟨⟩ h
              dsimp only [u0] at h ⊢
              refine g_iconst (v := 1) X dX5_leftOut_78 (by decide) ?_
              refine g_goto (tgt := 83) X dX5_leftOut_79 (by decide) ?_
              exact hK11 1 h
            · intro K17 hK17 h
              refine g_icmp_lt (tgt := 78) X h dX5_leftOut_59 (by decide) (fun h => ?_) (fun h => ?_)
              · refine g_lv (lv' := [(0, .ref a0), (1, .int l1_5), (2, .int l2_6), (3, .int ((((1 : Int32) <<< (v8 &&& 31)) - 1) &&& (l2_6 ^^^ (-1))))]) [1, 2, 3, 0] rfl ?_
                exact hK17 () h
              · refine g_iload_n X (j := 0) dX5_leftOut_62 rfl ?_
                obtain ⟨r18, hc, h⟩ := bd1 h
                refine g_callS (is := []) (As := [.int ((((1 : Int32) <<< (v8 &&& 31)) - 1) &&& (l2_6 ^^^ (-1)))]) (ws' := [(a0, .inr (5, [.ref a1, .ref b0_1, .ref b0_2, .int x0_kept, .ref b0_4, .int x0_typed, .int x0_thrown, .int x0_at, .int x0_isFault, .int x0_value, .ref b0_10, .int x0_tolds, .ref a2, .ref a3, .ref b0_14])), (a1, .inl (cI, 41, .inl f1)), (a2, .inl (cI, 10, .inl o2)), (a3, .inl (cI, 1024, .inl o3))]) (st := []) X (c_X5_ones l D cI cS cL ((((1 : Int32) <<< (v8 &&& 31)) - 1) &&& (l2_6 ^^^ (-1))) r18 hc) gX5_leftOut_X5_ones rfl ⟨rfl, rfl⟩ hd_X5_ones.2 ⟨Nat.le_of_ble_eq_true rfl, Nat.le_of_ble_eq_true rfl⟩ ⟨Nat.zero_le _, Nat.zero_le _⟩ rfl rfl rfl rfl rfl (Nat.le_of_ble_eq_true rfl) rfl dX5_leftOut_63 ?_
                refine g_iload_n X (j := 2) dX5_leftOut_66 rfl ?_
                obtain ⟨r19, hc, h⟩ := bd1 h
                refine g_callS (is := []) (As := [.int l1_5]) (ws' := [(a0, .inr (5, [.ref a1, .ref b0_1, .ref b0_2, .int x0_kept, .ref b0_4, .int x0_typed, .int x0_thrown, .int x0_at, .int x0_isFault, .int x0_value, .ref b0_10, .int x0_tolds, .ref a2, .ref a3, .ref b0_14])), (a1, .inl (cI, 41, .inl f1)), (a2, .inl (cI, 10, .inl o2)), (a3, .inl (cI, 1024, .inl o3))]) (st := [.int r18]) X (c_X5_ones l D cI cS cL l1_5 r19 hc) gX5_leftOut_X5_ones rfl ⟨rfl, rfl⟩ hd_X5_ones.2 ⟨Nat.le_of_ble_eq_true rfl, Nat.le_of_ble_eq_true rfl⟩ ⟨Nat.zero_le _, Nat.zero_le _⟩ rfl rfl rfl rfl rfl (Nat.le_of_ble_eq_true rfl) rfl dX5_leftOut_67 ?_
                refine g_icmp_ne (tgt := 82) X h dX5_leftOut_70 (by decide) (fun h => ?_) (fun h => ?_)
                · refine g_lv (lv' := [(0, .ref a0), (1, .int l1_5), (2, .int l2_6), (3, .int ((((1 : Int32) <<< (v8 &&& 31)) - 1) &&& (l2_6 ^^^ (-1))))]) [1, 2, 3, 0] rfl ?_
                  exact hK14 () h
                · refine g_iload_n X (j := 0) dX5_leftOut_73 rfl ?_
                  refine g_iload_n X (j := 2) dX5_leftOut_74 rfl ?_
                  refine g_icmp_ge (tgt := 82) X h dX5_leftOut_75 (by decide) (fun h => ?_) (fun h => ?_)
                  · refine g_lv (lv' := [(0, .ref a0), (1, .int l1_5), (2, .int l2_6), (3, .int ((((1 : Int32) <<< (v8 &&& 31)) - 1) &&& (l2_6 ^^^ (-1))))]) [1, 2, 3, 0] rfl ?_
                    exact hK14 () h
                  · refine g_lv (lv' := [(0, .ref a0), (1, .int l1_5), (2, .int l2_6), (3, .int ((((1 : Int32) <<< (v8 &&& 31)) - 1) &&& (l2_6 ^^^ (-1))))]) [1, 2, 3, 0] rfl ?_
                    exact hK17 () h
def f_X5_wrong (p1 : Int32) (x0_thrown : Int32) (f1 : Nat → Int32) (f2 : Nat → Int32) (f3 : Nat → Int32) : Option (Int32 × Int32 × (Nat → Int32) × (Nat → Int32)) := (f_X5_in p1 0 1).bind (u1 fun (r1 : Int32) => (if r1 = 0 then (f_X5_fails 1 0).bind (u2 fun (r8 : Int32) (o9 : Int32) => some (r8, o9, f2, f3)) else (f_X5_leftOut f1 f2 f3).bind (u3 fun (r2 : Int32) (o3 : Nat → Int32) (o4 : Nat → Int32) => (jn (u1 fun (s5 : Int32) => some (s5, 0, o3, o4)) (fun K6 => (if p1 = 0 then (f_X5_ones r2).bind (u1 fun (r7 : Int32) => K6 r7) else K6 r2))))))
theorem in_X5_wrong_X5 : ∀ w ∈ wsX50, w ∈ wsX5_wrong := by decide +kernel
theorem fl_X5_wrong_38 : Cond.fieldLink RX5 38 "ColophonHuntModel" "thrown" "I" ∈ wsX5_wrong := by decide +kernel
theorem hd_X5_wrong : yX5_wrong.cls = RX5 ∧ yX5_wrong.cls ≠ "java/lang/invoke/MethodHandle" ∧ yX5_wrong.cls ≠ "java/lang/invoke/VarHandle" ∧ (parseMethodDescriptor yX5_wrong.desc).map (fun d => d.parameters.length) = some 1 := by decide +kernel
set_option maxRecDepth 100000 in
set_option maxHeartbeats 4000000 in
theorem c_X5_wrong (l : Launch) (D : va_G) (cI cS cL : ClassId) (a0 : Nat) (a1 : Nat) (a2 : Nat) (a3 : Nat) (b0_1 : Nat) (b0_2 : Nat) (b0_4 : Nat) (b0_10 : Nat) (b0_14 : Nat) (p1 : Int32) (x0_kept : Int32) (x0_typed : Int32) (x0_thrown : Int32) (x0_at : Int32) (x0_isFault : Int32) (x0_value : Int32) (x0_tolds : Int32) (f1 : Nat → Int32) (f2 : Nat → Int32) (f3 : Nat → Int32) (rr : Int32) (y0 : Int32) (y1 : Nat → Int32) (y2 : Nat → Int32) (hc : f_X5_wrong p1 x0_thrown f1 f2 f3 = some (rr, y0, y1, y2)) : KM l yX5_wrong wsX5_wrong { frames := 5, cells := 0, slots := 0, locals := 117 } D (tyS cI cS cL) [.ref a0, .int p1] [(a0, .inr (5, [.ref a1, .ref b0_1, .ref b0_2, .int x0_kept, .ref b0_4, .int x0_typed, .int x0_thrown, .int x0_at, .int x0_isFault, .int x0_value, .ref b0_10, .int x0_tolds, .ref a2, .ref a3, .ref b0_14])), (a1, .inl (cI, 41, .inl f1)), (a2, .inl (cI, 10, .inl f2)), (a3, .inl (cI, 1024, .inl f3))] (some (.int rr)) (fun w => w = [(a0, .inr (5, [.ref a1, .ref b0_1, .ref b0_2, .int x0_kept, .ref b0_4, .int x0_typed, .int y0, .int x0_at, .int x0_isFault, .int x0_value, .ref b0_10, .int x0_tolds, .ref a2, .ref a3, .ref b0_14])), (a1, .inl (cI, 41, .inl f1)), (a2, .inl (cI, 10, .inl y1)), (a3, .inl (cI, 1024, .inl y2))]) 0 0 := by
  refine g_entry (cc := cX5_wrong) (nL := 3) (rt := (some .int)) (by decide) rfl (Nat.le_of_ble_eq_true rfl) ?_
  intro p e s m args below meth c A (X : GC p s m args c cX5_wrong 3 RX5 wsX5_wrong D (tyS cI cS cL) A) hr hlk _ _
  have h := hc
  unfold f_X5_wrong at h
  refine g_lv (lv' := [(0, .ref a0), (1, .int p1)]) [0, 1] rfl ?_
  refine g_aload_n X (j := 0) dX5_wrong_0 rfl ?_
  refine g_iconst (v := 0) X dX5_wrong_1 (by decide) ?_
  refine g_put (q0 := 0) (k := 6) (ci := 5) (ws' := [(a0, .inr (5, [.ref a1, .ref b0_1, .ref b0_2, .int x0_kept, .ref b0_4, .int x0_typed, .int 0, .int x0_at, .int x0_isFault, .int x0_value, .ref b0_10, .int x0_tolds, .ref a2, .ref a3, .ref b0_14])), (a1, .inl (cI, 41, .inl f1)), (a2, .inl (cI, 10, .inl f2)), (a3, .inl (cI, 1024, .inl f3))]) X tyX5_ok nmX5 in_X5_wrong_X5 fl_X5_wrong_38 rfl rfl (Nat.le_of_ble_eq_true rfl) rfl rfl rfl (Nat.le_of_ble_eq_true rfl) dX5_wrong_2 rfl ?_
  refine g_iload_n X (j := 1) dX5_wrong_5 rfl ?_
  refine g_iconst (v := 0) X dX5_wrong_6 (by decide) ?_
  refine g_iconst (v := 1) X dX5_wrong_7 (by decide) ?_
  obtain ⟨r1, hc, h⟩ := bd1 h
  refine g_callS (is := []) (As := [.int p1, .int 0, .int 1]) (ws' := [(a0, .inr (5, [.ref a1, .ref b0_1, .ref b0_2, .int x0_kept, .ref b0_4, .int x0_typed, .int 0, .int x0_at, .int x0_isFault, .int x0_value, .ref b0_10, .int x0_tolds, .ref a2, .ref a3, .ref b0_14])), (a1, .inl (cI, 41, .inl f1)), (a2, .inl (cI, 10, .inl f2)), (a3, .inl (cI, 1024, .inl f3))]) (st := []) X (c_X5_in l D cI cS cL p1 0 1 r1 hc) gX5_wrong_X5_in rfl ⟨rfl, rfl⟩ hd_X5_in.2 ⟨Nat.le_of_ble_eq_true rfl, Nat.le_of_ble_eq_true rfl⟩ ⟨Nat.zero_le _, Nat.zero_le _⟩ rfl rfl rfl rfl rfl (Nat.le_of_ble_eq_true rfl) rfl dX5_wrong_8 ?_
  refine g_if_ne (tgt := 20) X h dX5_wrong_11 (by decide) (fun h => ?_) (fun h => ?_)
  · refine g_aload_n X (j := 0) dX5_wrong_20 rfl ?_
    obtain ⟨r2, o3, o4, hc, h⟩ := bd3 h
    refine g_callV (q0 := 0) (ci := 5) (is := [0, 1, 2, 3]) (As := []) (ws' := [(a0, .inr (5, [.ref a1, .ref b0_1, .ref b0_2, .int x0_kept, .ref b0_4, .int x0_typed, .int 0, .int x0_at, .int x0_isFault, .int x0_value, .ref b0_10, .int x0_tolds, .ref a2, .ref a3, .ref b0_14])), (a1, .inl (cI, 41, .inl f1)), (a2, .inl (cI, 10, .inl o3)), (a3, .inl (cI, 1024, .inl o4))]) (st := []) X (c_X5_leftOut l D cI cS cL a0 a1 a2 a3 b0_1 b0_2 b0_4 b0_10 b0_14 x0_kept x0_typed 0 x0_at x0_isFault x0_value x0_tolds f1 f2 f3 r2 o3 o4 hc) gX5_wrong_X5_leftOut rfl ⟨rfl, rfl⟩ hd_X5_leftOut ⟨Nat.le_of_ble_eq_true rfl, Nat.le_of_ble_eq_true rfl⟩ ⟨Nat.zero_le _, Nat.zero_le _⟩ rfl rfl rfl rfl rfl rfl rfl (Nat.le_of_ble_eq_true rfl) rfl dX5_wrong_21 ?_
    refine g_istore_n (lv' := [(2, .int r2), (0, .ref a0), (1, .int p1)]) X dX5_wrong_24 rfl (by decide) rfl ?_
    refine g_iload_n X (j := 2) dX5_wrong_25 rfl ?_
    refine jn_g h (u1 fun s5 => [(a0, .inr (5, [.ref a1, .ref b0_1, .ref b0_2, .int x0_kept, .ref b0_4, .int x0_typed, .int 0, .int x0_at, .int x0_isFault, .int x0_value, .ref b0_10, .int x0_tolds, .ref a2, .ref a3, .ref b0_14])), (a1, .inl (cI, 41, .inl f1)), (a2, .inl (cI, 10, .inl o3)), (a3, .inl (cI, 1024, .inl o4))]) (u1 fun s5 => []) (u1 fun s5 => [.int s5]) 37 ?_ ?_
    · rintro s5 h
      dsimp only [u1] at h ⊢
      have h := Option.some.inj h
      simp only [Prod.mk.injEq] at h
      obtain ⟨rfl, rfl, rfl, rfl⟩ := h
      exact g_iret X hr hlk dX5_wrong_37 rfl rfl
    · intro K6 hK6 h
      refine g_if_ne (tgt := 36) X h dX5_wrong_26 (by decide) (fun h => ?_) (fun h => ?_)
      · refine g_iload_n X (j := 0) dX5_wrong_36 rfl ?_
        refine g_lv (lv' := []) [] rfl ?_
        exact hK6 r2 h
      · refine g_iload_n X (j := 0) dX5_wrong_29 rfl ?_
        obtain ⟨r7, hc, h⟩ := bd1 h
        refine g_callS (is := []) (As := [.int r2]) (ws' := [(a0, .inr (5, [.ref a1, .ref b0_1, .ref b0_2, .int x0_kept, .ref b0_4, .int x0_typed, .int 0, .int x0_at, .int x0_isFault, .int x0_value, .ref b0_10, .int x0_tolds, .ref a2, .ref a3, .ref b0_14])), (a1, .inl (cI, 41, .inl f1)), (a2, .inl (cI, 10, .inl o3)), (a3, .inl (cI, 1024, .inl o4))]) (st := []) X (c_X5_ones l D cI cS cL r2 r7 hc) gX5_wrong_X5_ones rfl ⟨rfl, rfl⟩ hd_X5_ones.2 ⟨Nat.le_of_ble_eq_true rfl, Nat.le_of_ble_eq_true rfl⟩ ⟨Nat.zero_le _, Nat.zero_le _⟩ rfl rfl rfl rfl rfl (Nat.le_of_ble_eq_true rfl) rfl dX5_wrong_30 ?_
        refine g_goto (tgt := 37) X dX5_wrong_33 (by decide) ?_
        refine g_lv (lv' := []) [] rfl ?_
        exact hK6 r7 h
  · refine g_aload_n X (j := 0) dX5_wrong_14 rfl ?_
    refine g_iconst (v := 1) X dX5_wrong_15 (by decide) ?_
    obtain ⟨r8, o9, hc, h⟩ := bd2 h
    refine g_callV (q0 := 0) (ci := 5) (is := [0]) (As := [.int 1]) (ws' := [(a0, .inr (5, [.ref a1, .ref b0_1, .ref b0_2, .int x0_kept, .ref b0_4, .int x0_typed, .int o9, .int x0_at, .int x0_isFault, .int x0_value, .ref b0_10, .int x0_tolds, .ref a2, .ref a3, .ref b0_14])), (a1, .inl (cI, 41, .inl f1)), (a2, .inl (cI, 10, .inl f2)), (a3, .inl (cI, 1024, .inl f3))]) (st := []) X (c_X5_fails l D cI cS cL a0 a1 b0_1 b0_2 b0_4 b0_10 a2 a3 b0_14 1 x0_kept x0_typed 0 x0_at x0_isFault x0_value x0_tolds r8 o9 hc) gX5_wrong_X5_fails rfl ⟨rfl, rfl⟩ hd_X5_fails ⟨Nat.le_of_ble_eq_true rfl, Nat.le_of_ble_eq_true rfl⟩ ⟨Nat.zero_le _, Nat.zero_le _⟩ rfl rfl rfl rfl rfl rfl rfl (Nat.le_of_ble_eq_true rfl) rfl dX5_wrong_16 ?_
    have h := Option.some.inj h
    simp only [Prod.mk.injEq] at h
    obtain ⟨rfl, rfl, rfl, rfl⟩ := h
    exact g_iret X hr hlk dX5_wrong_19 rfl rfl
