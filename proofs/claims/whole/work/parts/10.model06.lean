set_option maxRecDepth 20000 in
theorem ggX5_firstError_X5_isText : GoodIn wsX5_firstError wsX5_isText := goodIn_r _ [9, 3, 10, 2, 4, 11, 12, 13, 8, 14, 15, 16, 17, 18, 19, 20, 21, 22, 23, 24, 25, 26, 27, 28, 29, 30, 31, 32, 33, 34, 35, 36, 37, 38, 39, 40, 41, 42, 43, 44, 45, 46, 47, 48, 49, 50, 51, 52, 53, 54, 55] (by decide +kernel) (by decide +kernel)
set_option maxRecDepth 20000 in
theorem gX5_firstError_X5_isText : GoodIn wsX5_firstError (wsV RX5 140 RX5 yX5_isText wsX5_isText) := goodIn_app (goodIn_of _ (by decide +kernel)) ggX5_firstError_X5_isText
theorem dX5_firstError_0 : decode cX5_firstError 0 = .ok (.aload_n 0, 1) := by decide +kernel
theorem dX5_firstError_1 : decode cX5_firstError 1 = .ok (.iconst 0, 1) := by decide +kernel
theorem dX5_firstError_2 : decode cX5_firstError 2 = .ok (.putfield 38, 3) := by decide +kernel
theorem dX5_firstError_5 : decode cX5_firstError 5 = .ok (.aload_n 0, 1) := by decide +kernel
theorem dX5_firstError_6 : decode cX5_firstError 6 = .ok (.invokevirtual 140, 3) := by decide +kernel
theorem dX5_firstError_9 : decode cX5_firstError 9 = .ok (.istore_n 1, 1) := by decide +kernel
theorem dX5_firstError_10 : decode cX5_firstError 10 = .ok (.iload_n 1, 1) := by decide +kernel
theorem dX5_firstError_11 : decode cX5_firstError 11 = .ok (.ifCond .ne 17, 3) := by decide +kernel
theorem dX5_firstError_14 : decode cX5_firstError 14 = .ok (.aload_n 0, 1) := by decide +kernel
theorem dX5_firstError_15 : decode cX5_firstError 15 = .ok (.getfield 111, 3) := by decide +kernel
theorem dX5_firstError_18 : decode cX5_firstError 18 = .ok (.ifCond .eq 10, 3) := by decide +kernel
theorem dX5_firstError_21 : decode cX5_firstError 21 = .ok (.aload_n 0, 1) := by decide +kernel
theorem dX5_firstError_22 : decode cX5_firstError 22 = .ok (.getfield 108, 3) := by decide +kernel
theorem dX5_firstError_25 : decode cX5_firstError 25 = .ok (.goto 7, 3) := by decide +kernel
theorem dX5_firstError_28 : decode cX5_firstError 28 = .ok (.aload_n 0, 1) := by decide +kernel
theorem dX5_firstError_29 : decode cX5_firstError 29 = .ok (.getfield 105, 3) := by decide +kernel
theorem dX5_firstError_32 : decode cX5_firstError 32 = .ok (.ireturn, 1) := by decide +kernel
set_option maxRecDepth 20000 in
theorem ggX5_books_X5_isText : GoodIn wsX5_books wsX5_isText := goodIn_r _ [10, 11, 3, 12, 4, 13, 14, 15, 9, 16, 5, 17, 18, 19, 20, 21, 22, 23, 24, 25, 26, 27, 28, 29, 30, 31, 32, 33, 34, 35, 36, 37, 38, 39, 40, 41, 59, 60, 61, 62, 63, 64, 65, 66, 67, 68, 69, 70, 71, 72, 73] (by decide +kernel) (by decide +kernel)
set_option maxRecDepth 20000 in
theorem gX5_books_X5_isText : GoodIn wsX5_books (wsV RX5 140 RX5 yX5_isText wsX5_isText) := goodIn_app (goodIn_of _ (by decide +kernel)) ggX5_books_X5_isText
set_option maxRecDepth 20000 in
theorem ggX5_books_X5_fails : GoodIn wsX5_books wsX5_fails := goodIn_r _ [45, 1, 59, 60, 61, 62, 63, 64, 65, 66, 67, 68, 69, 70, 71, 72, 73] (by decide +kernel) (by decide +kernel)
set_option maxRecDepth 20000 in
theorem gX5_books_X5_fails : GoodIn wsX5_books (wsV RX5 49 RX5 yX5_fails wsX5_fails) := goodIn_app (goodIn_of _ (by decide +kernel)) ggX5_books_X5_fails
set_option maxRecDepth 20000 in
theorem ggX5_books_X5_saves : GoodIn wsX5_books wsX5_saves := goodIn_r _ [49, 50, 51, 2, 52, 53, 9, 54, 59, 60, 61, 62, 63, 64, 65, 66, 67, 68, 69, 70, 71, 72, 73] (by decide +kernel) (by decide +kernel)
set_option maxRecDepth 20000 in
theorem gX5_books_X5_saves : GoodIn wsX5_books (wsV RX5 88 RX5 yX5_saves wsX5_saves) := goodIn_app (goodIn_of _ (by decide +kernel)) ggX5_books_X5_saves
set_option maxRecDepth 20000 in
theorem ggX5_books_X5_comes : GoodIn wsX5_books wsX5_comes := goodIn_r _ [58, 2, 59, 60, 61, 62, 63, 64, 65, 66, 67, 68, 69, 70, 71, 72, 73] (by decide +kernel) (by decide +kernel)
set_option maxRecDepth 20000 in
theorem gX5_books_X5_comes : GoodIn wsX5_books (wsV RX5 91 RX5 yX5_comes wsX5_comes) := goodIn_app (goodIn_of _ (by decide +kernel)) ggX5_books_X5_comes
theorem dX5_books_0 : decode cX5_books 0 = .ok (.aload_n 0, 1) := by decide +kernel
theorem dX5_books_1 : decode cX5_books 1 = .ok (.iconst 0, 1) := by decide +kernel
theorem dX5_books_2 : decode cX5_books 2 = .ok (.putfield 38, 3) := by decide +kernel
theorem dX5_books_5 : decode cX5_books 5 = .ok (.aload_n 0, 1) := by decide +kernel
theorem dX5_books_6 : decode cX5_books 6 = .ok (.invokevirtual 140, 3) := by decide +kernel
theorem dX5_books_9 : decode cX5_books 9 = .ok (.ifCond .ne 9, 3) := by decide +kernel
theorem dX5_books_12 : decode cX5_books 12 = .ok (.aload_n 0, 1) := by decide +kernel
theorem dX5_books_13 : decode cX5_books 13 = .ok (.iconst 1, 1) := by decide +kernel
theorem dX5_books_14 : decode cX5_books 14 = .ok (.invokevirtual 49, 3) := by decide +kernel
theorem dX5_books_17 : decode cX5_books 17 = .ok (.ireturn, 1) := by decide +kernel
theorem dX5_books_18 : decode cX5_books 18 = .ok (.aload_n 0, 1) := by decide +kernel
theorem dX5_books_19 : decode cX5_books 19 = .ok (.getfield 7, 3) := by decide +kernel
theorem dX5_books_22 : decode cX5_books 22 = .ok (.bipush 40, 2) := by decide +kernel
theorem dX5_books_24 : decode cX5_books 24 = .ok (.iaload, 1) := by decide +kernel
theorem dX5_books_25 : decode cX5_books 25 = .ok (.aload_n 0, 1) := by decide +kernel
theorem dX5_books_26 : decode cX5_books 26 = .ok (.getfield 125, 3) := by decide +kernel
theorem dX5_books_29 : decode cX5_books 29 = .ok (.iadd, 1) := by decide +kernel
theorem dX5_books_30 : decode cX5_books 30 = .ok (.bipush 10, 2) := by decide +kernel
theorem dX5_books_32 : decode cX5_books 32 = .ok (.if_icmp .le 9, 3) := by decide +kernel
theorem dX5_books_35 : decode cX5_books 35 = .ok (.aload_n 0, 1) := by decide +kernel
theorem dX5_books_36 : decode cX5_books 36 = .ok (.iconst 2, 1) := by decide +kernel
theorem dX5_books_37 : decode cX5_books 37 = .ok (.invokevirtual 49, 3) := by decide +kernel
theorem dX5_books_40 : decode cX5_books 40 = .ok (.ireturn, 1) := by decide +kernel
theorem dX5_books_41 : decode cX5_books 41 = .ok (.aload_n 0, 1) := by decide +kernel
theorem dX5_books_42 : decode cX5_books 42 = .ok (.invokevirtual 88, 3) := by decide +kernel
theorem dX5_books_45 : decode cX5_books 45 = .ok (.aload_n 0, 1) := by decide +kernel
theorem dX5_books_46 : decode cX5_books 46 = .ok (.iconst 0, 1) := by decide +kernel
theorem dX5_books_47 : decode cX5_books 47 = .ok (.putfield 105, 3) := by decide +kernel
theorem dX5_books_50 : decode cX5_books 50 = .ok (.iconst 0, 1) := by decide +kernel
theorem dX5_books_51 : decode cX5_books 51 = .ok (.istore_n 1, 1) := by decide +kernel
theorem dX5_books_52 : decode cX5_books 52 = .ok (.iload_n 1, 1) := by decide +kernel
theorem dX5_books_53 : decode cX5_books 53 = .ok (.aload_n 0, 1) := by decide +kernel
theorem dX5_books_54 : decode cX5_books 54 = .ok (.getfield 125, 3) := by decide +kernel
theorem dX5_books_57 : decode cX5_books 57 = .ok (.if_icmp .ge 52, 3) := by decide +kernel
theorem dX5_books_60 : decode cX5_books 60 = .ok (.aload_n 0, 1) := by decide +kernel
theorem dX5_books_61 : decode cX5_books 61 = .ok (.aload_n 0, 1) := by decide +kernel
theorem dX5_books_62 : decode cX5_books 62 = .ok (.getfield 22, 3) := by decide +kernel
theorem dX5_books_65 : decode cX5_books 65 = .ok (.iconst 4, 1) := by decide +kernel
theorem dX5_books_66 : decode cX5_books 66 = .ok (.iload_n 1, 1) := by decide +kernel
theorem dX5_books_67 : decode cX5_books 67 = .ok (.imul, 1) := by decide +kernel
theorem dX5_books_68 : decode cX5_books 68 = .ok (.iaload, 1) := by decide +kernel
theorem dX5_books_69 : decode cX5_books 69 = .ok (.aload_n 0, 1) := by decide +kernel
theorem dX5_books_70 : decode cX5_books 70 = .ok (.getfield 22, 3) := by decide +kernel
theorem dX5_books_73 : decode cX5_books 73 = .ok (.iconst 4, 1) := by decide +kernel
theorem dX5_books_74 : decode cX5_books 74 = .ok (.iload_n 1, 1) := by decide +kernel
theorem dX5_books_75 : decode cX5_books 75 = .ok (.imul, 1) := by decide +kernel
theorem dX5_books_76 : decode cX5_books 76 = .ok (.iconst 1, 1) := by decide +kernel
theorem dX5_books_77 : decode cX5_books 77 = .ok (.iadd, 1) := by decide +kernel
theorem dX5_books_78 : decode cX5_books 78 = .ok (.iaload, 1) := by decide +kernel
theorem dX5_books_79 : decode cX5_books 79 = .ok (.aload_n 0, 1) := by decide +kernel
theorem dX5_books_80 : decode cX5_books 80 = .ok (.getfield 22, 3) := by decide +kernel
theorem dX5_books_83 : decode cX5_books 83 = .ok (.iconst 4, 1) := by decide +kernel
theorem dX5_books_84 : decode cX5_books 84 = .ok (.iload_n 1, 1) := by decide +kernel
theorem dX5_books_85 : decode cX5_books 85 = .ok (.imul, 1) := by decide +kernel
theorem dX5_books_86 : decode cX5_books 86 = .ok (.iconst 2, 1) := by decide +kernel
theorem dX5_books_87 : decode cX5_books 87 = .ok (.iadd, 1) := by decide +kernel
theorem dX5_books_88 : decode cX5_books 88 = .ok (.iaload, 1) := by decide +kernel
theorem dX5_books_89 : decode cX5_books 89 = .ok (.aload_n 0, 1) := by decide +kernel
theorem dX5_books_90 : decode cX5_books 90 = .ok (.getfield 22, 3) := by decide +kernel
theorem dX5_books_93 : decode cX5_books 93 = .ok (.iconst 4, 1) := by decide +kernel
theorem dX5_books_94 : decode cX5_books 94 = .ok (.iload_n 1, 1) := by decide +kernel
theorem dX5_books_95 : decode cX5_books 95 = .ok (.imul, 1) := by decide +kernel
theorem dX5_books_96 : decode cX5_books 96 = .ok (.iconst 3, 1) := by decide +kernel
theorem dX5_books_97 : decode cX5_books 97 = .ok (.iadd, 1) := by decide +kernel
theorem dX5_books_98 : decode cX5_books 98 = .ok (.iaload, 1) := by decide +kernel
theorem dX5_books_99 : decode cX5_books 99 = .ok (.invokevirtual 91, 3) := by decide +kernel
theorem dX5_books_102 : decode cX5_books 102 = .ok (.pop, 1) := by decide +kernel
theorem dX5_books_103 : decode cX5_books 103 = .ok (.iinc 1 1, 3) := by decide +kernel
theorem dX5_books_106 : decode cX5_books 106 = .ok (.goto (-54), 3) := by decide +kernel
theorem dX5_books_109 : decode cX5_books 109 = .ok (.aload_n 0, 1) := by decide +kernel
theorem dX5_books_110 : decode cX5_books 110 = .ok (.getfield 7, 3) := by decide +kernel
theorem dX5_books_113 : decode cX5_books 113 = .ok (.bipush 40, 2) := by decide +kernel
theorem dX5_books_115 : decode cX5_books 115 = .ok (.iaload, 1) := by decide +kernel
theorem dX5_books_116 : decode cX5_books 116 = .ok (.ireturn, 1) := by decide +kernel
set_option maxRecDepth 20000 in
theorem ggX5_others_X5_by : GoodIn wsX5_others wsX5_by := goodIn_r _ [5, 6, 7, 4, 8, 9, 10, 11] (by decide +kernel) (by decide +kernel)
set_option maxRecDepth 20000 in
theorem gX5_others_X5_by : GoodIn wsX5_others (va_wsS RX5 61 yX5_by wsX5_by) := goodIn_app (goodIn_of _ (by decide +kernel)) ggX5_others_X5_by
theorem dX5_others_0 : decode cX5_others 0 = .ok (.iconst 0, 1) := by decide +kernel
theorem dX5_others_1 : decode cX5_others 1 = .ok (.istore_n 3, 1) := by decide +kernel
theorem dX5_others_2 : decode cX5_others 2 = .ok (.iconst 0, 1) := by decide +kernel
theorem dX5_others_3 : decode cX5_others 3 = .ok (.istore 4, 2) := by decide +kernel
theorem dX5_others_5 : decode cX5_others 5 = .ok (.iload 4, 2) := by decide +kernel
theorem dX5_others_7 : decode cX5_others 7 = .ok (.aload_n 0, 1) := by decide +kernel
theorem dX5_others_8 : decode cX5_others 8 = .ok (.getfield 7, 3) := by decide +kernel
theorem dX5_others_11 : decode cX5_others 11 = .ok (.bipush 40, 2) := by decide +kernel
theorem dX5_others_13 : decode cX5_others 13 = .ok (.iaload, 1) := by decide +kernel
theorem dX5_others_14 : decode cX5_others 14 = .ok (.if_icmp .ge 107, 3) := by decide +kernel
theorem dX5_others_17 : decode cX5_others 17 = .ok (.iload 4, 2) := by decide +kernel
theorem dX5_others_19 : decode cX5_others 19 = .ok (.iload_n 1, 1) := by decide +kernel
theorem dX5_others_20 : decode cX5_others 20 = .ok (.if_icmp .eq 20, 3) := by decide +kernel
theorem dX5_others_23 : decode cX5_others 23 = .ok (.aload_n 0, 1) := by decide +kernel
theorem dX5_others_24 : decode cX5_others 24 = .ok (.getfield 7, 3) := by decide +kernel
theorem dX5_others_27 : decode cX5_others 27 = .ok (.iload 4, 2) := by decide +kernel
theorem dX5_others_29 : decode cX5_others 29 = .ok (.iload_n 1, 1) := by decide +kernel
theorem dX5_others_30 : decode cX5_others 30 = .ok (.invokestatic 61, 3) := by decide +kernel
theorem dX5_others_33 : decode cX5_others 33 = .ok (.ifCond .eq 7, 3) := by decide +kernel
theorem dX5_others_36 : decode cX5_others 36 = .ok (.iconst 1, 1) := by decide +kernel
theorem dX5_others_37 : decode cX5_others 37 = .ok (.goto 4, 3) := by decide +kernel
theorem dX5_others_40 : decode cX5_others 40 = .ok (.iconst 0, 1) := by decide +kernel
theorem dX5_others_41 : decode cX5_others 41 = .ok (.istore 5, 2) := by decide +kernel
theorem dX5_others_43 : decode cX5_others 43 = .ok (.iload 4, 2) := by decide +kernel
theorem dX5_others_45 : decode cX5_others 45 = .ok (.iload_n 1, 1) := by decide +kernel
theorem dX5_others_46 : decode cX5_others 46 = .ok (.if_icmp .eq 20, 3) := by decide +kernel
theorem dX5_others_49 : decode cX5_others 49 = .ok (.aload_n 0, 1) := by decide +kernel
theorem dX5_others_50 : decode cX5_others 50 = .ok (.getfield 7, 3) := by decide +kernel
theorem dX5_others_53 : decode cX5_others 53 = .ok (.iload_n 1, 1) := by decide +kernel
theorem dX5_others_54 : decode cX5_others 54 = .ok (.iload 4, 2) := by decide +kernel
theorem dX5_others_56 : decode cX5_others 56 = .ok (.invokestatic 61, 3) := by decide +kernel
theorem dX5_others_59 : decode cX5_others 59 = .ok (.ifCond .eq 7, 3) := by decide +kernel
theorem dX5_others_62 : decode cX5_others 62 = .ok (.iconst 1, 1) := by decide +kernel
theorem dX5_others_63 : decode cX5_others 63 = .ok (.goto 4, 3) := by decide +kernel
theorem dX5_others_66 : decode cX5_others 66 = .ok (.iconst 0, 1) := by decide +kernel
theorem dX5_others_67 : decode cX5_others 67 = .ok (.istore 6, 2) := by decide +kernel
theorem dX5_others_69 : decode cX5_others 69 = .ok (.iload_n 3, 1) := by decide +kernel
theorem dX5_others_70 : decode cX5_others 70 = .ok (.iload_n 2, 1) := by decide +kernel
theorem dX5_others_71 : decode cX5_others 71 = .ok (.bipush 8, 2) := by decide +kernel
theorem dX5_others_73 : decode cX5_others 73 = .ok (.if_icmp .ne 8, 3) := by decide +kernel
theorem dX5_others_76 : decode cX5_others 76 = .ok (.iload 5, 2) := by decide +kernel
theorem dX5_others_78 : decode cX5_others 78 = .ok (.ifCond .ne 30, 3) := by decide +kernel
theorem dX5_others_81 : decode cX5_others 81 = .ok (.iload_n 2, 1) := by decide +kernel
theorem dX5_others_82 : decode cX5_others 82 = .ok (.bipush 9, 2) := by decide +kernel
theorem dX5_others_84 : decode cX5_others 84 = .ok (.if_icmp .ne 8, 3) := by decide +kernel
theorem dX5_others_87 : decode cX5_others 87 = .ok (.iload 6, 2) := by decide +kernel
theorem dX5_others_89 : decode cX5_others 89 = .ok (.ifCond .ne 19, 3) := by decide +kernel
theorem dX5_others_92 : decode cX5_others 92 = .ok (.iload_n 2, 1) := by decide +kernel
theorem dX5_others_93 : decode cX5_others 93 = .ok (.bipush 10, 2) := by decide +kernel
theorem dX5_others_95 : decode cX5_others 95 = .ok (.if_icmp .ne 17, 3) := by decide +kernel
theorem dX5_others_98 : decode cX5_others 98 = .ok (.iload 5, 2) := by decide +kernel
theorem dX5_others_100 : decode cX5_others 100 = .ok (.ifCond .eq 12, 3) := by decide +kernel
theorem dX5_others_103 : decode cX5_others 103 = .ok (.iload 6, 2) := by decide +kernel
theorem dX5_others_105 : decode cX5_others 105 = .ok (.ifCond .eq 7, 3) := by decide +kernel
theorem dX5_others_108 : decode cX5_others 108 = .ok (.iconst 1, 1) := by decide +kernel
theorem dX5_others_109 : decode cX5_others 109 = .ok (.goto 4, 3) := by decide +kernel
theorem dX5_others_112 : decode cX5_others 112 = .ok (.iconst 0, 1) := by decide +kernel
theorem dX5_others_113 : decode cX5_others 113 = .ok (.iadd, 1) := by decide +kernel
theorem dX5_others_114 : decode cX5_others 114 = .ok (.istore_n 3, 1) := by decide +kernel
theorem dX5_others_115 : decode cX5_others 115 = .ok (.iinc 4 1, 3) := by decide +kernel
theorem dX5_others_118 : decode cX5_others 118 = .ok (.goto (-113), 3) := by decide +kernel
theorem dX5_others_121 : decode cX5_others 121 = .ok (.iload_n 3, 1) := by decide +kernel
theorem dX5_others_122 : decode cX5_others 122 = .ok (.ireturn, 1) := by decide +kernel
set_option maxRecDepth 20000 in
theorem ggX5_ofBook_X5_others : GoodIn wsX5_ofBook wsX5_others := goodIn_r _ [7, 1, 8, 9, 6, 10, 11, 12, 13, 14, 15, 16, 33, 34, 35, 36, 37, 38, 39, 40, 41, 42, 43, 44, 45, 46, 47] (by decide +kernel) (by decide +kernel)
set_option maxRecDepth 20000 in
theorem gX5_ofBook_X5_others : GoodIn wsX5_ofBook (wsV RX5 143 RX5 yX5_others wsX5_others) := goodIn_app (goodIn_of _ (by decide +kernel)) ggX5_ofBook_X5_others
set_option maxRecDepth 20000 in
theorem ggX5_ofBook_X5_of : GoodIn wsX5_ofBook wsX5_of := goodIn_r _ [13] (by decide +kernel) (by decide +kernel)
set_option maxRecDepth 20000 in
theorem gX5_ofBook_X5_of : GoodIn wsX5_ofBook (va_wsS RX5 53 yX5_of wsX5_of) := goodIn_app (goodIn_of _ (by decide +kernel)) ggX5_ofBook_X5_of
set_option maxRecDepth 20000 in
theorem ggX5_ofBook_X5_ones : GoodIn wsX5_ofBook wsX5_ones := goodIn_r _ [19] (by decide +kernel) (by decide +kernel)
set_option maxRecDepth 20000 in
theorem gX5_ofBook_X5_ones : GoodIn wsX5_ofBook (va_wsS RX5 146 yX5_ones wsX5_ones) := goodIn_app (goodIn_of _ (by decide +kernel)) ggX5_ofBook_X5_ones
set_option maxRecDepth 20000 in
theorem ggX5_ofBook_X5_dates : GoodIn wsX5_ofBook wsX5_dates := goodIn_r _ [23, 2, 24, 25, 26, 27, 6, 28, 8, 9, 10, 11, 12, 13, 14, 15, 16, 33, 34, 35, 36, 37, 38, 39, 40, 41, 42, 43, 44, 45, 46, 47] (by decide +kernel) (by decide +kernel)
set_option maxRecDepth 20000 in
theorem gX5_ofBook_X5_dates : GoodIn wsX5_ofBook (wsV RX5 75 RX5 yX5_dates wsX5_dates) := goodIn_app (goodIn_of _ (by decide +kernel)) ggX5_ofBook_X5_dates
set_option maxRecDepth 20000 in
theorem ggX5_ofBook_X5_isDated : GoodIn wsX5_ofBook wsX5_isDated := goodIn_r _ [32, 2, 33, 34, 35, 36, 37, 38, 39, 40, 41, 42, 43, 44, 45, 46, 47] (by decide +kernel) (by decide +kernel)
set_option maxRecDepth 20000 in
theorem gX5_ofBook_X5_isDated : GoodIn wsX5_ofBook (wsV RX5 78 RX5 yX5_isDated wsX5_isDated) := goodIn_app (goodIn_of _ (by decide +kernel)) ggX5_ofBook_X5_isDated
theorem dX5_ofBook_0 : decode cX5_ofBook 0 = .ok (.iload_n 2, 1) := by decide +kernel
theorem dX5_ofBook_1 : decode cX5_ofBook 1 = .ok (.bipush 7, 2) := by decide +kernel
theorem dX5_ofBook_3 : decode cX5_ofBook 3 = .ok (.if_icmp .le 10, 3) := by decide +kernel
theorem dX5_ofBook_6 : decode cX5_ofBook 6 = .ok (.aload_n 0, 1) := by decide +kernel
theorem dX5_ofBook_7 : decode cX5_ofBook 7 = .ok (.iload_n 1, 1) := by decide +kernel
theorem dX5_ofBook_8 : decode cX5_ofBook 8 = .ok (.iload_n 2, 1) := by decide +kernel
theorem dX5_ofBook_9 : decode cX5_ofBook 9 = .ok (.invokevirtual 143, 3) := by decide +kernel
theorem dX5_ofBook_12 : decode cX5_ofBook 12 = .ok (.ireturn, 1) := by decide +kernel
theorem dX5_ofBook_13 : decode cX5_ofBook 13 = .ok (.iload_n 2, 1) := by decide +kernel
theorem dX5_ofBook_14 : decode cX5_ofBook 14 = .ok (.iconst 5, 1) := by decide +kernel
theorem dX5_ofBook_15 : decode cX5_ofBook 15 = .ok (.if_icmp .ge 33, 3) := by decide +kernel
theorem dX5_ofBook_18 : decode cX5_ofBook 18 = .ok (.iload_n 2, 1) := by decide +kernel
theorem dX5_ofBook_19 : decode cX5_ofBook 19 = .ok (.iconst 4, 1) := by decide +kernel
theorem dX5_ofBook_20 : decode cX5_ofBook 20 = .ok (.if_icmp .ne 18, 3) := by decide +kernel
theorem dX5_ofBook_23 : decode cX5_ofBook 23 = .ok (.aload_n 0, 1) := by decide +kernel
theorem dX5_ofBook_24 : decode cX5_ofBook 24 = .ok (.getfield 7, 3) := by decide +kernel
theorem dX5_ofBook_27 : decode cX5_ofBook 27 = .ok (.iload_n 1, 1) := by decide +kernel
theorem dX5_ofBook_28 : decode cX5_ofBook 28 = .ok (.iconst 1, 1) := by decide +kernel
theorem dX5_ofBook_29 : decode cX5_ofBook 29 = .ok (.invokestatic 53, 3) := by decide +kernel
theorem dX5_ofBook_32 : decode cX5_ofBook 32 = .ok (.invokestatic 146, 3) := by decide +kernel
theorem dX5_ofBook_35 : decode cX5_ofBook 35 = .ok (.goto 12, 3) := by decide +kernel
theorem dX5_ofBook_38 : decode cX5_ofBook 38 = .ok (.aload_n 0, 1) := by decide +kernel
theorem dX5_ofBook_39 : decode cX5_ofBook 39 = .ok (.getfield 7, 3) := by decide +kernel
theorem dX5_ofBook_42 : decode cX5_ofBook 42 = .ok (.iload_n 1, 1) := by decide +kernel
theorem dX5_ofBook_43 : decode cX5_ofBook 43 = .ok (.iload_n 2, 1) := by decide +kernel
theorem dX5_ofBook_44 : decode cX5_ofBook 44 = .ok (.invokestatic 53, 3) := by decide +kernel
theorem dX5_ofBook_47 : decode cX5_ofBook 47 = .ok (.ireturn, 1) := by decide +kernel
theorem dX5_ofBook_48 : decode cX5_ofBook 48 = .ok (.aload_n 0, 1) := by decide +kernel
theorem dX5_ofBook_49 : decode cX5_ofBook 49 = .ok (.aload_n 0, 1) := by decide +kernel
theorem dX5_ofBook_50 : decode cX5_ofBook 50 = .ok (.getfield 7, 3) := by decide +kernel
theorem dX5_ofBook_53 : decode cX5_ofBook 53 = .ok (.invokevirtual 75, 3) := by decide +kernel
theorem dX5_ofBook_56 : decode cX5_ofBook 56 = .ok (.iload_n 2, 1) := by decide +kernel
theorem dX5_ofBook_57 : decode cX5_ofBook 57 = .ok (.bipush 7, 2) := by decide +kernel
theorem dX5_ofBook_59 : decode cX5_ofBook 59 = .ok (.if_icmp .ne 19, 3) := by decide +kernel
theorem dX5_ofBook_62 : decode cX5_ofBook 62 = .ok (.aload_n 0, 1) := by decide +kernel
theorem dX5_ofBook_63 : decode cX5_ofBook 63 = .ok (.iload_n 1, 1) := by decide +kernel
theorem dX5_ofBook_64 : decode cX5_ofBook 64 = .ok (.invokevirtual 78, 3) := by decide +kernel
theorem dX5_ofBook_67 : decode cX5_ofBook 67 = .ok (.ifCond .eq 7, 3) := by decide +kernel
theorem dX5_ofBook_70 : decode cX5_ofBook 70 = .ok (.iconst 1, 1) := by decide +kernel
theorem dX5_ofBook_71 : decode cX5_ofBook 71 = .ok (.goto 19, 3) := by decide +kernel
theorem dX5_ofBook_74 : decode cX5_ofBook 74 = .ok (.iconst 0, 1) := by decide +kernel
theorem dX5_ofBook_75 : decode cX5_ofBook 75 = .ok (.goto 15, 3) := by decide +kernel
theorem dX5_ofBook_78 : decode cX5_ofBook 78 = .ok (.aload_n 0, 1) := by decide +kernel
theorem dX5_ofBook_79 : decode cX5_ofBook 79 = .ok (.getfield 31, 3) := by decide +kernel
theorem dX5_ofBook_82 : decode cX5_ofBook 82 = .ok (.iconst 2, 1) := by decide +kernel
theorem dX5_ofBook_83 : decode cX5_ofBook 83 = .ok (.iload_n 1, 1) := by decide +kernel
theorem dX5_ofBook_84 : decode cX5_ofBook 84 = .ok (.imul, 1) := by decide +kernel
theorem dX5_ofBook_85 : decode cX5_ofBook 85 = .ok (.iload_n 2, 1) := by decide +kernel
theorem dX5_ofBook_86 : decode cX5_ofBook 86 = .ok (.iadd, 1) := by decide +kernel
theorem dX5_ofBook_87 : decode cX5_ofBook 87 = .ok (.iconst 5, 1) := by decide +kernel
theorem dX5_ofBook_88 : decode cX5_ofBook 88 = .ok (.isub, 1) := by decide +kernel
theorem dX5_ofBook_89 : decode cX5_ofBook 89 = .ok (.iaload, 1) := by decide +kernel
theorem dX5_ofBook_90 : decode cX5_ofBook 90 = .ok (.ireturn, 1) := by decide +kernel
set_option maxRecDepth 20000 in
theorem ggX5_bookOf_X5_isBook : GoodIn wsX5_bookOf wsX5_isBook := goodIn_r _ [6, 7, 8, 9, 5, 10, 49, 50, 51, 52, 53, 54, 55, 56, 57, 58, 59, 60, 61, 62, 63] (by decide +kernel) (by decide +kernel)
set_option maxRecDepth 20000 in
theorem gX5_bookOf_X5_isBook : GoodIn wsX5_bookOf (wsV RX5 95 RX5 yX5_isBook wsX5_isBook) := goodIn_app (goodIn_of _ (by decide +kernel)) ggX5_bookOf_X5_isBook
set_option maxRecDepth 20000 in
theorem ggX5_bookOf_X5_fails : GoodIn wsX5_bookOf wsX5_fails := goodIn_r _ [14, 1, 49, 50, 51, 52, 53, 54, 55, 56, 57, 58, 59, 60, 61, 62, 63] (by decide +kernel) (by decide +kernel)
set_option maxRecDepth 20000 in
theorem gX5_bookOf_X5_fails : GoodIn wsX5_bookOf (wsV RX5 49 RX5 yX5_fails wsX5_fails) := goodIn_app (goodIn_of _ (by decide +kernel)) ggX5_bookOf_X5_fails
set_option maxRecDepth 20000 in
theorem ggX5_bookOf_X5_in : GoodIn wsX5_bookOf wsX5_in := goodIn_r _ [10] (by decide +kernel) (by decide +kernel)
set_option maxRecDepth 20000 in
theorem gX5_bookOf_X5_in : GoodIn wsX5_bookOf (va_wsS RX5 41 yX5_in wsX5_in) := goodIn_app (goodIn_of _ (by decide +kernel)) ggX5_bookOf_X5_in
set_option maxRecDepth 20000 in
theorem ggX5_bookOf_X5_ofBook : GoodIn wsX5_bookOf wsX5_ofBook := goodIn_r _ [18, 7, 19, 20, 21, 22, 5, 23, 24, 25, 26, 27, 28, 29, 30, 31, 32, 33, 34, 35, 36, 37, 38, 39, 40, 41, 42, 43, 44, 45, 46, 47, 48, 49, 50, 51, 52, 53, 54, 55, 56, 57, 58, 59, 60, 61, 62, 63] (by decide +kernel) (by decide +kernel)
set_option maxRecDepth 20000 in
theorem gX5_bookOf_X5_ofBook : GoodIn wsX5_bookOf (wsV RX5 149 RX5 yX5_ofBook wsX5_ofBook) := goodIn_app (goodIn_of _ (by decide +kernel)) ggX5_bookOf_X5_ofBook
theorem dX5_bookOf_0 : decode cX5_bookOf 0 = .ok (.aload_n 0, 1) := by decide +kernel
theorem dX5_bookOf_1 : decode cX5_bookOf 1 = .ok (.iconst 0, 1) := by decide +kernel
theorem dX5_bookOf_2 : decode cX5_bookOf 2 = .ok (.putfield 38, 3) := by decide +kernel
theorem dX5_bookOf_5 : decode cX5_bookOf 5 = .ok (.aload_n 0, 1) := by decide +kernel
theorem dX5_bookOf_6 : decode cX5_bookOf 6 = .ok (.iload_n 1, 1) := by decide +kernel
theorem dX5_bookOf_7 : decode cX5_bookOf 7 = .ok (.invokevirtual 95, 3) := by decide +kernel
theorem dX5_bookOf_10 : decode cX5_bookOf 10 = .ok (.ifCond .ne 9, 3) := by decide +kernel
theorem dX5_bookOf_13 : decode cX5_bookOf 13 = .ok (.aload_n 0, 1) := by decide +kernel
theorem dX5_bookOf_14 : decode cX5_bookOf 14 = .ok (.iconst 1, 1) := by decide +kernel
theorem dX5_bookOf_15 : decode cX5_bookOf 15 = .ok (.invokevirtual 49, 3) := by decide +kernel
theorem dX5_bookOf_18 : decode cX5_bookOf 18 = .ok (.ireturn, 1) := by decide +kernel
theorem dX5_bookOf_19 : decode cX5_bookOf 19 = .ok (.iload_n 2, 1) := by decide +kernel
theorem dX5_bookOf_20 : decode cX5_bookOf 20 = .ok (.iconst 0, 1) := by decide +kernel
theorem dX5_bookOf_21 : decode cX5_bookOf 21 = .ok (.bipush 10, 2) := by decide +kernel
theorem dX5_bookOf_23 : decode cX5_bookOf 23 = .ok (.invokestatic 41, 3) := by decide +kernel
theorem dX5_bookOf_26 : decode cX5_bookOf 26 = .ok (.ifCond .eq 12, 3) := by decide +kernel
theorem dX5_bookOf_29 : decode cX5_bookOf 29 = .ok (.aload_n 0, 1) := by decide +kernel
theorem dX5_bookOf_30 : decode cX5_bookOf 30 = .ok (.iload_n 1, 1) := by decide +kernel
theorem dX5_bookOf_31 : decode cX5_bookOf 31 = .ok (.iload_n 2, 1) := by decide +kernel
theorem dX5_bookOf_32 : decode cX5_bookOf 32 = .ok (.invokevirtual 149, 3) := by decide +kernel
theorem dX5_bookOf_35 : decode cX5_bookOf 35 = .ok (.goto 8, 3) := by decide +kernel
theorem dX5_bookOf_38 : decode cX5_bookOf 38 = .ok (.aload_n 0, 1) := by decide +kernel
theorem dX5_bookOf_39 : decode cX5_bookOf 39 = .ok (.iconst 2, 1) := by decide +kernel
theorem dX5_bookOf_40 : decode cX5_bookOf 40 = .ok (.invokevirtual 49, 3) := by decide +kernel
theorem dX5_bookOf_43 : decode cX5_bookOf 43 = .ok (.ireturn, 1) := by decide +kernel
def f_X5_firstError (x0_typed : Int32) (x0_thrown : Int32) (x0_at : Int32) (x0_isFault : Int32) (x0_value : Int32) (x0_tolds : Int32) (f1 : Nat → Int32) (f2 : Nat → Int32) : Option (Int32 × Int32 × Int32 × Int32 × Int32 × Int32 × (Nat → Int32)) := (f_X5_isText x0_typed x0_at x0_isFault x0_value x0_tolds f1 f2).bind (u6 fun (r1 : Int32) (o2 : Int32) (o3 : Int32) (o4 : Int32) (o5 : Int32) (o6 : Nat → Int32) => (jn (u1 fun (s7 : Int32) => some (s7, 0, o2, o3, o4, o5, o6)) (fun K8 => jn (u0 (K8 x0_typed)) (fun K9 => (if r1 = 0 then (if o3 = 0 then K9 () else K8 o2) else K9 ())))))
theorem in_X5_firstError_X5 : ∀ w ∈ wsX50, w ∈ wsX5_firstError := by decide +kernel
theorem fl_X5_firstError_38 : Cond.fieldLink RX5 38 "ColophonHuntModel" "thrown" "I" ∈ wsX5_firstError := by decide +kernel
theorem fl_X5_firstError_105 : Cond.fieldLink RX5 105 "ColophonHuntModel" "typed" "I" ∈ wsX5_firstError := by decide +kernel
theorem fl_X5_firstError_111 : Cond.fieldLink RX5 111 "ColophonHuntModel" "isFault" "Z" ∈ wsX5_firstError := by decide +kernel
theorem fl_X5_firstError_108 : Cond.fieldLink RX5 108 "ColophonHuntModel" "at" "I" ∈ wsX5_firstError := by decide +kernel
theorem hd_X5_firstError : yX5_firstError.cls = RX5 ∧ yX5_firstError.cls ≠ "java/lang/invoke/MethodHandle" ∧ yX5_firstError.cls ≠ "java/lang/invoke/VarHandle" ∧ (parseMethodDescriptor yX5_firstError.desc).map (fun d => d.parameters.length) = some 0 := by decide +kernel
set_option maxRecDepth 100000 in
set_option maxHeartbeats 4000000 in
theorem c_X5_firstError (l : Launch) (D : va_G) (cI cS cL : ClassId) (a0 : Nat) (a1 : Nat) (a2 : Nat) (b0_0 : Nat) (b0_1 : Nat) (b0_2 : Nat) (b0_12 : Nat) (b0_13 : Nat) (b0_14 : Nat) (x0_kept : Int32) (x0_typed : Int32) (x0_thrown : Int32) (x0_at : Int32) (x0_isFault : Int32) (x0_value : Int32) (x0_tolds : Int32) (f1 : Nat → Int32) (f2 : Nat → Int32) (rr : Int32) (y0 : Int32) (y1 : Int32) (y2 : Int32) (y3 : Int32) (y4 : Int32) (y5 : Nat → Int32) (hc : f_X5_firstError x0_typed x0_thrown x0_at x0_isFault x0_value x0_tolds f1 f2 = some (rr, y0, y1, y2, y3, y4, y5)) : KM l yX5_firstError wsX5_firstError { frames := 5, cells := 0, slots := 0, locals := 109 } D (tyS cI cS cL) [.ref a0] [(a0, .inr (5, [.ref b0_0, .ref b0_1, .ref b0_2, .int x0_kept, .ref a1, .int x0_typed, .int x0_thrown, .int x0_at, .int x0_isFault, .int x0_value, .ref a2, .int x0_tolds, .ref b0_12, .ref b0_13, .ref b0_14])), (a1, .inl (cI, 60, .inl f1)), (a2, .inl (cI, 124, .inl f2))] (some (.int rr)) (fun w => w = [(a0, .inr (5, [.ref b0_0, .ref b0_1, .ref b0_2, .int x0_kept, .ref a1, .int x0_typed, .int y0, .int y1, .int y2, .int y3, .ref a2, .int y4, .ref b0_12, .ref b0_13, .ref b0_14])), (a1, .inl (cI, 60, .inl f1)), (a2, .inl (cI, 124, .inl y5))]) 0 0 := by
  refine g_entry (cc := cX5_firstError) (nL := 2) (rt := (some .int)) (by decide) rfl (Nat.le_of_ble_eq_true rfl) ?_
  intro p e s m args below meth c A (X : GC p s m args c cX5_firstError 2 RX5 wsX5_firstError D (tyS cI cS cL) A) hr hlk _ _
  have h := hc
  unfold f_X5_firstError at h
  refine g_lv (lv' := [(0, .ref a0)]) [0] rfl ?_
  refine g_aload_n X (j := 0) dX5_firstError_0 rfl ?_
  refine g_iconst (v := 0) X dX5_firstError_1 (by decide) ?_
  refine g_put (q0 := 0) (k := 6) (ci := 5) (ws' := [(a0, .inr (5, [.ref b0_0, .ref b0_1, .ref b0_2, .int x0_kept, .ref a1, .int x0_typed, .int 0, .int x0_at, .int x0_isFault, .int x0_value, .ref a2, .int x0_tolds, .ref b0_12, .ref b0_13, .ref b0_14])), (a1, .inl (cI, 60, .inl f1)), (a2, .inl (cI, 124, .inl f2))]) X tyX5_ok nmX5 in_X5_firstError_X5 fl_X5_firstError_38 rfl rfl (Nat.le_of_ble_eq_true rfl) rfl rfl rfl (Nat.le_of_ble_eq_true rfl) dX5_firstError_2 rfl ?_
  refine g_aload_n X (j := 0) dX5_firstError_5 rfl ?_
  obtain ⟨r1, o2, o3, o4, o5, o6, hc, h⟩ := bd6 h
  refine g_callV (q0 := 0) (ci := 5) (is := [0, 1, 2]) (As := []) (ws' := [(a0, .inr (5, [.ref b0_0, .ref b0_1, .ref b0_2, .int x0_kept, .ref a1, .int x0_typed, .int 0, .int o2, .int o3, .int o4, .ref a2, .int o5, .ref b0_12, .ref b0_13, .ref b0_14])), (a1, .inl (cI, 60, .inl f1)), (a2, .inl (cI, 124, .inl o6))]) (st := []) X (c_X5_isText l D cI cS cL a0 a1 a2 b0_0 b0_1 b0_2 b0_12 b0_13 b0_14 x0_kept x0_typed 0 x0_at x0_isFault x0_value x0_tolds f1 f2 r1 o2 o3 o4 o5 o6 hc) gX5_firstError_X5_isText rfl ⟨rfl, rfl⟩ hd_X5_isText ⟨Nat.le_of_ble_eq_true rfl, Nat.le_of_ble_eq_true rfl⟩ ⟨Nat.zero_le _, Nat.zero_le _⟩ rfl rfl rfl rfl rfl rfl rfl (Nat.le_of_ble_eq_true rfl) rfl dX5_firstError_6 ?_
  refine g_istore_n (lv' := [(1, .int r1), (0, .ref a0)]) X dX5_firstError_9 rfl (by decide) rfl ?_
  refine g_iload_n X (j := 0) dX5_firstError_10 rfl ?_
  refine jn_g h (u1 fun s7 => [(a0, .inr (5, [.ref b0_0, .ref b0_1, .ref b0_2, .int x0_kept, .ref a1, .int x0_typed, .int 0, .int o2, .int o3, .int o4, .ref a2, .int o5, .ref b0_12, .ref b0_13, .ref b0_14])), (a1, .inl (cI, 60, .inl f1)), (a2, .inl (cI, 124, .inl o6))]) (u1 fun s7 => []) (u1 fun s7 => [.int s7]) 32 ?_ ?_
  · rintro s7 h
    dsimp only [u1] at h ⊢
    have h := Option.some.inj h
    simp only [Prod.mk.injEq] at h
    obtain ⟨rfl, rfl, rfl, rfl, rfl, rfl, rfl⟩ := h
    exact g_iret X hr hlk dX5_firstError_32 rfl rfl
  · intro K8 hK8 h
    refine jn_g h (u0 ([(a0, .inr (5, [.ref b0_0, .ref b0_1, .ref b0_2, .int x0_kept, .ref a1, .int x0_typed, .int 0, .int o2, .int o3, .int o4, .ref a2, .int o5, .ref b0_12, .ref b0_13, .ref b0_14])), (a1, .inl (cI, 60, .inl f1)), (a2, .inl (cI, 124, .inl o6))])) (u0 ([(0, .ref a0)])) (u0 ([])) 28 ?_ ?_
    · rintro ⟨⟩ h
      dsimp only [u0] at h ⊢
      refine g_aload_n X (j := 0) dX5_firstError_28 rfl ?_
      refine g_get (q0 := 0) (k := 5) (ci := 5) X in_X5_firstError_X5 fl_X5_firstError_105 rfl rfl (Nat.le_of_ble_eq_true rfl) rfl dX5_firstError_29 ?_
      refine g_lv (lv' := []) [] rfl ?_
      exact hK8 x0_typed h
    · intro K9 hK9 h
      refine g_if_ne (tgt := 28) X h dX5_firstError_11 (by decide) (fun h => ?_) (fun h => ?_)
      · refine g_lv (lv' := [(0, .ref a0)]) [1] rfl ?_
        exact hK9 () h
      · refine g_aload_n X (j := 1) dX5_firstError_14 rfl ?_
        refine g_get (q0 := 0) (k := 8) (ci := 5) X in_X5_firstError_X5 fl_X5_firstError_111 rfl rfl (Nat.le_of_ble_eq_true rfl) rfl dX5_firstError_15 ?_
        refine g_if_eq (tgt := 28) X h dX5_firstError_18 (by decide) (fun h => ?_) (fun h => ?_)
        · refine g_lv (lv' := [(0, .ref a0)]) [1] rfl ?_
          exact hK9 () h
        · refine g_aload_n X (j := 1) dX5_firstError_21 rfl ?_
          refine g_get (q0 := 0) (k := 7) (ci := 5) X in_X5_firstError_X5 fl_X5_firstError_108 rfl rfl (Nat.le_of_ble_eq_true rfl) rfl dX5_firstError_22 ?_
          refine g_goto (tgt := 32) X dX5_firstError_25 (by decide) ?_
          refine g_lv (lv' := []) [] rfl ?_
          exact hK8 o2 h
def f_X5_books (x0_kept : Int32) (x0_typed : Int32) (x0_thrown : Int32) (x0_at : Int32) (x0_isFault : Int32) (x0_value : Int32) (x0_tolds : Int32) (f1 : Nat → Int32) (f2 : Nat → Int32) (f3 : Nat → Int32) (f4 : Nat → Int32) : Option (Int32 × Int32 × Int32 × Int32 × Int32 × Int32 × Int32 × Int32 × (Nat → Int32) × (Nat → Int32) × (Nat → Int32)) := (f_X5_isText x0_typed x0_at x0_isFault x0_value x0_tolds f3 f4).bind (u6 fun (r1 : Int32) (o2 : Int32) (o3 : Int32) (o4 : Int32) (o5 : Int32) (o6 : Nat → Int32) => (if r1 = 0 then (f_X5_fails 1 0).bind (u2 fun (r23 : Int32) (o24 : Int32) => some (r23, x0_kept, x0_typed, o24, o2, o3, o4, o5, f1, f2, o6)) else (rdA f1 41 40).bind (fun v7 => (if (v7 + o5) ≤ 10 then (f_X5_saves x0_kept f1 f2).bind (u2 fun (o9 : Int32) (o10 : Nat → Int32) => (wl (u2 fun (l1_11 : Int32) (w12 : Nat → Int32) => (if o5 ≤ l1_11 then some (Sum.inr w12) else (rdA o6 124 ((4 : Int32) * l1_11)).bind (fun v14 => (rdA o6 124 (((4 : Int32) * l1_11) + 1)).bind (fun v15 => (rdA o6 124 (((4 : Int32) * l1_11) + 2)).bind (fun v16 => (rdA o6 124 (((4 : Int32) * l1_11) + 3)).bind (fun v17 => (f_X5_comes v14 v15 v16 v17 w12).bind (u2 fun (r18 : Int32) (o19 : Nat → Int32) => some (Sum.inl ((l1_11 + 1), o19))))))))) 9999 (0, f1)).bind (u1 fun (w13 : Nat → Int32) => (rdA w13 41 40).bind (fun v20 => some (v20, o9, 0, 0, o2, o3, o4, o5, w13, o10, o6)))) else (f_X5_fails 2 0).bind (u2 fun (r21 : Int32) (o22 : Int32) => some (r21, x0_kept, x0_typed, o22, o2, o3, o4, o5, f1, f2, o6))))))
theorem in_X5_books_X5 : ∀ w ∈ wsX50, w ∈ wsX5_books := by decide +kernel
theorem fl_X5_books_38 : Cond.fieldLink RX5 38 "ColophonHuntModel" "thrown" "I" ∈ wsX5_books := by decide +kernel
theorem fl_X5_books_7 : Cond.fieldLink RX5 7 "ColophonHuntModel" "now" "[I" ∈ wsX5_books := by decide +kernel
theorem fl_X5_books_125 : Cond.fieldLink RX5 125 "ColophonHuntModel" "tolds" "I" ∈ wsX5_books := by decide +kernel
theorem fl_X5_books_105 : Cond.fieldLink RX5 105 "ColophonHuntModel" "typed" "I" ∈ wsX5_books := by decide +kernel
theorem fl_X5_books_22 : Cond.fieldLink RX5 22 "ColophonHuntModel" "told" "[I" ∈ wsX5_books := by decide +kernel
theorem hd_X5_books : yX5_books.cls = RX5 ∧ yX5_books.cls ≠ "java/lang/invoke/MethodHandle" ∧ yX5_books.cls ≠ "java/lang/invoke/VarHandle" ∧ (parseMethodDescriptor yX5_books.desc).map (fun d => d.parameters.length) = some 0 := by decide +kernel
set_option maxRecDepth 100000 in
set_option maxHeartbeats 4000000 in
theorem c_X5_books (l : Launch) (D : va_G) (cI cS cL : ClassId) (a0 : Nat) (a1 : Nat) (a2 : Nat) (a3 : Nat) (a4 : Nat) (b0_1 : Nat) (b0_12 : Nat) (b0_13 : Nat) (b0_14 : Nat) (x0_kept : Int32) (x0_typed : Int32) (x0_thrown : Int32) (x0_at : Int32) (x0_isFault : Int32) (x0_value : Int32) (x0_tolds : Int32) (f1 : Nat → Int32) (f2 : Nat → Int32) (f3 : Nat → Int32) (f4 : Nat → Int32) (rr : Int32) (y0 : Int32) (y1 : Int32) (y2 : Int32) (y3 : Int32) (y4 : Int32) (y5 : Int32) (y6 : Int32) (y7 : Nat → Int32) (y8 : Nat → Int32) (y9 : Nat → Int32) (hc : f_X5_books x0_kept x0_typed x0_thrown x0_at x0_isFault x0_value x0_tolds f1 f2 f3 f4 = some (rr, y0, y1, y2, y3, y4, y5, y6, y7, y8, y9)) : KM l yX5_books wsX5_books { frames := 5, cells := 0, slots := 0, locals := 109 } D (tyS cI cS cL) [.ref a0] [(a0, .inr (5, [.ref a1, .ref b0_1, .ref a2, .int x0_kept, .ref a3, .int x0_typed, .int x0_thrown, .int x0_at, .int x0_isFault, .int x0_value, .ref a4, .int x0_tolds, .ref b0_12, .ref b0_13, .ref b0_14])), (a1, .inl (cI, 41, .inl f1)), (a2, .inl (cI, 246, .inl f2)), (a3, .inl (cI, 60, .inl f3)), (a4, .inl (cI, 124, .inl f4))] (some (.int rr)) (fun w => w = [(a0, .inr (5, [.ref a1, .ref b0_1, .ref a2, .int y0, .ref a3, .int y1, .int y2, .int y3, .int y4, .int y5, .ref a4, .int y6, .ref b0_12, .ref b0_13, .ref b0_14])), (a1, .inl (cI, 41, .inl y7)), (a2, .inl (cI, 246, .inl y8)), (a3, .inl (cI, 60, .inl f3)), (a4, .inl (cI, 124, .inl y9))]) 0 0 := by
  refine g_entry (cc := cX5_books) (nL := 2) (rt := (some .int)) (by decide) rfl (Nat.le_of_ble_eq_true rfl) ?_
  intro p e s m args below meth c A (X : GC p s m args c cX5_books 2 RX5 wsX5_books D (tyS cI cS cL) A) hr hlk _ _
  have h := hc
  unfold f_X5_books at h
  refine g_lv (lv' := [(0, .ref a0)]) [0] rfl ?_
  refine g_aload_n X (j := 0) dX5_books_0 rfl ?_
  refine g_iconst (v := 0) X dX5_books_1 (by decide) ?_
  refine g_put (q0 := 0) (k := 6) (ci := 5) (ws' := [(a0, .inr (5, [.ref a1, .ref b0_1, .ref a2, .int x0_kept, .ref a3, .int x0_typed, .int 0, .int x0_at, .int x0_isFault, .int x0_value, .ref a4, .int x0_tolds, .ref b0_12, .ref b0_13, .ref b0_14])), (a1, .inl (cI, 41, .inl f1)), (a2, .inl (cI, 246, .inl f2)), (a3, .inl (cI, 60, .inl f3)), (a4, .inl (cI, 124, .inl f4))]) X tyX5_ok nmX5 in_X5_books_X5 fl_X5_books_38 rfl rfl (Nat.le_of_ble_eq_true rfl) rfl rfl rfl (Nat.le_of_ble_eq_true rfl) dX5_books_2 rfl ?_
  refine g_aload_n X (j := 0) dX5_books_5 rfl ?_
  obtain ⟨r1, o2, o3, o4, o5, o6, hc, h⟩ := bd6 h
  refine g_callV (q0 := 0) (ci := 5) (is := [0, 3, 4]) (As := []) (ws' := [(a0, .inr (5, [.ref a1, .ref b0_1, .ref a2, .int x0_kept, .ref a3, .int x0_typed, .int 0, .int o2, .int o3, .int o4, .ref a4, .int o5, .ref b0_12, .ref b0_13, .ref b0_14])), (a1, .inl (cI, 41, .inl f1)), (a2, .inl (cI, 246, .inl f2)), (a3, .inl (cI, 60, .inl f3)), (a4, .inl (cI, 124, .inl o6))]) (st := []) X (c_X5_isText l D cI cS cL a0 a3 a4 a1 b0_1 a2 b0_12 b0_13 b0_14 x0_kept x0_typed 0 x0_at x0_isFault x0_value x0_tolds f3 f4 r1 o2 o3 o4 o5 o6 hc) gX5_books_X5_isText rfl ⟨rfl, rfl⟩ hd_X5_isText ⟨Nat.le_of_ble_eq_true rfl, Nat.le_of_ble_eq_true rfl⟩ ⟨Nat.zero_le _, Nat.zero_le _⟩ rfl rfl rfl rfl rfl rfl rfl (Nat.le_of_ble_eq_true rfl) rfl dX5_books_6 ?_
  refine g_if_ne (tgt := 18) X h dX5_books_9 (by decide) (fun h => ?_) (fun h => ?_)
  · refine g_aload_n X (j := 0) dX5_books_18 rfl ?_
    refine g_get (q0 := 0) (k := 0) (ci := 5) X in_X5_books_X5 fl_X5_books_7 rfl rfl (Nat.le_of_ble_eq_true rfl) rfl dX5_books_19 ?_
    refine g_bipush (v := 40) X dX5_books_22 (by decide) ?_
    refine g_iald (q0 := 1) (t0 := 0) X h rfl rfl dX5_books_24 (fun v7 h => ?_)
    refine g_aload_n X (j := 0) dX5_books_25 rfl ?_
    refine g_get (q0 := 0) (k := 11) (ci := 5) X in_X5_books_X5 fl_X5_books_125 rfl rfl (Nat.le_of_ble_eq_true rfl) rfl dX5_books_26 ?_
    refine g_iadd X dX5_books_29 ?_
    refine g_bipush (v := 10) X dX5_books_30 (by decide) ?_
    refine g_icmp_le (tgt := 41) X h dX5_books_32 (by decide) (fun h => ?_) (fun h => ?_)
    · refine g_aload_n X (j := 0) dX5_books_41 rfl ?_
      obtain ⟨o9, o10, hc, h⟩ := bd2 h
      refine g_callV (q0 := 0) (ci := 5) (is := [0, 1, 2]) (As := []) (ws' := [(a0, .inr (5, [.ref a1, .ref b0_1, .ref a2, .int o9, .ref a3, .int x0_typed, .int 0, .int o2, .int o3, .int o4, .ref a4, .int o5, .ref b0_12, .ref b0_13, .ref b0_14])), (a1, .inl (cI, 41, .inl f1)), (a2, .inl (cI, 246, .inl o10)), (a3, .inl (cI, 60, .inl f3)), (a4, .inl (cI, 124, .inl o6))]) (st := []) X (c_X5_saves l D cI cS cL a0 a1 a2 b0_1 a3 a4 b0_12 b0_13 b0_14 x0_kept x0_typed 0 o2 o3 o4 o5 f1 f2 o9 o10 hc) gX5_books_X5_saves rfl ⟨rfl, rfl⟩ hd_X5_saves ⟨Nat.le_of_ble_eq_true rfl, Nat.le_of_ble_eq_true rfl⟩ ⟨Nat.zero_le _, Nat.zero_le _⟩ rfl rfl rfl rfl rfl rfl rfl (Nat.le_of_ble_eq_true rfl) rfl dX5_books_42 ?_
      refine g_aload_n X (j := 0) dX5_books_45 rfl ?_
      refine g_iconst (v := 0) X dX5_books_46 (by decide) ?_
      refine g_put (q0 := 0) (k := 5) (ci := 5) (ws' := [(a0, .inr (5, [.ref a1, .ref b0_1, .ref a2, .int o9, .ref a3, .int 0, .int 0, .int o2, .int o3, .int o4, .ref a4, .int o5, .ref b0_12, .ref b0_13, .ref b0_14])), (a1, .inl (cI, 41, .inl f1)), (a2, .inl (cI, 246, .inl o10)), (a3, .inl (cI, 60, .inl f3)), (a4, .inl (cI, 124, .inl o6))]) X tyX5_ok nmX5 in_X5_books_X5 fl_X5_books_105 rfl rfl (Nat.le_of_ble_eq_true rfl) rfl rfl rfl (Nat.le_of_ble_eq_true rfl) dX5_books_47 rfl ?_
      refine g_iconst (v := 0) X dX5_books_50 (by decide) ?_
      refine g_istore_n (lv' := [(1, .int 0), (0, .ref a0)]) X dX5_books_51 rfl (by decide) rfl ?_
      refine g_lv (lv' := [(0, .ref a0), (1, .int 0)]) [1, 0] rfl ?_
      refine wl_g1 h (u2 fun l1_11 w12 => [(a0, .inr (5, [.ref a1, .ref b0_1, .ref a2, .int o9, .ref a3, .int 0, .int 0, .int o2, .int o3, .int o4, .ref a4, .int o5, .ref b0_12, .ref b0_13, .ref b0_14])), (a1, .inl (cI, 41, .inl w12)), (a2, .inl (cI, 246, .inl o10)), (a3, .inl (cI, 60, .inl f3)), (a4, .inl (cI, 124, .inl o6))]) (u2 fun l1_11 w12 => [(0, .ref a0), (1, .int l1_11)]) rfl rfl (u1 fun w13 => [(a0, .inr (5, [.ref a1, .ref b0_1, .ref a2, .int o9, .ref a3, .int 0, .int 0, .int o2, .int o3, .int o4, .ref a4, .int o5, .ref b0_12, .ref b0_13, .ref b0_14])), (a1, .inl (cI, 41, .inl w13)), (a2, .inl (cI, 246, .inl o10)), (a3, .inl (cI, 60, .inl f3)), (a4, .inl (cI, 124, .inl o6))]) (u1 fun w13 => [(0, .ref a0)]) 109 ?_ ?_
      · rintro w13 h
        dsimp only [u1] at h ⊢
        refine g_aload_n X (j := 0) dX5_books_109 rfl ?_
        refine g_get (q0 := 0) (k := 0) (ci := 5) X in_X5_books_X5 fl_X5_books_7 rfl rfl (Nat.le_of_ble_eq_true rfl) rfl dX5_books_110 ?_
        refine g_bipush (v := 40) X dX5_books_113 (by decide) ?_
        refine g_iald (q0 := 1) (t0 := 0) X h rfl rfl dX5_books_115 (fun v20 h => ?_)
        have h := Option.some.inj h
        simp only [Prod.mk.injEq] at h
        obtain ⟨rfl, rfl, rfl, rfl, rfl, rfl, rfl, rfl, rfl, rfl, rfl⟩ := h
        exact g_iret X hr hlk dX5_books_116 rfl rfl
      · rintro ⟨l1_11, w12⟩ o h hI hE
        dsimp only [u2] at h ⊢
        refine g_iload_n X (j := 1) dX5_books_52 rfl ?_
        refine g_aload_n X (j := 0) dX5_books_53 rfl ?_
        refine g_get (q0 := 0) (k := 11) (ci := 5) X in_X5_books_X5 fl_X5_books_125 rfl rfl (Nat.le_of_ble_eq_true rfl) rfl dX5_books_54 ?_
        refine g_icmp_ge (tgt := 109) X h dX5_books_57 (by decide) (fun h => ?_) (fun h => ?_)
        · refine g_lv (lv' := [(0, .ref a0)]) [0] rfl ?_
          exact hE w12 (Option.some.inj h).symm
        · refine g_aload_n X (j := 0) dX5_books_60 rfl ?_
          refine g_aload_n X (j := 0) dX5_books_61 rfl ?_
          refine g_get (q0 := 0) (k := 10) (ci := 5) X in_X5_books_X5 fl_X5_books_22 rfl rfl (Nat.le_of_ble_eq_true rfl) rfl dX5_books_62 ?_
          refine g_iconst (v := 4) X dX5_books_65 (by decide) ?_
          refine g_iload_n X (j := 1) dX5_books_66 rfl ?_
          refine g_imul X dX5_books_67 ?_
          refine g_iald (q0 := 4) (t0 := 0) X h rfl rfl dX5_books_68 (fun v14 h => ?_)
          refine g_aload_n X (j := 0) dX5_books_69 rfl ?_
          refine g_get (q0 := 0) (k := 10) (ci := 5) X in_X5_books_X5 fl_X5_books_22 rfl rfl (Nat.le_of_ble_eq_true rfl) rfl dX5_books_70 ?_
          refine g_iconst (v := 4) X dX5_books_73 (by decide) ?_
          refine g_iload_n X (j := 1) dX5_books_74 rfl ?_
          refine g_imul X dX5_books_75 ?_
          refine g_iconst (v := 1) X dX5_books_76 (by decide) ?_
          refine g_iadd X dX5_books_77 ?_
          refine g_iald (q0 := 4) (t0 := 0) X h rfl rfl dX5_books_78 (fun v15 h => ?_)
          refine g_aload_n X (j := 0) dX5_books_79 rfl ?_
          refine g_get (q0 := 0) (k := 10) (ci := 5) X in_X5_books_X5 fl_X5_books_22 rfl rfl (Nat.le_of_ble_eq_true rfl) rfl dX5_books_80 ?_
          refine g_iconst (v := 4) X dX5_books_83 (by decide) ?_
          refine g_iload_n X (j := 1) dX5_books_84 rfl ?_
          refine g_imul X dX5_books_85 ?_
          refine g_iconst (v := 2) X dX5_books_86 (by decide) ?_
          refine g_iadd X dX5_books_87 ?_
          refine g_iald (q0 := 4) (t0 := 0) X h rfl rfl dX5_books_88 (fun v16 h => ?_)
          refine g_aload_n X (j := 0) dX5_books_89 rfl ?_
          refine g_get (q0 := 0) (k := 10) (ci := 5) X in_X5_books_X5 fl_X5_books_22 rfl rfl (Nat.le_of_ble_eq_true rfl) rfl dX5_books_90 ?_
          refine g_iconst (v := 4) X dX5_books_93 (by decide) ?_
          refine g_iload_n X (j := 1) dX5_books_94 rfl ?_
          refine g_imul X dX5_books_95 ?_
          refine g_iconst (v := 3) X dX5_books_96 (by decide) ?_
          refine g_iadd X dX5_books_97 ?_
          refine g_iald (q0 := 4) (t0 := 0) X h rfl rfl dX5_books_98 (fun v17 h => ?_)
          obtain ⟨r18, o19, hc, h⟩ := bd2 h
          refine g_callV (q0 := 0) (ci := 5) (is := [0, 1]) (As := [.int v14, .int v15, .int v16, .int v17]) (ws' := [(a0, .inr (5, [.ref a1, .ref b0_1, .ref a2, .int o9, .ref a3, .int 0, .int 0, .int o2, .int o3, .int o4, .ref a4, .int o5, .ref b0_12, .ref b0_13, .ref b0_14])), (a1, .inl (cI, 41, .inl o19)), (a2, .inl (cI, 246, .inl o10)), (a3, .inl (cI, 60, .inl f3)), (a4, .inl (cI, 124, .inl o6))]) (st := []) X (c_X5_comes l D cI cS cL a0 a1 b0_1 a2 a3 a4 b0_12 b0_13 b0_14 v14 v15 v16 v17 o9 0 0 o2 o3 o4 o5 w12 r18 o19 hc) gX5_books_X5_comes rfl ⟨rfl, rfl⟩ hd_X5_comes ⟨Nat.le_of_ble_eq_true rfl, Nat.le_of_ble_eq_true rfl⟩ ⟨Nat.zero_le _, Nat.zero_le _⟩ rfl rfl rfl rfl rfl rfl rfl (Nat.le_of_ble_eq_true rfl) rfl dX5_books_99 ?_
          refine g_pop X dX5_books_102 rfl ?_
          refine g_iinc (j := 1) (lv' := [(1, .int (l1_11 + 1)), (0, .ref a0)]) X (l1_11 + 1) dX5_books_103 rfl rfl (by decide) rfl ?_
          refine g_goto (tgt := 52) X dX5_books_106 (by decide) ?_
          refine g_lv (lv' := [(0, .ref a0), (1, .int (l1_11 + 1))]) [1, 0] rfl ?_
          exact hI ((l1_11 + 1), o19) (Option.some.inj h).symm
    · refine g_aload_n X (j := 0) dX5_books_35 rfl ?_
      refine g_iconst (v := 2) X dX5_books_36 (by decide) ?_
      obtain ⟨r21, o22, hc, h⟩ := bd2 h
      refine g_callV (q0 := 0) (ci := 5) (is := [0]) (As := [.int 2]) (ws' := [(a0, .inr (5, [.ref a1, .ref b0_1, .ref a2, .int x0_kept, .ref a3, .int x0_typed, .int o22, .int o2, .int o3, .int o4, .ref a4, .int o5, .ref b0_12, .ref b0_13, .ref b0_14])), (a1, .inl (cI, 41, .inl f1)), (a2, .inl (cI, 246, .inl f2)), (a3, .inl (cI, 60, .inl f3)), (a4, .inl (cI, 124, .inl o6))]) (st := []) X (c_X5_fails l D cI cS cL a0 a1 b0_1 a2 a3 a4 b0_12 b0_13 b0_14 2 x0_kept x0_typed 0 o2 o3 o4 o5 r21 o22 hc) gX5_books_X5_fails rfl ⟨rfl, rfl⟩ hd_X5_fails ⟨Nat.le_of_ble_eq_true rfl, Nat.le_of_ble_eq_true rfl⟩ ⟨Nat.zero_le _, Nat.zero_le _⟩ rfl rfl rfl rfl rfl rfl rfl (Nat.le_of_ble_eq_true rfl) rfl dX5_books_37 ?_
      have h := Option.some.inj h
      simp only [Prod.mk.injEq] at h
      obtain ⟨rfl, rfl, rfl, rfl, rfl, rfl, rfl, rfl, rfl, rfl, rfl⟩ := h
      exact g_iret X hr hlk dX5_books_40 rfl rfl
  · refine g_aload_n X (j := 0) dX5_books_12 rfl ?_
    refine g_iconst (v := 1) X dX5_books_13 (by decide) ?_
    obtain ⟨r23, o24, hc, h⟩ := bd2 h
    refine g_callV (q0 := 0) (ci := 5) (is := [0]) (As := [.int 1]) (ws' := [(a0, .inr (5, [.ref a1, .ref b0_1, .ref a2, .int x0_kept, .ref a3, .int x0_typed, .int o24, .int o2, .int o3, .int o4, .ref a4, .int o5, .ref b0_12, .ref b0_13, .ref b0_14])), (a1, .inl (cI, 41, .inl f1)), (a2, .inl (cI, 246, .inl f2)), (a3, .inl (cI, 60, .inl f3)), (a4, .inl (cI, 124, .inl o6))]) (st := []) X (c_X5_fails l D cI cS cL a0 a1 b0_1 a2 a3 a4 b0_12 b0_13 b0_14 1 x0_kept x0_typed 0 o2 o3 o4 o5 r23 o24 hc) gX5_books_X5_fails rfl ⟨rfl, rfl⟩ hd_X5_fails ⟨Nat.le_of_ble_eq_true rfl, Nat.le_of_ble_eq_true rfl⟩ ⟨Nat.zero_le _, Nat.zero_le _⟩ rfl rfl rfl rfl rfl rfl rfl (Nat.le_of_ble_eq_true rfl) rfl dX5_books_14 ?_
    have h := Option.some.inj h
    simp only [Prod.mk.injEq] at h
    obtain ⟨rfl, rfl, rfl, rfl, rfl, rfl, rfl, rfl, rfl, rfl, rfl⟩ := h
    exact g_iret X hr hlk dX5_books_17 rfl rfl
def f_X5_others (p1 : Int32) (p2 : Int32) (f1 : Nat → Int32) : Option (Int32) := (wl (u2 fun (l3_1 : Int32) (l4_2 : Int32) => (rdA f1 41 40).bind (fun v4 => (if v4 ≤ l4_2 then some (Sum.inr l3_1) else (jn (u1 fun (s5 : Int32) => (jn (u1 fun (s7 : Int32) => (jn (u1 fun (s9 : Int32) => some (Sum.inl ((l3_1 + s9), (l4_2 + 1)))) (fun K10 => jn (u0 (K10 1)) (fun K11 => jn (u0 ((jn (u0 ((jn (u0 (K10 0)) (fun K14 => (if p2 = 10 then (if s5 = 0 then K14 () else (if s7 = 0 then K14 () else K11 ())) else K14 ()))))) (fun K13 => (if p2 = 9 then (if s7 = 0 then K13 () else K11 ()) else K13 ()))))) (fun K12 => (if p2 = 8 then (if s5 = 0 then K12 () else K11 ()) else K12 ())))))) (fun K8 => jn (u0 (K8 0)) (fun K15 => (if l4_2 = p1 then K15 () else (f_X5_by p1 l4_2 41 f1).bind (u1 fun (r16 : Int32) => (if r16 = 0 then K15 () else K8 1))))))) (fun K6 => jn (u0 (K6 0)) (fun K17 => (if l4_2 = p1 then K17 () else (f_X5_by l4_2 p1 41 f1).bind (u1 fun (r18 : Int32) => (if r18 = 0 then K17 () else K6 1))))))))) 9999 (0, 0)).bind (u1 fun (l3_3 : Int32) => some l3_3)
theorem in_X5_others_X5 : ∀ w ∈ wsX50, w ∈ wsX5_others := by decide +kernel
theorem fl_X5_others_7 : Cond.fieldLink RX5 7 "ColophonHuntModel" "now" "[I" ∈ wsX5_others := by decide +kernel
theorem hd_X5_others : yX5_others.cls = RX5 ∧ yX5_others.cls ≠ "java/lang/invoke/MethodHandle" ∧ yX5_others.cls ≠ "java/lang/invoke/VarHandle" ∧ (parseMethodDescriptor yX5_others.desc).map (fun d => d.parameters.length) = some 2 := by decide +kernel
set_option maxRecDepth 100000 in
set_option maxHeartbeats 4000000 in
theorem c_X5_others (l : Launch) (D : va_G) (cI cS cL : ClassId) (a0 : Nat) (a1 : Nat) (b0_1 : Nat) (b0_2 : Nat) (b0_4 : Nat) (b0_10 : Nat) (b0_12 : Nat) (b0_13 : Nat) (b0_14 : Nat) (p1 : Int32) (p2 : Int32) (x0_kept : Int32) (x0_typed : Int32) (x0_thrown : Int32) (x0_at : Int32) (x0_isFault : Int32) (x0_value : Int32) (x0_tolds : Int32) (f1 : Nat → Int32) (rr : Int32) (hc : f_X5_others p1 p2 f1 = some rr) : KM l yX5_others wsX5_others { frames := 2, cells := 0, slots := 0, locals := 46 } D (tyS cI cS cL) [.ref a0, .int p1, .int p2] [(a0, .inr (5, [.ref a1, .ref b0_1, .ref b0_2, .int x0_kept, .ref b0_4, .int x0_typed, .int x0_thrown, .int x0_at, .int x0_isFault, .int x0_value, .ref b0_10, .int x0_tolds, .ref b0_12, .ref b0_13, .ref b0_14])), (a1, .inl (cI, 41, .inl f1))] (some (.int rr)) (fun w => w = [(a0, .inr (5, [.ref a1, .ref b0_1, .ref b0_2, .int x0_kept, .ref b0_4, .int x0_typed, .int x0_thrown, .int x0_at, .int x0_isFault, .int x0_value, .ref b0_10, .int x0_tolds, .ref b0_12, .ref b0_13, .ref b0_14])), (a1, .inl (cI, 41, .inl f1))]) 0 0 := by
  refine g_entry (cc := cX5_others) (nL := 7) (rt := (some .int)) (by decide) rfl (Nat.le_of_ble_eq_true rfl) ?_
  intro p e s m args below meth c A (X : GC p s m args c cX5_others 7 RX5 wsX5_others D (tyS cI cS cL) A) hr hlk _ _
  have h := hc
  unfold f_X5_others at h
  refine g_lv (lv' := [(0, .ref a0), (1, .int p1), (2, .int p2)]) [0, 1, 2] rfl ?_
  refine g_iconst (v := 0) X dX5_others_0 (by decide) ?_
  refine g_istore_n (lv' := [(3, .int 0), (0, .ref a0), (1, .int p1), (2, .int p2)]) X dX5_others_1 rfl (by decide) rfl ?_
  refine g_iconst (v := 0) X dX5_others_2 (by decide) ?_
  refine g_istore (lv' := [(4, .int 0), (3, .int 0), (0, .ref a0), (1, .int p1), (2, .int p2)]) X dX5_others_3 (by decide) rfl ?_
  refine g_lv (lv' := [(0, .ref a0), (1, .int p1), (2, .int p2), (3, .int 0), (4, .int 0)]) [2, 3, 4, 1, 0] rfl ?_
  refine wl_g1 h (u2 fun l3_1 l4_2 => [(a0, .inr (5, [.ref a1, .ref b0_1, .ref b0_2, .int x0_kept, .ref b0_4, .int x0_typed, .int x0_thrown, .int x0_at, .int x0_isFault, .int x0_value, .ref b0_10, .int x0_tolds, .ref b0_12, .ref b0_13, .ref b0_14])), (a1, .inl (cI, 41, .inl f1))]) (u2 fun l3_1 l4_2 => [(0, .ref a0), (1, .int p1), (2, .int p2), (3, .int l3_1), (4, .int l4_2)]) rfl rfl (u1 fun l3_3 => [(a0, .inr (5, [.ref a1, .ref b0_1, .ref b0_2, .int x0_kept, .ref b0_4, .int x0_typed, .int x0_thrown, .int x0_at, .int x0_isFault, .int x0_value, .ref b0_10, .int x0_tolds, .ref b0_12, .ref b0_13, .ref b0_14])), (a1, .inl (cI, 41, .inl f1))]) (u1 fun l3_3 => [(3, .int l3_3)]) 121 ?_ ?_
  · rintro l3_3 h
    dsimp only [u1] at h ⊢
    refine g_iload_n X (j := 0) dX5_others_121 rfl ?_
    have h := Option.some.inj h
    subst h
    exact g_iret X hr hlk dX5_others_122 rfl rfl
  · rintro ⟨l3_1, l4_2⟩ o h hI hE
    dsimp only [u2] at h ⊢
    refine g_iload X (j := 4) dX5_others_5 rfl ?_
    refine g_aload_n X (j := 0) dX5_others_7 rfl ?_
    refine g_get (q0 := 0) (k := 0) (ci := 5) X in_X5_others_X5 fl_X5_others_7 rfl rfl (Nat.le_of_ble_eq_true rfl) rfl dX5_others_8 ?_
    refine g_bipush (v := 40) X dX5_others_11 (by decide) ?_
    refine g_iald (q0 := 1) (t0 := 0) X h rfl rfl dX5_others_13 (fun v4 h => ?_)
    refine g_icmp_ge (tgt := 121) X h dX5_others_14 (by decide) (fun h => ?_) (fun h => ?_)
    · refine g_lv (lv' := [(3, .int l3_1)]) [3] rfl ?_
      exact hE l3_1 (Option.some.inj h).symm
    · refine g_iload X (j := 4) dX5_others_17 rfl ?_
      refine g_iload_n X (j := 1) dX5_others_19 rfl ?_
      refine jn_g h (u1 fun s5 => [(a0, .inr (5, [.ref a1, .ref b0_1, .ref b0_2, .int x0_kept, .ref b0_4, .int x0_typed, .int x0_thrown, .int x0_at, .int x0_isFault, .int x0_value, .ref b0_10, .int x0_tolds, .ref b0_12, .ref b0_13, .ref b0_14])), (a1, .inl (cI, 41, .inl f1))]) (u1 fun s5 => [(0, .ref a0), (1, .int p1), (2, .int p2), (3, .int l3_1), (4, .int l4_2)]) (u1 fun s5 => [.int s5]) 41 ?_ ?_
      · rintro s5 h
        dsimp only [u1] at h ⊢
        refine g_istore (lv' := [(5, .int s5), (0, .ref a0), (1, .int p1), (2, .int p2), (3, .int l3_1), (4, .int l4_2)]) X dX5_others_41 (by decide) rfl ?_
        refine g_iload X (j := 5) dX5_others_43 rfl ?_
        refine g_iload_n X (j := 2) dX5_others_45 rfl ?_
        refine jn_g h (u1 fun s7 => [(a0, .inr (5, [.ref a1, .ref b0_1, .ref b0_2, .int x0_kept, .ref b0_4, .int x0_typed, .int x0_thrown, .int x0_at, .int x0_isFault, .int x0_value, .ref b0_10, .int x0_tolds, .ref b0_12, .ref b0_13, .ref b0_14])), (a1, .inl (cI, 41, .inl f1))]) (u1 fun s7 => [(0, .ref a0), (1, .int p1), (2, .int p2), (3, .int l3_1), (4, .int l4_2), (5, .int s5)]) (u1 fun s7 => [.int s7]) 67 ?_ ?_
        · rintro s7 h
          dsimp only [u1] at h ⊢
          refine g_istore (lv' := [(6, .int s7), (0, .ref a0), (1, .int p1), (2, .int p2), (3, .int l3_1), (4, .int l4_2), (5, .int s5)]) X dX5_others_67 (by decide) rfl ?_
          refine g_iload_n X (j := 4) dX5_others_69 rfl ?_
          refine g_iload_n X (j := 3) dX5_others_70 rfl ?_
          refine g_bipush (v := 8) X dX5_others_71 (by decide) ?_
          refine jn_g h (u1 fun s9 => [(a0, .inr (5, [.ref a1, .ref b0_1, .ref b0_2, .int x0_kept, .ref b0_4, .int x0_typed, .int x0_thrown, .int x0_at, .int x0_isFault, .int x0_value, .ref b0_10, .int x0_tolds, .ref b0_12, .ref b0_13, .ref b0_14])), (a1, .inl (cI, 41, .inl f1))]) (u1 fun s9 => [(0, .ref a0), (1, .int p1), (2, .int p2), (4, .int l4_2)]) (u1 fun s9 => [.int s9, .int l3_1]) 113 ?_ ?_
          · rintro s9 h
            dsimp only [u1] at h ⊢
            refine g_iadd X dX5_others_113 ?_
            refine g_istore_n (lv' := [(3, .int (l3_1 + s9)), (0, .ref a0), (1, .int p1), (2, .int p2), (4, .int l4_2)]) X dX5_others_114 rfl (by decide) rfl ?_
            refine g_iinc (j := 4) (lv' := [(4, .int (l4_2 + 1)), (3, .int (l3_1 + s9)), (0, .ref a0), (1, .int p1), (2, .int p2)]) X (l4_2 + 1) dX5_others_115 rfl rfl (by decide) rfl ?_
            refine g_goto (tgt := 5) X dX5_others_118 (by decide) ?_
            refine g_lv (lv' := [(0, .ref a0), (1, .int p1), (2, .int p2), (3, .int (l3_1 + s9)), (4, .int (l4_2 + 1))]) [2, 3, 4, 1, 0] rfl ?_
            exact hI ((l3_1 + s9), (l4_2 + 1)) (Option.some.inj h).symm
          · intro K10 hK10 h
            refine jn_g h (u0 ([(a0, .inr (5, [.ref a1, .ref b0_1, .ref b0_2, .int x0_kept, .ref b0_4, .int x0_typed, .int x0_thrown, .int x0_at, .int x0_isFault, .int x0_value, .ref b0_10, .int x0_tolds, .ref b0_12, .ref b0_13, .ref b0_14])), (a1, .inl (cI, 41, .inl f1))])) (u0 ([(0, .ref a0), (1, .int p1), (2, .int p2), (4, .int l4_2)])) (u0 ([.int l3_1])) 108 ?_ ?_
            · rintro ⟨⟩ h
              dsimp only [u0] at h ⊢
              refine g_iconst (v := 1) X dX5_others_108 (by decide) ?_
              refine g_goto (tgt := 113) X dX5_others_109 (by decide) ?_
              exact hK10 1 h
            · intro K11 hK11 h
              refine jn_g h (u0 ([(a0, .inr (5, [.ref a1, .ref b0_1, .ref b0_2, .int x0_kept, .ref b0_4, .int x0_typed, .int x0_thrown, .int x0_at, .int x0_isFault, .int x0_value, .ref b0_10, .int x0_tolds, .ref b0_12, .ref b0_13, .ref b0_14])), (a1, .inl (cI, 41, .inl f1))])) (u0 ([(0, .ref a0), (1, .int p1), (2, .int p2), (4, .int l4_2), (5, .int s5), (6, .int s7)])) (u0 ([.int l3_1])) 81 ?_ ?_
              · rintro ⟨⟩ h
                dsimp only [u0] at h ⊢
                refine g_iload_n X (j := 2) dX5_others_81 rfl ?_
                refine g_bipush (v := 9) X dX5_others_82 (by decide) ?_
                refine jn_g h (u0 ([(a0, .inr (5, [.ref a1, .ref b0_1, .ref b0_2, .int x0_kept, .ref b0_4, .int x0_typed, .int x0_thrown, .int x0_at, .int x0_isFault, .int x0_value, .ref b0_10, .int x0_tolds, .ref b0_12, .ref b0_13, .ref b0_14])), (a1, .inl (cI, 41, .inl f1))])) (u0 ([(0, .ref a0), (1, .int p1), (2, .int p2), (4, .int l4_2), (5, .int s5), (6, .int s7)])) (u0 ([.int l3_1])) 92 ?_ ?_
                · rintro ⟨⟩ h
                  dsimp only [u0] at h ⊢
                  refine g_iload_n X (j := 2) dX5_others_92 rfl ?_
                  refine g_bipush (v := 10) X dX5_others_93 (by decide) ?_
                  refine jn_g h (u0 ([(a0, .inr (5, [.ref a1, .ref b0_1, .ref b0_2, .int x0_kept, .ref b0_4, .int x0_typed, .int x0_thrown, .int x0_at, .int x0_isFault, .int x0_value, .ref b0_10, .int x0_tolds, .ref b0_12, .ref b0_13, .ref b0_14])), (a1, .inl (cI, 41, .inl f1))])) (u0 ([(0, .ref a0), (1, .int p1), (2, .int p2), (4, .int l4_2)])) (u0 ([.int l3_1])) 112 ?_ ?_
                  · rintro ⟨⟩ h
                    dsimp only [u0] at h ⊢
                    refine g_iconst (v := 0) X dX5_others_112 (by decide) ?_
                    exact hK10 0 h
                  · intro K14 hK14 h
                    refine g_icmp_ne (tgt := 112) X h dX5_others_95 (by decide) (fun h => ?_) (fun h => ?_)
                    · refine g_lv (lv' := [(0, .ref a0), (1, .int p1), (2, .int p2), (4, .int l4_2)]) [0, 1, 2, 3] rfl ?_
                      exact hK14 () h
                    · refine g_iload X (j := 4) dX5_others_98 rfl ?_
                      refine g_if_eq (tgt := 112) X h dX5_others_100 (by decide) (fun h => ?_) (fun h => ?_)
                      · refine g_lv (lv' := [(0, .ref a0), (1, .int p1), (2, .int p2), (4, .int l4_2)]) [0, 1, 2, 3] rfl ?_
                        exact hK14 () h
                      · refine g_iload X (j := 5) dX5_others_103 rfl ?_
                        refine g_if_eq (tgt := 112) X h dX5_others_105 (by decide) (fun h => ?_) (fun h => ?_)
                        · refine g_lv (lv' := [(0, .ref a0), (1, .int p1), (2, .int p2), (4, .int l4_2)]) [0, 1, 2, 3] rfl ?_
                          exact hK14 () h
                        · refine g_lv (lv' := [(0, .ref a0), (1, .int p1), (2, .int p2), (4, .int l4_2)]) [0, 1, 2, 3] rfl ?_
                          exact hK11 () h
                · intro K13 hK13 h
                  refine g_icmp_ne (tgt := 92) X h dX5_others_84 (by decide) (fun h => ?_) (fun h => ?_)
                  · exact hK13 () h
                  · refine g_iload X (j := 5) dX5_others_87 rfl ?_
                    refine g_if_ne (tgt := 108) X h dX5_others_89 (by decide) (fun h => ?_) (fun h => ?_)
                    · refine g_lv (lv' := [(0, .ref a0), (1, .int p1), (2, .int p2), (4, .int l4_2)]) [0, 1, 2, 3] rfl ?_
                      exact hK11 () h
                    · exact hK13 () h
              · intro K12 hK12 h
                refine g_icmp_ne (tgt := 81) X h dX5_others_73 (by decide) (fun h => ?_) (fun h => ?_)
                · refine g_lv (lv' := [(0, .ref a0), (1, .int p1), (2, .int p2), (4, .int l4_2), (5, .int s5), (6, .int s7)]) [1, 2, 3, 5, 6, 0] rfl ?_
                  exact hK12 () h
                · refine g_iload X (j := 6) dX5_others_76 rfl ?_
                  refine g_if_ne (tgt := 108) X h dX5_others_78 (by decide) (fun h => ?_) (fun h => ?_)
                  · refine g_lv (lv' := [(0, .ref a0), (1, .int p1), (2, .int p2), (4, .int l4_2)]) [1, 2, 3, 5] rfl ?_
                    exact hK11 () h
                  · refine g_lv (lv' := [(0, .ref a0), (1, .int p1), (2, .int p2), (4, .int l4_2), (5, .int s5), (6, .int s7)]) [1, 2, 3, 5, 6, 0] rfl ?_
                    exact hK12 () h
        · intro K8 hK8 h
          refine jn_g h (u0 ([(a0, .inr (5, [.ref a1, .ref b0_1, .ref b0_2, .int x0_kept, .ref b0_4, .int x0_typed, .int x0_thrown, .int x0_at, .int x0_isFault, .int x0_value, .ref b0_10, .int x0_tolds, .ref b0_12, .ref b0_13, .ref b0_14])), (a1, .inl (cI, 41, .inl f1))])) (u0 ([(0, .ref a0), (1, .int p1), (2, .int p2), (3, .int l3_1), (4, .int l4_2), (5, .int s5)])) (u0 ([])) 66 ?_ ?_
          · rintro ⟨⟩ h
            dsimp only [u0] at h ⊢
            refine g_iconst (v := 0) X dX5_others_66 (by decide) ?_
            exact hK8 0 h
          · intro K15 hK15 h
            refine g_icmp_eq (tgt := 66) X h dX5_others_46 (by decide) (fun h => ?_) (fun h => ?_)
            · refine g_lv (lv' := [(0, .ref a0), (1, .int p1), (2, .int p2), (3, .int l3_1), (4, .int l4_2), (5, .int s5)]) [1, 2, 3, 4, 5, 0] rfl ?_
              exact hK15 () h
            · refine g_aload_n X (j := 1) dX5_others_49 rfl ?_
              refine g_get (q0 := 0) (k := 0) (ci := 5) X in_X5_others_X5 fl_X5_others_7 rfl rfl (Nat.le_of_ble_eq_true rfl) rfl dX5_others_50 ?_
              refine g_iload_n X (j := 2) dX5_others_53 rfl ?_
              refine g_iload X (j := 5) dX5_others_54 rfl ?_
              obtain ⟨r16, hc, h⟩ := bd1 h
              refine g_callS (is := [1]) (As := [.ref a1, .int p1, .int l4_2]) (ws' := [(a0, .inr (5, [.ref a1, .ref b0_1, .ref b0_2, .int x0_kept, .ref b0_4, .int x0_typed, .int x0_thrown, .int x0_at, .int x0_isFault, .int x0_value, .ref b0_10, .int x0_tolds, .ref b0_12, .ref b0_13, .ref b0_14])), (a1, .inl (cI, 41, .inl f1))]) (st := []) X (c_X5_by l D cI cS cL a1 p1 l4_2 41 f1 r16 hc) gX5_others_X5_by rfl ⟨rfl, rfl⟩ hd_X5_by.2 ⟨Nat.le_of_ble_eq_true rfl, Nat.le_of_ble_eq_true rfl⟩ ⟨Nat.zero_le _, Nat.zero_le _⟩ rfl rfl rfl rfl rfl (Nat.le_of_ble_eq_true rfl) rfl dX5_others_56 ?_
              refine g_if_eq (tgt := 66) X h dX5_others_59 (by decide) (fun h => ?_) (fun h => ?_)
              · refine g_lv (lv' := [(0, .ref a0), (1, .int p1), (2, .int p2), (3, .int l3_1), (4, .int l4_2), (5, .int s5)]) [1, 2, 3, 4, 5, 0] rfl ?_
                exact hK15 () h
              · refine g_iconst (v := 1) X dX5_others_62 (by decide) ?_
                refine g_goto (tgt := 67) X dX5_others_63 (by decide) ?_
                refine g_lv (lv' := [(0, .ref a0), (1, .int p1), (2, .int p2), (3, .int l3_1), (4, .int l4_2), (5, .int s5)]) [1, 2, 3, 4, 5, 0] rfl ?_
                exact hK8 1 h
      · intro K6 hK6 h
        refine jn_g h (u0 ([(a0, .inr (5, [.ref a1, .ref b0_1, .ref b0_2, .int x0_kept, .ref b0_4, .int x0_typed, .int x0_thrown, .int x0_at, .int x0_isFault, .int x0_value, .ref b0_10, .int x0_tolds, .ref b0_12, .ref b0_13, .ref b0_14])), (a1, .inl (cI, 41, .inl f1))])) (u0 ([(0, .ref a0), (1, .int p1), (2, .int p2), (3, .int l3_1), (4, .int l4_2)])) (u0 ([])) 40 ?_ ?_
        · rintro ⟨⟩ h
          dsimp only [u0] at h ⊢
          refine g_iconst (v := 0) X dX5_others_40 (by decide) ?_
          exact hK6 0 h
        · intro K17 hK17 h
          refine g_icmp_eq (tgt := 40) X h dX5_others_20 (by decide) (fun h => ?_) (fun h => ?_)
          · exact hK17 () h
          · refine g_aload_n X (j := 0) dX5_others_23 rfl ?_
            refine g_get (q0 := 0) (k := 0) (ci := 5) X in_X5_others_X5 fl_X5_others_7 rfl rfl (Nat.le_of_ble_eq_true rfl) rfl dX5_others_24 ?_
            refine g_iload X (j := 4) dX5_others_27 rfl ?_
            refine g_iload_n X (j := 1) dX5_others_29 rfl ?_
            obtain ⟨r18, hc, h⟩ := bd1 h
            refine g_callS (is := [1]) (As := [.ref a1, .int l4_2, .int p1]) (ws' := [(a0, .inr (5, [.ref a1, .ref b0_1, .ref b0_2, .int x0_kept, .ref b0_4, .int x0_typed, .int x0_thrown, .int x0_at, .int x0_isFault, .int x0_value, .ref b0_10, .int x0_tolds, .ref b0_12, .ref b0_13, .ref b0_14])), (a1, .inl (cI, 41, .inl f1))]) (st := []) X (c_X5_by l D cI cS cL a1 l4_2 p1 41 f1 r18 hc) gX5_others_X5_by rfl ⟨rfl, rfl⟩ hd_X5_by.2 ⟨Nat.le_of_ble_eq_true rfl, Nat.le_of_ble_eq_true rfl⟩ ⟨Nat.zero_le _, Nat.zero_le _⟩ rfl rfl rfl rfl rfl (Nat.le_of_ble_eq_true rfl) rfl dX5_others_30 ?_
            refine g_if_eq (tgt := 40) X h dX5_others_33 (by decide) (fun h => ?_) (fun h => ?_)
            · exact hK17 () h
            · refine g_iconst (v := 1) X dX5_others_36 (by decide) ?_
              refine g_goto (tgt := 41) X dX5_others_37 (by decide) ?_
              exact hK6 1 h
def f_X5_ofBook (p1 : Int32) (p2 : Int32) (f1 : Nat → Int32) (f2 : Nat → Int32) (f3 : Nat → Int32) : Option (Int32 × (Nat → Int32) × (Nat → Int32)) := (if p2 ≤ 7 then (if 5 ≤ p2 then (f_X5_dates f2 f3 41 f1).bind (u2 fun (o2 : Nat → Int32) (o3 : Nat → Int32) => (jn (u1 fun (s4 : Int32) => some (s4, o2, o3)) (fun K5 => (if p2 = 7 then (f_X5_isDated p1 o3).bind (u1 fun (r7 : Int32) => (if r7 = 0 then K5 0 else K5 1)) else (rdA o3 20 ((((2 : Int32) * p1) + p2) - 5)).bind (fun v6 => K5 v6))))) else (jn (u1 fun (s8 : Int32) => some (s8, f2, f3)) (fun K9 => (if p2 = 4 then (f_X5_of p1 1 41 f1).bind (u1 fun (r11 : Int32) => (f_X5_ones r11).bind (u1 fun (r12 : Int32) => K9 r12)) else (f_X5_of p1 p2 41 f1).bind (u1 fun (r10 : Int32) => K9 r10))))) else (f_X5_others p1 p2 f1).bind (u1 fun (r13 : Int32) => some (r13, f2, f3)))
theorem in_X5_ofBook_X5 : ∀ w ∈ wsX50, w ∈ wsX5_ofBook := by decide +kernel
theorem fl_X5_ofBook_7 : Cond.fieldLink RX5 7 "ColophonHuntModel" "now" "[I" ∈ wsX5_ofBook := by decide +kernel
theorem fl_X5_ofBook_31 : Cond.fieldLink RX5 31 "ColophonHuntModel" "years" "[I" ∈ wsX5_ofBook := by decide +kernel
theorem hd_X5_ofBook : yX5_ofBook.cls = RX5 ∧ yX5_ofBook.cls ≠ "java/lang/invoke/MethodHandle" ∧ yX5_ofBook.cls ≠ "java/lang/invoke/VarHandle" ∧ (parseMethodDescriptor yX5_ofBook.desc).map (fun d => d.parameters.length) = some 2 := by decide +kernel
set_option maxRecDepth 100000 in
set_option maxHeartbeats 4000000 in
theorem c_X5_ofBook (l : Launch) (D : va_G) (cI cS cL : ClassId) (a0 : Nat) (a1 : Nat) (a2 : Nat) (a3 : Nat) (b0_1 : Nat) (b0_2 : Nat) (b0_4 : Nat) (b0_10 : Nat) (b0_13 : Nat) (p1 : Int32) (p2 : Int32) (x0_kept : Int32) (x0_typed : Int32) (x0_thrown : Int32) (x0_at : Int32) (x0_isFault : Int32) (x0_value : Int32) (x0_tolds : Int32) (f1 : Nat → Int32) (f2 : Nat → Int32) (f3 : Nat → Int32) (rr : Int32) (y0 : Nat → Int32) (y1 : Nat → Int32) (hc : f_X5_ofBook p1 p2 f1 f2 f3 = some (rr, y0, y1)) : KM l yX5_ofBook wsX5_ofBook { frames := 4, cells := 0, slots := 0, locals := 94 } D (tyS cI cS cL) [.ref a0, .int p1, .int p2] [(a0, .inr (5, [.ref a1, .ref b0_1, .ref b0_2, .int x0_kept, .ref b0_4, .int x0_typed, .int x0_thrown, .int x0_at, .int x0_isFault, .int x0_value, .ref b0_10, .int x0_tolds, .ref a2, .ref b0_13, .ref a3])), (a1, .inl (cI, 41, .inl f1)), (a2, .inl (cI, 10, .inl f2)), (a3, .inl (cI, 20, .inl f3))] (some (.int rr)) (fun w => w = [(a0, .inr (5, [.ref a1, .ref b0_1, .ref b0_2, .int x0_kept, .ref b0_4, .int x0_typed, .int x0_thrown, .int x0_at, .int x0_isFault, .int x0_value, .ref b0_10, .int x0_tolds, .ref a2, .ref b0_13, .ref a3])), (a1, .inl (cI, 41, .inl f1)), (a2, .inl (cI, 10, .inl y0)), (a3, .inl (cI, 20, .inl y1))]) 0 0 := by
  refine g_entry (cc := cX5_ofBook) (nL := 3) (rt := (some .int)) (by decide) rfl (Nat.le_of_ble_eq_true rfl) ?_
  intro p e s m args below meth c A (X : GC p s m args c cX5_ofBook 3 RX5 wsX5_ofBook D (tyS cI cS cL) A) hr hlk _ _
  have h := hc
  unfold f_X5_ofBook at h
  refine g_lv (lv' := [(0, .ref a0), (1, .int p1), (2, .int p2)]) [0, 1, 2] rfl ?_
  refine g_iload_n X (j := 2) dX5_ofBook_0 rfl ?_
  refine g_bipush (v := 7) X dX5_ofBook_1 (by decide) ?_
  refine g_icmp_le (tgt := 13) X h dX5_ofBook_3 (by decide) (fun h => ?_) (fun h => ?_)
  · refine g_iload_n X (j := 2) dX5_ofBook_13 rfl ?_
    refine g_iconst (v := 5) X dX5_ofBook_14 (by decide) ?_
    refine g_icmp_ge (tgt := 48) X h dX5_ofBook_15 (by decide) (fun h => ?_) (fun h => ?_)
    · refine g_aload_n X (j := 0) dX5_ofBook_48 rfl ?_
      refine g_aload_n X (j := 0) dX5_ofBook_49 rfl ?_
      refine g_get (q0 := 0) (k := 0) (ci := 5) X in_X5_ofBook_X5 fl_X5_ofBook_7 rfl rfl (Nat.le_of_ble_eq_true rfl) rfl dX5_ofBook_50 ?_
      obtain ⟨o2, o3, hc, h⟩ := bd2 h
      refine g_callV (q0 := 0) (ci := 5) (is := [0, 2, 3, 1]) (As := [.ref a1]) (ws' := [(a0, .inr (5, [.ref a1, .ref b0_1, .ref b0_2, .int x0_kept, .ref b0_4, .int x0_typed, .int x0_thrown, .int x0_at, .int x0_isFault, .int x0_value, .ref b0_10, .int x0_tolds, .ref a2, .ref b0_13, .ref a3])), (a1, .inl (cI, 41, .inl f1)), (a2, .inl (cI, 10, .inl o2)), (a3, .inl (cI, 20, .inl o3))]) (st := []) X (c_X5_dates l D cI cS cL a0 a2 a3 a1 a1 b0_1 b0_2 b0_4 b0_10 b0_13 x0_kept x0_typed x0_thrown x0_at x0_isFault x0_value x0_tolds f2 f3 41 f1 o2 o3 hc) gX5_ofBook_X5_dates rfl ⟨rfl, rfl⟩ hd_X5_dates ⟨Nat.le_of_ble_eq_true rfl, Nat.le_of_ble_eq_true rfl⟩ ⟨Nat.zero_le _, Nat.zero_le _⟩ rfl rfl rfl rfl rfl rfl rfl (Nat.le_of_ble_eq_true rfl) rfl dX5_ofBook_53 ?_
      refine g_iload_n X (j := 2) dX5_ofBook_56 rfl ?_
      refine g_bipush (v := 7) X dX5_ofBook_57 (by decide) ?_
      refine jn_g h (u1 fun s4 => [(a0, .inr (5, [.ref a1, .ref b0_1, .ref b0_2, .int x0_kept, .ref b0_4, .int x0_typed, .int x0_thrown, .int x0_at, .int x0_isFault, .int x0_value, .ref b0_10, .int x0_tolds, .ref a2, .ref b0_13, .ref a3])), (a1, .inl (cI, 41, .inl f1)), (a2, .inl (cI, 10, .inl o2)), (a3, .inl (cI, 20, .inl o3))]) (u1 fun s4 => []) (u1 fun s4 => [.int s4]) 90 ?_ ?_
      · rintro s4 h
        dsimp only [u1] at h ⊢
        have h := Option.some.inj h
        simp only [Prod.mk.injEq] at h
        obtain ⟨rfl, rfl, rfl⟩ := h
        exact g_iret X hr hlk dX5_ofBook_90 rfl rfl
      · intro K5 hK5 h
        refine g_icmp_ne (tgt := 78) X h dX5_ofBook_59 (by decide) (fun h => ?_) (fun h => ?_)
        · refine g_aload_n X (j := 0) dX5_ofBook_78 rfl ?_
          refine g_get (q0 := 0) (k := 14) (ci := 5) X in_X5_ofBook_X5 fl_X5_ofBook_31 rfl rfl (Nat.le_of_ble_eq_true rfl) rfl dX5_ofBook_79 ?_
          refine g_iconst (v := 2) X dX5_ofBook_82 (by decide) ?_
          refine g_iload_n X (j := 1) dX5_ofBook_83 rfl ?_
          refine g_imul X dX5_ofBook_84 ?_
          refine g_iload_n X (j := 2) dX5_ofBook_85 rfl ?_
          refine g_iadd X dX5_ofBook_86 ?_
          refine g_iconst (v := 5) X dX5_ofBook_87 (by decide) ?_
          refine g_isub X dX5_ofBook_88 ?_
          refine g_iald (q0 := 3) (t0 := 0) X h rfl rfl dX5_ofBook_89 (fun v6 h => ?_)
          refine g_lv (lv' := []) [] rfl ?_
          exact hK5 v6 h
        · refine g_aload_n X (j := 0) dX5_ofBook_62 rfl ?_
          refine g_iload_n X (j := 1) dX5_ofBook_63 rfl ?_
          obtain ⟨r7, hc, h⟩ := bd1 h
          refine g_callV (q0 := 0) (ci := 5) (is := [0, 3]) (As := [.int p1]) (ws' := [(a0, .inr (5, [.ref a1, .ref b0_1, .ref b0_2, .int x0_kept, .ref b0_4, .int x0_typed, .int x0_thrown, .int x0_at, .int x0_isFault, .int x0_value, .ref b0_10, .int x0_tolds, .ref a2, .ref b0_13, .ref a3])), (a1, .inl (cI, 41, .inl f1)), (a2, .inl (cI, 10, .inl o2)), (a3, .inl (cI, 20, .inl o3))]) (st := []) X (c_X5_isDated l D cI cS cL a0 a3 a1 b0_1 b0_2 b0_4 b0_10 a2 b0_13 p1 x0_kept x0_typed x0_thrown x0_at x0_isFault x0_value x0_tolds o3 r7 hc) gX5_ofBook_X5_isDated rfl ⟨rfl, rfl⟩ hd_X5_isDated ⟨Nat.le_of_ble_eq_true rfl, Nat.le_of_ble_eq_true rfl⟩ ⟨Nat.zero_le _, Nat.zero_le _⟩ rfl rfl rfl rfl rfl rfl rfl (Nat.le_of_ble_eq_true rfl) rfl dX5_ofBook_64 ?_
          refine g_if_eq (tgt := 74) X h dX5_ofBook_67 (by decide) (fun h => ?_) (fun h => ?_)
          · refine g_iconst (v := 0) X dX5_ofBook_74 (by decide) ?_
            refine g_goto (tgt := 90) X dX5_ofBook_75 (by decide) ?_
            refine g_lv (lv' := []) [] rfl ?_
            exact hK5 0 h
          · refine g_iconst (v := 1) X dX5_ofBook_70 (by decide) ?_
            refine g_goto (tgt := 90) X dX5_ofBook_71 (by decide) ?_
            refine g_lv (lv' := []) [] rfl ?_
            exact hK5 1 h
    · refine g_iload_n X (j := 2) dX5_ofBook_18 rfl ?_
      refine g_iconst (v := 4) X dX5_ofBook_19 (by decide) ?_
      refine jn_g h (u1 fun s8 => [(a0, .inr (5, [.ref a1, .ref b0_1, .ref b0_2, .int x0_kept, .ref b0_4, .int x0_typed, .int x0_thrown, .int x0_at, .int x0_isFault, .int x0_value, .ref b0_10, .int x0_tolds, .ref a2, .ref b0_13, .ref a3])), (a1, .inl (cI, 41, .inl f1)), (a2, .inl (cI, 10, .inl f2)), (a3, .inl (cI, 20, .inl f3))]) (u1 fun s8 => []) (u1 fun s8 => [.int s8]) 47 ?_ ?_
      · rintro s8 h
        dsimp only [u1] at h ⊢
        have h := Option.some.inj h
        simp only [Prod.mk.injEq] at h
        obtain ⟨rfl, rfl, rfl⟩ := h
        exact g_iret X hr hlk dX5_ofBook_47 rfl rfl
      · intro K9 hK9 h
        refine g_icmp_ne (tgt := 38) X h dX5_ofBook_20 (by decide) (fun h => ?_) (fun h => ?_)
        · refine g_aload_n X (j := 0) dX5_ofBook_38 rfl ?_
          refine g_get (q0 := 0) (k := 0) (ci := 5) X in_X5_ofBook_X5 fl_X5_ofBook_7 rfl rfl (Nat.le_of_ble_eq_true rfl) rfl dX5_ofBook_39 ?_
          refine g_iload_n X (j := 1) dX5_ofBook_42 rfl ?_
          refine g_iload_n X (j := 2) dX5_ofBook_43 rfl ?_
          obtain ⟨r10, hc, h⟩ := bd1 h
          refine g_callS (is := [1]) (As := [.ref a1, .int p1, .int p2]) (ws' := [(a0, .inr (5, [.ref a1, .ref b0_1, .ref b0_2, .int x0_kept, .ref b0_4, .int x0_typed, .int x0_thrown, .int x0_at, .int x0_isFault, .int x0_value, .ref b0_10, .int x0_tolds, .ref a2, .ref b0_13, .ref a3])), (a1, .inl (cI, 41, .inl f1)), (a2, .inl (cI, 10, .inl f2)), (a3, .inl (cI, 20, .inl f3))]) (st := []) X (c_X5_of l D cI cS cL a1 p1 p2 41 f1 r10 hc) gX5_ofBook_X5_of rfl ⟨rfl, rfl⟩ hd_X5_of.2 ⟨Nat.le_of_ble_eq_true rfl, Nat.le_of_ble_eq_true rfl⟩ ⟨Nat.zero_le _, Nat.zero_le _⟩ rfl rfl rfl rfl rfl (Nat.le_of_ble_eq_true rfl) rfl dX5_ofBook_44 ?_
          refine g_lv (lv' := []) [] rfl ?_
          exact hK9 r10 h
        · refine g_aload_n X (j := 0) dX5_ofBook_23 rfl ?_
          refine g_get (q0 := 0) (k := 0) (ci := 5) X in_X5_ofBook_X5 fl_X5_ofBook_7 rfl rfl (Nat.le_of_ble_eq_true rfl) rfl dX5_ofBook_24 ?_
          refine g_iload_n X (j := 1) dX5_ofBook_27 rfl ?_
          refine g_iconst (v := 1) X dX5_ofBook_28 (by decide) ?_
          obtain ⟨r11, hc, h⟩ := bd1 h
          refine g_callS (is := [1]) (As := [.ref a1, .int p1, .int 1]) (ws' := [(a0, .inr (5, [.ref a1, .ref b0_1, .ref b0_2, .int x0_kept, .ref b0_4, .int x0_typed, .int x0_thrown, .int x0_at, .int x0_isFault, .int x0_value, .ref b0_10, .int x0_tolds, .ref a2, .ref b0_13, .ref a3])), (a1, .inl (cI, 41, .inl f1)), (a2, .inl (cI, 10, .inl f2)), (a3, .inl (cI, 20, .inl f3))]) (st := []) X (c_X5_of l D cI cS cL a1 p1 1 41 f1 r11 hc) gX5_ofBook_X5_of rfl ⟨rfl, rfl⟩ hd_X5_of.2 ⟨Nat.le_of_ble_eq_true rfl, Nat.le_of_ble_eq_true rfl⟩ ⟨Nat.zero_le _, Nat.zero_le _⟩ rfl rfl rfl rfl rfl (Nat.le_of_ble_eq_true rfl) rfl dX5_ofBook_29 ?_
          obtain ⟨r12, hc, h⟩ := bd1 h
          refine g_callS (is := []) (As := [.int r11]) (ws' := [(a0, .inr (5, [.ref a1, .ref b0_1, .ref b0_2, .int x0_kept, .ref b0_4, .int x0_typed, .int x0_thrown, .int x0_at, .int x0_isFault, .int x0_value, .ref b0_10, .int x0_tolds, .ref a2, .ref b0_13, .ref a3])), (a1, .inl (cI, 41, .inl f1)), (a2, .inl (cI, 10, .inl f2)), (a3, .inl (cI, 20, .inl f3))]) (st := []) X (c_X5_ones l D cI cS cL r11 r12 hc) gX5_ofBook_X5_ones rfl ⟨rfl, rfl⟩ hd_X5_ones.2 ⟨Nat.le_of_ble_eq_true rfl, Nat.le_of_ble_eq_true rfl⟩ ⟨Nat.zero_le _, Nat.zero_le _⟩ rfl rfl rfl rfl rfl (Nat.le_of_ble_eq_true rfl) rfl dX5_ofBook_32 ?_
          refine g_goto (tgt := 47) X dX5_ofBook_35 (by decide) ?_
          refine g_lv (lv' := []) [] rfl ?_
          exact hK9 r12 h
  · refine g_aload_n X (j := 0) dX5_ofBook_6 rfl ?_
    refine g_iload_n X (j := 1) dX5_ofBook_7 rfl ?_
    refine g_iload_n X (j := 2) dX5_ofBook_8 rfl ?_
    obtain ⟨r13, hc, h⟩ := bd1 h
    refine g_callV (q0 := 0) (ci := 5) (is := [0, 1]) (As := [.int p1, .int p2]) (ws' := [(a0, .inr (5, [.ref a1, .ref b0_1, .ref b0_2, .int x0_kept, .ref b0_4, .int x0_typed, .int x0_thrown, .int x0_at, .int x0_isFault, .int x0_value, .ref b0_10, .int x0_tolds, .ref a2, .ref b0_13, .ref a3])), (a1, .inl (cI, 41, .inl f1)), (a2, .inl (cI, 10, .inl f2)), (a3, .inl (cI, 20, .inl f3))]) (st := []) X (c_X5_others l D cI cS cL a0 a1 b0_1 b0_2 b0_4 b0_10 a2 b0_13 a3 p1 p2 x0_kept x0_typed x0_thrown x0_at x0_isFault x0_value x0_tolds f1 r13 hc) gX5_ofBook_X5_others rfl ⟨rfl, rfl⟩ hd_X5_others ⟨Nat.le_of_ble_eq_true rfl, Nat.le_of_ble_eq_true rfl⟩ ⟨Nat.zero_le _, Nat.zero_le _⟩ rfl rfl rfl rfl rfl rfl rfl (Nat.le_of_ble_eq_true rfl) rfl dX5_ofBook_9 ?_
    have h := Option.some.inj h
    simp only [Prod.mk.injEq] at h
    obtain ⟨rfl, rfl, rfl⟩ := h
    exact g_iret X hr hlk dX5_ofBook_12 rfl rfl
def f_X5_bookOf (p1 : Int32) (p2 : Int32) (x0_thrown : Int32) (f1 : Nat → Int32) (f2 : Nat → Int32) (f3 : Nat → Int32) : Option (Int32 × Int32 × (Nat → Int32) × (Nat → Int32)) := (f_X5_isBook p1 f1).bind (u1 fun (r1 : Int32) => (if r1 = 0 then (f_X5_fails 1 0).bind (u2 fun (r13 : Int32) (o14 : Int32) => some (r13, o14, f2, f3)) else (f_X5_in p2 0 10).bind (u1 fun (r2 : Int32) => (jn (u4 fun (w3 : Int32) (w4 : Nat → Int32) (w5 : Nat → Int32) (s6 : Int32) => some (s6, w3, w4, w5)) (fun K7 => (if r2 = 0 then (f_X5_fails 2 0).bind (u2 fun (r8 : Int32) (o9 : Int32) => K7 (o9, f2, f3, r8)) else (f_X5_ofBook p1 p2 f1 f2 f3).bind (u3 fun (r10 : Int32) (o11 : Nat → Int32) (o12 : Nat → Int32) => K7 (0, o11, o12, r10))))))))
theorem in_X5_bookOf_X5 : ∀ w ∈ wsX50, w ∈ wsX5_bookOf := by decide +kernel
theorem fl_X5_bookOf_38 : Cond.fieldLink RX5 38 "ColophonHuntModel" "thrown" "I" ∈ wsX5_bookOf := by decide +kernel
theorem hd_X5_bookOf : yX5_bookOf.cls = RX5 ∧ yX5_bookOf.cls ≠ "java/lang/invoke/MethodHandle" ∧ yX5_bookOf.cls ≠ "java/lang/invoke/VarHandle" ∧ (parseMethodDescriptor yX5_bookOf.desc).map (fun d => d.parameters.length) = some 2 := by decide +kernel
set_option maxRecDepth 100000 in
set_option maxHeartbeats 4000000 in
theorem c_X5_bookOf (l : Launch) (D : va_G) (cI cS cL : ClassId) (a0 : Nat) (a1 : Nat) (a2 : Nat) (a3 : Nat) (b0_1 : Nat) (b0_2 : Nat) (b0_4 : Nat) (b0_10 : Nat) (b0_13 : Nat) (p1 : Int32) (p2 : Int32) (x0_kept : Int32) (x0_typed : Int32) (x0_thrown : Int32) (x0_at : Int32) (x0_isFault : Int32) (x0_value : Int32) (x0_tolds : Int32) (f1 : Nat → Int32) (f2 : Nat → Int32) (f3 : Nat → Int32) (rr : Int32) (y0 : Int32) (y1 : Nat → Int32) (y2 : Nat → Int32) (hc : f_X5_bookOf p1 p2 x0_thrown f1 f2 f3 = some (rr, y0, y1, y2)) : KM l yX5_bookOf wsX5_bookOf { frames := 5, cells := 0, slots := 0, locals := 116 } D (tyS cI cS cL) [.ref a0, .int p1, .int p2] [(a0, .inr (5, [.ref a1, .ref b0_1, .ref b0_2, .int x0_kept, .ref b0_4, .int x0_typed, .int x0_thrown, .int x0_at, .int x0_isFault, .int x0_value, .ref b0_10, .int x0_tolds, .ref a2, .ref b0_13, .ref a3])), (a1, .inl (cI, 41, .inl f1)), (a2, .inl (cI, 10, .inl f2)), (a3, .inl (cI, 20, .inl f3))] (some (.int rr)) (fun w => w = [(a0, .inr (5, [.ref a1, .ref b0_1, .ref b0_2, .int x0_kept, .ref b0_4, .int x0_typed, .int y0, .int x0_at, .int x0_isFault, .int x0_value, .ref b0_10, .int x0_tolds, .ref a2, .ref b0_13, .ref a3])), (a1, .inl (cI, 41, .inl f1)), (a2, .inl (cI, 10, .inl y1)), (a3, .inl (cI, 20, .inl y2))]) 0 0 := by
  refine g_entry (cc := cX5_bookOf) (nL := 3) (rt := (some .int)) (by decide) rfl (Nat.le_of_ble_eq_true rfl) ?_
  intro p e s m args below meth c A (X : GC p s m args c cX5_bookOf 3 RX5 wsX5_bookOf D (tyS cI cS cL) A) hr hlk _ _
  have h := hc
  unfold f_X5_bookOf at h
  refine g_lv (lv' := [(0, .ref a0), (1, .int p1), (2, .int p2)]) [0, 1, 2] rfl ?_
  refine g_aload_n X (j := 0) dX5_bookOf_0 rfl ?_
  refine g_iconst (v := 0) X dX5_bookOf_1 (by decide) ?_
  refine g_put (q0 := 0) (k := 6) (ci := 5) (ws' := [(a0, .inr (5, [.ref a1, .ref b0_1, .ref b0_2, .int x0_kept, .ref b0_4, .int x0_typed, .int 0, .int x0_at, .int x0_isFault, .int x0_value, .ref b0_10, .int x0_tolds, .ref a2, .ref b0_13, .ref a3])), (a1, .inl (cI, 41, .inl f1)), (a2, .inl (cI, 10, .inl f2)), (a3, .inl (cI, 20, .inl f3))]) X tyX5_ok nmX5 in_X5_bookOf_X5 fl_X5_bookOf_38 rfl rfl (Nat.le_of_ble_eq_true rfl) rfl rfl rfl (Nat.le_of_ble_eq_true rfl) dX5_bookOf_2 rfl ?_
  refine g_aload_n X (j := 0) dX5_bookOf_5 rfl ?_
  refine g_iload_n X (j := 1) dX5_bookOf_6 rfl ?_
  obtain ⟨r1, hc, h⟩ := bd1 h
  refine g_callV (q0 := 0) (ci := 5) (is := [0, 1]) (As := [.int p1]) (ws' := [(a0, .inr (5, [.ref a1, .ref b0_1, .ref b0_2, .int x0_kept, .ref b0_4, .int x0_typed, .int 0, .int x0_at, .int x0_isFault, .int x0_value, .ref b0_10, .int x0_tolds, .ref a2, .ref b0_13, .ref a3])), (a1, .inl (cI, 41, .inl f1)), (a2, .inl (cI, 10, .inl f2)), (a3, .inl (cI, 20, .inl f3))]) (st := []) X (c_X5_isBook l D cI cS cL a0 a1 b0_1 b0_2 b0_4 b0_10 a2 b0_13 a3 p1 x0_kept x0_typed 0 x0_at x0_isFault x0_value x0_tolds f1 r1 hc) gX5_bookOf_X5_isBook rfl ⟨rfl, rfl⟩ hd_X5_isBook ⟨Nat.le_of_ble_eq_true rfl, Nat.le_of_ble_eq_true rfl⟩ ⟨Nat.zero_le _, Nat.zero_le _⟩ rfl rfl rfl rfl rfl rfl rfl (Nat.le_of_ble_eq_true rfl) rfl dX5_bookOf_7 ?_
  refine g_if_ne (tgt := 19) X h dX5_bookOf_10 (by decide) (fun h => ?_) (fun h => ?_)
  · refine g_iload_n X (j := 2) dX5_bookOf_19 rfl ?_
    refine g_iconst (v := 0) X dX5_bookOf_20 (by decide) ?_
    refine g_bipush (v := 10) X dX5_bookOf_21 (by decide) ?_
    obtain ⟨r2, hc, h⟩ := bd1 h
    refine g_callS (is := []) (As := [.int p2, .int 0, .int 10]) (ws' := [(a0, .inr (5, [.ref a1, .ref b0_1, .ref b0_2, .int x0_kept, .ref b0_4, .int x0_typed, .int 0, .int x0_at, .int x0_isFault, .int x0_value, .ref b0_10, .int x0_tolds, .ref a2, .ref b0_13, .ref a3])), (a1, .inl (cI, 41, .inl f1)), (a2, .inl (cI, 10, .inl f2)), (a3, .inl (cI, 20, .inl f3))]) (st := []) X (c_X5_in l D cI cS cL p2 0 10 r2 hc) gX5_bookOf_X5_in rfl ⟨rfl, rfl⟩ hd_X5_in.2 ⟨Nat.le_of_ble_eq_true rfl, Nat.le_of_ble_eq_true rfl⟩ ⟨Nat.zero_le _, Nat.zero_le _⟩ rfl rfl rfl rfl rfl (Nat.le_of_ble_eq_true rfl) rfl dX5_bookOf_23 ?_
    refine jn_g h (u4 fun w3 w4 w5 s6 => [(a0, .inr (5, [.ref a1, .ref b0_1, .ref b0_2, .int x0_kept, .ref b0_4, .int x0_typed, .int w3, .int x0_at, .int x0_isFault, .int x0_value, .ref b0_10, .int x0_tolds, .ref a2, .ref b0_13, .ref a3])), (a1, .inl (cI, 41, .inl f1)), (a2, .inl (cI, 10, .inl w4)), (a3, .inl (cI, 20, .inl w5))]) (u4 fun w3 w4 w5 s6 => []) (u4 fun w3 w4 w5 s6 => [.int s6]) 43 ?_ ?_
    · rintro ⟨w3, w4, w5, s6⟩ h
      dsimp only [u4] at h ⊢
      have h := Option.some.inj h
      simp only [Prod.mk.injEq] at h
      obtain ⟨rfl, rfl, rfl, rfl⟩ := h
      exact g_iret X hr hlk dX5_bookOf_43 rfl rfl
    · intro K7 hK7 h
      refine g_if_eq (tgt := 38) X h dX5_bookOf_26 (by decide) (fun h => ?_) (fun h => ?_)
      · refine g_aload_n X (j := 0) dX5_bookOf_38 rfl ?_
        refine g_iconst (v := 2) X dX5_bookOf_39 (by decide) ?_
        obtain ⟨r8, o9, hc, h⟩ := bd2 h
        refine g_callV (q0 := 0) (ci := 5) (is := [0]) (As := [.int 2]) (ws' := [(a0, .inr (5, [.ref a1, .ref b0_1, .ref b0_2, .int x0_kept, .ref b0_4, .int x0_typed, .int o9, .int x0_at, .int x0_isFault, .int x0_value, .ref b0_10, .int x0_tolds, .ref a2, .ref b0_13, .ref a3])), (a1, .inl (cI, 41, .inl f1)), (a2, .inl (cI, 10, .inl f2)), (a3, .inl (cI, 20, .inl f3))]) (st := []) X (c_X5_fails l D cI cS cL a0 a1 b0_1 b0_2 b0_4 b0_10 a2 b0_13 a3 2 x0_kept x0_typed 0 x0_at x0_isFault x0_value x0_tolds r8 o9 hc) gX5_bookOf_X5_fails rfl ⟨rfl, rfl⟩ hd_X5_fails ⟨Nat.le_of_ble_eq_true rfl, Nat.le_of_ble_eq_true rfl⟩ ⟨Nat.zero_le _, Nat.zero_le _⟩ rfl rfl rfl rfl rfl rfl rfl (Nat.le_of_ble_eq_true rfl) rfl dX5_bookOf_40 ?_
        refine g_lv (lv' := []) [] rfl ?_
        exact hK7 (o9, f2, f3, r8) h
      · refine g_aload_n X (j := 0) dX5_bookOf_29 rfl ?_
        refine g_iload_n X (j := 1) dX5_bookOf_30 rfl ?_
        refine g_iload_n X (j := 2) dX5_bookOf_31 rfl ?_
        obtain ⟨r10, o11, o12, hc, h⟩ := bd3 h
        refine g_callV (q0 := 0) (ci := 5) (is := [0, 1, 2, 3]) (As := [.int p1, .int p2]) (ws' := [(a0, .inr (5, [.ref a1, .ref b0_1, .ref b0_2, .int x0_kept, .ref b0_4, .int x0_typed, .int 0, .int x0_at, .int x0_isFault, .int x0_value, .ref b0_10, .int x0_tolds, .ref a2, .ref b0_13, .ref a3])), (a1, .inl (cI, 41, .inl f1)), (a2, .inl (cI, 10, .inl o11)), (a3, .inl (cI, 20, .inl o12))]) (st := []) X (c_X5_ofBook l D cI cS cL a0 a1 a2 a3 b0_1 b0_2 b0_4 b0_10 b0_13 p1 p2 x0_kept x0_typed 0 x0_at x0_isFault x0_value x0_tolds f1 f2 f3 r10 o11 o12 hc) gX5_bookOf_X5_ofBook rfl ⟨rfl, rfl⟩ hd_X5_ofBook ⟨Nat.le_of_ble_eq_true rfl, Nat.le_of_ble_eq_true rfl⟩ ⟨Nat.zero_le _, Nat.zero_le _⟩ rfl rfl rfl rfl rfl rfl rfl (Nat.le_of_ble_eq_true rfl) rfl dX5_bookOf_32 ?_
        refine g_goto (tgt := 43) X dX5_bookOf_35 (by decide) ?_
        refine g_lv (lv' := []) [] rfl ?_
        exact hK7 (0, o11, o12, r10) h
  · refine g_aload_n X (j := 0) dX5_bookOf_13 rfl ?_
    refine g_iconst (v := 1) X dX5_bookOf_14 (by decide) ?_
    obtain ⟨r13, o14, hc, h⟩ := bd2 h
    refine g_callV (q0 := 0) (ci := 5) (is := [0]) (As := [.int 1]) (ws' := [(a0, .inr (5, [.ref a1, .ref b0_1, .ref b0_2, .int x0_kept, .ref b0_4, .int x0_typed, .int o14, .int x0_at, .int x0_isFault, .int x0_value, .ref b0_10, .int x0_tolds, .ref a2, .ref b0_13, .ref a3])), (a1, .inl (cI, 41, .inl f1)), (a2, .inl (cI, 10, .inl f2)), (a3, .inl (cI, 20, .inl f3))]) (st := []) X (c_X5_fails l D cI cS cL a0 a1 b0_1 b0_2 b0_4 b0_10 a2 b0_13 a3 1 x0_kept x0_typed 0 x0_at x0_isFault x0_value x0_tolds r13 o14 hc) gX5_bookOf_X5_fails rfl ⟨rfl, rfl⟩ hd_X5_fails ⟨Nat.le_of_ble_eq_true rfl, Nat.le_of_ble_eq_true rfl⟩ ⟨Nat.zero_le _, Nat.zero_le _⟩ rfl rfl rfl rfl rfl rfl rfl (Nat.le_of_ble_eq_true rfl) rfl dX5_bookOf_15 ?_
    have h := Option.some.inj h
    simp only [Prod.mk.injEq] at h
    obtain ⟨rfl, rfl, rfl, rfl⟩ := h
    exact g_iret X hr hlk dX5_bookOf_18 rfl rfl
