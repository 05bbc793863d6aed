set_option maxRecDepth 20000 in
theorem ggX5_isToldMould_X5_isAt : GoodIn wsX5_isToldMould wsX5_isAt := goodIn_r _ [9, 1, 10, 2, 11, 12, 8, 13, 19, 20, 21, 22, 23, 24, 25, 26, 27, 28, 29, 30, 31, 32, 33] (by decide +kernel) (by decide +kernel)
set_option maxRecDepth 20000 in
theorem gX5_isToldMould_X5_isAt : GoodIn wsX5_isToldMould (wsV RX5 115 RX5 yX5_isAt wsX5_isAt) := goodIn_app (goodIn_of _ (by decide +kernel)) ggX5_isToldMould_X5_isAt
set_option maxRecDepth 20000 in
theorem ggX5_isToldMould_X5_stops : GoodIn wsX5_isToldMould wsX5_stops := goodIn_r _ [17, 1, 10, 18, 19, 20, 21, 22, 23, 24, 25, 26, 27, 28, 29, 30, 31, 32, 33] (by decide +kernel) (by decide +kernel)
set_option maxRecDepth 20000 in
theorem gX5_isToldMould_X5_stops : GoodIn wsX5_isToldMould (wsV RX5 118 RX5 yX5_stops wsX5_stops) := goodIn_app (goodIn_of _ (by decide +kernel)) ggX5_isToldMould_X5_stops
theorem dX5_isToldMould_0 : decode cX5_isToldMould 0 = .ok (.aload_n 0, 1) := by decide +kernel
theorem dX5_isToldMould_1 : decode cX5_isToldMould 1 = .ok (.dup, 1) := by decide +kernel
theorem dX5_isToldMould_2 : decode cX5_isToldMould 2 = .ok (.getfield 108, 3) := by decide +kernel
theorem dX5_isToldMould_5 : decode cX5_isToldMould 5 = .ok (.iconst 1, 1) := by decide +kernel
theorem dX5_isToldMould_6 : decode cX5_isToldMould 6 = .ok (.iadd, 1) := by decide +kernel
theorem dX5_isToldMould_7 : decode cX5_isToldMould 7 = .ok (.putfield 108, 3) := by decide +kernel
theorem dX5_isToldMould_10 : decode cX5_isToldMould 10 = .ok (.aload_n 0, 1) := by decide +kernel
theorem dX5_isToldMould_11 : decode cX5_isToldMould 11 = .ok (.bipush 48, 2) := by decide +kernel
theorem dX5_isToldMould_13 : decode cX5_isToldMould 13 = .ok (.bipush 57, 2) := by decide +kernel
theorem dX5_isToldMould_15 : decode cX5_isToldMould 15 = .ok (.invokevirtual 115, 3) := by decide +kernel
theorem dX5_isToldMould_18 : decode cX5_isToldMould 18 = .ok (.ifCond .ne 8, 3) := by decide +kernel
theorem dX5_isToldMould_21 : decode cX5_isToldMould 21 = .ok (.aload_n 0, 1) := by decide +kernel
theorem dX5_isToldMould_22 : decode cX5_isToldMould 22 = .ok (.invokevirtual 118, 3) := by decide +kernel
theorem dX5_isToldMould_25 : decode cX5_isToldMould 25 = .ok (.ireturn, 1) := by decide +kernel
theorem dX5_isToldMould_26 : decode cX5_isToldMould 26 = .ok (.aload_n 0, 1) := by decide +kernel
theorem dX5_isToldMould_27 : decode cX5_isToldMould 27 = .ok (.aload_n 0, 1) := by decide +kernel
theorem dX5_isToldMould_28 : decode cX5_isToldMould 28 = .ok (.getfield 19, 3) := by decide +kernel
theorem dX5_isToldMould_31 : decode cX5_isToldMould 31 = .ok (.aload_n 0, 1) := by decide +kernel
theorem dX5_isToldMould_32 : decode cX5_isToldMould 32 = .ok (.getfield 108, 3) := by decide +kernel
theorem dX5_isToldMould_35 : decode cX5_isToldMould 35 = .ok (.iaload, 1) := by decide +kernel
theorem dX5_isToldMould_36 : decode cX5_isToldMould 36 = .ok (.bipush 48, 2) := by decide +kernel
theorem dX5_isToldMould_38 : decode cX5_isToldMould 38 = .ok (.isub, 1) := by decide +kernel
theorem dX5_isToldMould_39 : decode cX5_isToldMould 39 = .ok (.putfield 122, 3) := by decide +kernel
theorem dX5_isToldMould_42 : decode cX5_isToldMould 42 = .ok (.aload_n 0, 1) := by decide +kernel
theorem dX5_isToldMould_43 : decode cX5_isToldMould 43 = .ok (.dup, 1) := by decide +kernel
theorem dX5_isToldMould_44 : decode cX5_isToldMould 44 = .ok (.getfield 108, 3) := by decide +kernel
theorem dX5_isToldMould_47 : decode cX5_isToldMould 47 = .ok (.iconst 1, 1) := by decide +kernel
theorem dX5_isToldMould_48 : decode cX5_isToldMould 48 = .ok (.iadd, 1) := by decide +kernel
theorem dX5_isToldMould_49 : decode cX5_isToldMould 49 = .ok (.putfield 108, 3) := by decide +kernel
theorem dX5_isToldMould_52 : decode cX5_isToldMould 52 = .ok (.aload_n 0, 1) := by decide +kernel
theorem dX5_isToldMould_53 : decode cX5_isToldMould 53 = .ok (.getfield 122, 3) := by decide +kernel
theorem dX5_isToldMould_56 : decode cX5_isToldMould 56 = .ok (.ifCond .le 48, 3) := by decide +kernel
theorem dX5_isToldMould_59 : decode cX5_isToldMould 59 = .ok (.aload_n 0, 1) := by decide +kernel
theorem dX5_isToldMould_60 : decode cX5_isToldMould 60 = .ok (.bipush 48, 2) := by decide +kernel
theorem dX5_isToldMould_62 : decode cX5_isToldMould 62 = .ok (.bipush 57, 2) := by decide +kernel
theorem dX5_isToldMould_64 : decode cX5_isToldMould 64 = .ok (.invokevirtual 115, 3) := by decide +kernel
theorem dX5_isToldMould_67 : decode cX5_isToldMould 67 = .ok (.ifCond .eq 37, 3) := by decide +kernel
theorem dX5_isToldMould_70 : decode cX5_isToldMould 70 = .ok (.aload_n 0, 1) := by decide +kernel
theorem dX5_isToldMould_71 : decode cX5_isToldMould 71 = .ok (.bipush 10, 2) := by decide +kernel
theorem dX5_isToldMould_73 : decode cX5_isToldMould 73 = .ok (.aload_n 0, 1) := by decide +kernel
theorem dX5_isToldMould_74 : decode cX5_isToldMould 74 = .ok (.getfield 122, 3) := by decide +kernel
theorem dX5_isToldMould_77 : decode cX5_isToldMould 77 = .ok (.imul, 1) := by decide +kernel
theorem dX5_isToldMould_78 : decode cX5_isToldMould 78 = .ok (.aload_n 0, 1) := by decide +kernel
theorem dX5_isToldMould_79 : decode cX5_isToldMould 79 = .ok (.getfield 19, 3) := by decide +kernel
theorem dX5_isToldMould_82 : decode cX5_isToldMould 82 = .ok (.aload_n 0, 1) := by decide +kernel
theorem dX5_isToldMould_83 : decode cX5_isToldMould 83 = .ok (.getfield 108, 3) := by decide +kernel
theorem dX5_isToldMould_86 : decode cX5_isToldMould 86 = .ok (.iaload, 1) := by decide +kernel
theorem dX5_isToldMould_87 : decode cX5_isToldMould 87 = .ok (.iadd, 1) := by decide +kernel
theorem dX5_isToldMould_88 : decode cX5_isToldMould 88 = .ok (.bipush 48, 2) := by decide +kernel
theorem dX5_isToldMould_90 : decode cX5_isToldMould 90 = .ok (.isub, 1) := by decide +kernel
theorem dX5_isToldMould_91 : decode cX5_isToldMould 91 = .ok (.putfield 122, 3) := by decide +kernel
theorem dX5_isToldMould_94 : decode cX5_isToldMould 94 = .ok (.aload_n 0, 1) := by decide +kernel
theorem dX5_isToldMould_95 : decode cX5_isToldMould 95 = .ok (.dup, 1) := by decide +kernel
theorem dX5_isToldMould_96 : decode cX5_isToldMould 96 = .ok (.getfield 108, 3) := by decide +kernel
theorem dX5_isToldMould_99 : decode cX5_isToldMould 99 = .ok (.iconst 1, 1) := by decide +kernel
theorem dX5_isToldMould_100 : decode cX5_isToldMould 100 = .ok (.iadd, 1) := by decide +kernel
theorem dX5_isToldMould_101 : decode cX5_isToldMould 101 = .ok (.putfield 108, 3) := by decide +kernel
theorem dX5_isToldMould_104 : decode cX5_isToldMould 104 = .ok (.aload_n 0, 1) := by decide +kernel
theorem dX5_isToldMould_105 : decode cX5_isToldMould 105 = .ok (.getfield 22, 3) := by decide +kernel
theorem dX5_isToldMould_108 : decode cX5_isToldMould 108 = .ok (.iload_n 1, 1) := by decide +kernel
theorem dX5_isToldMould_109 : decode cX5_isToldMould 109 = .ok (.iconst 2, 1) := by decide +kernel
theorem dX5_isToldMould_110 : decode cX5_isToldMould 110 = .ok (.iadd, 1) := by decide +kernel
theorem dX5_isToldMould_111 : decode cX5_isToldMould 111 = .ok (.aload_n 0, 1) := by decide +kernel
theorem dX5_isToldMould_112 : decode cX5_isToldMould 112 = .ok (.getfield 122, 3) := by decide +kernel
theorem dX5_isToldMould_115 : decode cX5_isToldMould 115 = .ok (.iastore, 1) := by decide +kernel
theorem dX5_isToldMould_116 : decode cX5_isToldMould 116 = .ok (.iconst 1, 1) := by decide +kernel
theorem dX5_isToldMould_117 : decode cX5_isToldMould 117 = .ok (.ireturn, 1) := by decide +kernel
set_option maxRecDepth 20000 in
theorem ggX5_isToldYear_X5_isAt : GoodIn wsX5_isToldYear wsX5_isAt := goodIn_r _ [9, 1, 10, 3, 11, 12, 8, 13, 19, 20, 21, 22, 23, 24, 25, 26, 27, 28, 29, 30, 31, 32, 33] (by decide +kernel) (by decide +kernel)
set_option maxRecDepth 20000 in
theorem gX5_isToldYear_X5_isAt : GoodIn wsX5_isToldYear (wsV RX5 115 RX5 yX5_isAt wsX5_isAt) := goodIn_app (goodIn_of _ (by decide +kernel)) ggX5_isToldYear_X5_isAt
set_option maxRecDepth 20000 in
theorem ggX5_isToldYear_X5_stops : GoodIn wsX5_isToldYear wsX5_stops := goodIn_r _ [17, 1, 10, 18, 19, 20, 21, 22, 23, 24, 25, 26, 27, 28, 29, 30, 31, 32, 33] (by decide +kernel) (by decide +kernel)
set_option maxRecDepth 20000 in
theorem gX5_isToldYear_X5_stops : GoodIn wsX5_isToldYear (wsV RX5 118 RX5 yX5_stops wsX5_stops) := goodIn_app (goodIn_of _ (by decide +kernel)) ggX5_isToldYear_X5_stops
theorem dX5_isToldYear_0 : decode cX5_isToldYear 0 = .ok (.aload_n 0, 1) := by decide +kernel
theorem dX5_isToldYear_1 : decode cX5_isToldYear 1 = .ok (.dup, 1) := by decide +kernel
theorem dX5_isToldYear_2 : decode cX5_isToldYear 2 = .ok (.getfield 108, 3) := by decide +kernel
theorem dX5_isToldYear_5 : decode cX5_isToldYear 5 = .ok (.iconst 1, 1) := by decide +kernel
theorem dX5_isToldYear_6 : decode cX5_isToldYear 6 = .ok (.iadd, 1) := by decide +kernel
theorem dX5_isToldYear_7 : decode cX5_isToldYear 7 = .ok (.putfield 108, 3) := by decide +kernel
theorem dX5_isToldYear_10 : decode cX5_isToldYear 10 = .ok (.aload_n 0, 1) := by decide +kernel
theorem dX5_isToldYear_11 : decode cX5_isToldYear 11 = .ok (.iconst 0, 1) := by decide +kernel
theorem dX5_isToldYear_12 : decode cX5_isToldYear 12 = .ok (.putfield 122, 3) := by decide +kernel
theorem dX5_isToldYear_15 : decode cX5_isToldYear 15 = .ok (.iconst 0, 1) := by decide +kernel
theorem dX5_isToldYear_16 : decode cX5_isToldYear 16 = .ok (.istore_n 2, 1) := by decide +kernel
theorem dX5_isToldYear_17 : decode cX5_isToldYear 17 = .ok (.iload_n 2, 1) := by decide +kernel
theorem dX5_isToldYear_18 : decode cX5_isToldYear 18 = .ok (.iconst 4, 1) := by decide +kernel
theorem dX5_isToldYear_19 : decode cX5_isToldYear 19 = .ok (.if_icmp .ge 108, 3) := by decide +kernel
theorem dX5_isToldYear_22 : decode cX5_isToldYear 22 = .ok (.iload_n 2, 1) := by decide +kernel
theorem dX5_isToldYear_23 : decode cX5_isToldYear 23 = .ok (.ifCond .ne 8, 3) := by decide +kernel
theorem dX5_isToldYear_26 : decode cX5_isToldYear 26 = .ok (.bipush 49, 2) := by decide +kernel
theorem dX5_isToldYear_28 : decode cX5_isToldYear 28 = .ok (.goto 34, 3) := by decide +kernel
theorem dX5_isToldYear_31 : decode cX5_isToldYear 31 = .ok (.iload_n 2, 1) := by decide +kernel
theorem dX5_isToldYear_32 : decode cX5_isToldYear 32 = .ok (.iconst 1, 1) := by decide +kernel
theorem dX5_isToldYear_33 : decode cX5_isToldYear 33 = .ok (.if_icmp .ne 8, 3) := by decide +kernel
theorem dX5_isToldYear_36 : decode cX5_isToldYear 36 = .ok (.bipush 52, 2) := by decide +kernel
theorem dX5_isToldYear_38 : decode cX5_isToldYear 38 = .ok (.goto 24, 3) := by decide +kernel
theorem dX5_isToldYear_41 : decode cX5_isToldYear 41 = .ok (.iload_n 2, 1) := by decide +kernel
theorem dX5_isToldYear_42 : decode cX5_isToldYear 42 = .ok (.iconst 2, 1) := by decide +kernel
theorem dX5_isToldYear_43 : decode cX5_isToldYear 43 = .ok (.if_icmp .ne 17, 3) := by decide +kernel
theorem dX5_isToldYear_46 : decode cX5_isToldYear 46 = .ok (.aload_n 0, 1) := by decide +kernel
theorem dX5_isToldYear_47 : decode cX5_isToldYear 47 = .ok (.getfield 122, 3) := by decide +kernel
theorem dX5_isToldYear_50 : decode cX5_isToldYear 50 = .ok (.bipush 14, 2) := by decide +kernel
theorem dX5_isToldYear_52 : decode cX5_isToldYear 52 = .ok (.if_icmp .ne 8, 3) := by decide +kernel
theorem dX5_isToldYear_55 : decode cX5_isToldYear 55 = .ok (.bipush 53, 2) := by decide +kernel
theorem dX5_isToldYear_57 : decode cX5_isToldYear 57 = .ok (.goto 5, 3) := by decide +kernel
theorem dX5_isToldYear_60 : decode cX5_isToldYear 60 = .ok (.bipush 48, 2) := by decide +kernel
theorem dX5_isToldYear_62 : decode cX5_isToldYear 62 = .ok (.istore_n 3, 1) := by decide +kernel
theorem dX5_isToldYear_63 : decode cX5_isToldYear 63 = .ok (.aload_n 0, 1) := by decide +kernel
theorem dX5_isToldYear_64 : decode cX5_isToldYear 64 = .ok (.iload_n 3, 1) := by decide +kernel
theorem dX5_isToldYear_65 : decode cX5_isToldYear 65 = .ok (.iload_n 2, 1) := by decide +kernel
theorem dX5_isToldYear_66 : decode cX5_isToldYear 66 = .ok (.ifCond .ne 8, 3) := by decide +kernel
theorem dX5_isToldYear_69 : decode cX5_isToldYear 69 = .ok (.bipush 49, 2) := by decide +kernel
theorem dX5_isToldYear_71 : decode cX5_isToldYear 71 = .ok (.goto 5, 3) := by decide +kernel
theorem dX5_isToldYear_74 : decode cX5_isToldYear 74 = .ok (.bipush 57, 2) := by decide +kernel
theorem dX5_isToldYear_76 : decode cX5_isToldYear 76 = .ok (.invokevirtual 115, 3) := by decide +kernel
theorem dX5_isToldYear_79 : decode cX5_isToldYear 79 = .ok (.ifCond .ne 8, 3) := by decide +kernel
theorem dX5_isToldYear_82 : decode cX5_isToldYear 82 = .ok (.aload_n 0, 1) := by decide +kernel
theorem dX5_isToldYear_83 : decode cX5_isToldYear 83 = .ok (.invokevirtual 118, 3) := by decide +kernel
theorem dX5_isToldYear_86 : decode cX5_isToldYear 86 = .ok (.ireturn, 1) := by decide +kernel
theorem dX5_isToldYear_87 : decode cX5_isToldYear 87 = .ok (.aload_n 0, 1) := by decide +kernel
theorem dX5_isToldYear_88 : decode cX5_isToldYear 88 = .ok (.bipush 10, 2) := by decide +kernel
theorem dX5_isToldYear_90 : decode cX5_isToldYear 90 = .ok (.aload_n 0, 1) := by decide +kernel
theorem dX5_isToldYear_91 : decode cX5_isToldYear 91 = .ok (.getfield 122, 3) := by decide +kernel
theorem dX5_isToldYear_94 : decode cX5_isToldYear 94 = .ok (.imul, 1) := by decide +kernel
theorem dX5_isToldYear_95 : decode cX5_isToldYear 95 = .ok (.aload_n 0, 1) := by decide +kernel
theorem dX5_isToldYear_96 : decode cX5_isToldYear 96 = .ok (.getfield 19, 3) := by decide +kernel
theorem dX5_isToldYear_99 : decode cX5_isToldYear 99 = .ok (.aload_n 0, 1) := by decide +kernel
theorem dX5_isToldYear_100 : decode cX5_isToldYear 100 = .ok (.getfield 108, 3) := by decide +kernel
theorem dX5_isToldYear_103 : decode cX5_isToldYear 103 = .ok (.iaload, 1) := by decide +kernel
theorem dX5_isToldYear_104 : decode cX5_isToldYear 104 = .ok (.iadd, 1) := by decide +kernel
theorem dX5_isToldYear_105 : decode cX5_isToldYear 105 = .ok (.bipush 48, 2) := by decide +kernel
theorem dX5_isToldYear_107 : decode cX5_isToldYear 107 = .ok (.isub, 1) := by decide +kernel
theorem dX5_isToldYear_108 : decode cX5_isToldYear 108 = .ok (.putfield 122, 3) := by decide +kernel
theorem dX5_isToldYear_111 : decode cX5_isToldYear 111 = .ok (.aload_n 0, 1) := by decide +kernel
theorem dX5_isToldYear_112 : decode cX5_isToldYear 112 = .ok (.dup, 1) := by decide +kernel
theorem dX5_isToldYear_113 : decode cX5_isToldYear 113 = .ok (.getfield 108, 3) := by decide +kernel
theorem dX5_isToldYear_116 : decode cX5_isToldYear 116 = .ok (.iconst 1, 1) := by decide +kernel
theorem dX5_isToldYear_117 : decode cX5_isToldYear 117 = .ok (.iadd, 1) := by decide +kernel
theorem dX5_isToldYear_118 : decode cX5_isToldYear 118 = .ok (.putfield 108, 3) := by decide +kernel
theorem dX5_isToldYear_121 : decode cX5_isToldYear 121 = .ok (.iinc 2 1, 3) := by decide +kernel
theorem dX5_isToldYear_124 : decode cX5_isToldYear 124 = .ok (.goto (-107), 3) := by decide +kernel
theorem dX5_isToldYear_127 : decode cX5_isToldYear 127 = .ok (.aload_n 0, 1) := by decide +kernel
theorem dX5_isToldYear_128 : decode cX5_isToldYear 128 = .ok (.getfield 22, 3) := by decide +kernel
theorem dX5_isToldYear_131 : decode cX5_isToldYear 131 = .ok (.iload_n 1, 1) := by decide +kernel
theorem dX5_isToldYear_132 : decode cX5_isToldYear 132 = .ok (.iconst 3, 1) := by decide +kernel
theorem dX5_isToldYear_133 : decode cX5_isToldYear 133 = .ok (.iadd, 1) := by decide +kernel
theorem dX5_isToldYear_134 : decode cX5_isToldYear 134 = .ok (.aload_n 0, 1) := by decide +kernel
theorem dX5_isToldYear_135 : decode cX5_isToldYear 135 = .ok (.getfield 122, 3) := by decide +kernel
theorem dX5_isToldYear_138 : decode cX5_isToldYear 138 = .ok (.iastore, 1) := by decide +kernel
theorem dX5_isToldYear_139 : decode cX5_isToldYear 139 = .ok (.iconst 1, 1) := by decide +kernel
theorem dX5_isToldYear_140 : decode cX5_isToldYear 140 = .ok (.ireturn, 1) := by decide +kernel
set_option maxRecDepth 20000 in
theorem ggX5_isPart_X5_isAt : GoodIn wsX5_isPart wsX5_isAt := goodIn_r _ [9, 4, 10, 3, 11, 12, 8, 13, 32, 33, 34, 35, 36, 37, 38, 39, 40, 41, 42, 43, 44, 45, 46] (by decide +kernel) (by decide +kernel)
set_option maxRecDepth 20000 in
theorem gX5_isPart_X5_isAt : GoodIn wsX5_isPart (wsV RX5 115 RX5 yX5_isAt wsX5_isAt) := goodIn_app (goodIn_of _ (by decide +kernel)) ggX5_isPart_X5_isAt
set_option maxRecDepth 20000 in
theorem ggX5_isPart_X5_stops : GoodIn wsX5_isPart wsX5_stops := goodIn_r _ [17, 4, 10, 18, 32, 33, 34, 35, 36, 37, 38, 39, 40, 41, 42, 43, 44, 45, 46] (by decide +kernel) (by decide +kernel)
set_option maxRecDepth 20000 in
theorem gX5_isPart_X5_stops : GoodIn wsX5_isPart (wsV RX5 118 RX5 yX5_stops wsX5_stops) := goodIn_app (goodIn_of _ (by decide +kernel)) ggX5_isPart_X5_stops
set_option maxRecDepth 20000 in
theorem ggX5_isPart_X5_areLetters : GoodIn wsX5_isPart wsX5_areLetters := goodIn_r _ [22, 2, 4, 3, 5, 6, 7, 8, 9, 10, 11, 12, 13, 14, 15, 16, 17, 18, 32, 33, 34, 35, 36, 37, 38, 39, 40, 41, 42, 43, 44, 45, 46] (by decide +kernel) (by decide +kernel)
set_option maxRecDepth 20000 in
theorem gX5_isPart_X5_areLetters : GoodIn wsX5_isPart (wsV RX5 128 RX5 yX5_areLetters wsX5_areLetters) := goodIn_app (goodIn_of _ (by decide +kernel)) ggX5_isPart_X5_areLetters
set_option maxRecDepth 20000 in
theorem ggX5_isPart_X5_isToldMould : GoodIn wsX5_isPart wsX5_isToldMould := goodIn_r _ [26, 4, 3, 27, 2, 5, 6, 7, 8, 9, 10, 11, 12, 13, 14, 15, 16, 17, 18, 32, 33, 34, 35, 36, 37, 38, 39, 40, 41, 42, 43, 44, 45, 46] (by decide +kernel) (by decide +kernel)
set_option maxRecDepth 20000 in
theorem gX5_isPart_X5_isToldMould : GoodIn wsX5_isPart (wsV RX5 131 RX5 yX5_isToldMould wsX5_isToldMould) := goodIn_app (goodIn_of _ (by decide +kernel)) ggX5_isPart_X5_isToldMould
set_option maxRecDepth 20000 in
theorem ggX5_isPart_X5_isToldYear : GoodIn wsX5_isPart wsX5_isToldYear := goodIn_r _ [31, 4, 27, 3, 2, 5, 6, 7, 8, 9, 10, 11, 12, 13, 14, 15, 16, 17, 18, 32, 33, 34, 35, 36, 37, 38, 39, 40, 41, 42, 43, 44, 45, 46] (by decide +kernel) (by decide +kernel)
set_option maxRecDepth 20000 in
theorem gX5_isPart_X5_isToldYear : GoodIn wsX5_isPart (wsV RX5 134 RX5 yX5_isToldYear wsX5_isToldYear) := goodIn_app (goodIn_of _ (by decide +kernel)) ggX5_isPart_X5_isToldYear
theorem dX5_isPart_0 : decode cX5_isPart 0 = .ok (.iconst 4, 1) := by decide +kernel
theorem dX5_isPart_1 : decode cX5_isPart 1 = .ok (.aload_n 0, 1) := by decide +kernel
theorem dX5_isPart_2 : decode cX5_isPart 2 = .ok (.getfield 125, 3) := by decide +kernel
theorem dX5_isPart_5 : decode cX5_isPart 5 = .ok (.imul, 1) := by decide +kernel
theorem dX5_isPart_6 : decode cX5_isPart 6 = .ok (.istore_n 1, 1) := by decide +kernel
theorem dX5_isPart_7 : decode cX5_isPart 7 = .ok (.aload_n 0, 1) := by decide +kernel
theorem dX5_isPart_8 : decode cX5_isPart 8 = .ok (.getfield 22, 3) := by decide +kernel
theorem dX5_isPart_11 : decode cX5_isPart 11 = .ok (.iload_n 1, 1) := by decide +kernel
theorem dX5_isPart_12 : decode cX5_isPart 12 = .ok (.iconst 2, 1) := by decide +kernel
theorem dX5_isPart_13 : decode cX5_isPart 13 = .ok (.iadd, 1) := by decide +kernel
theorem dX5_isPart_14 : decode cX5_isPart 14 = .ok (.iconst (-1), 1) := by decide +kernel
theorem dX5_isPart_15 : decode cX5_isPart 15 = .ok (.iastore, 1) := by decide +kernel
theorem dX5_isPart_16 : decode cX5_isPart 16 = .ok (.aload_n 0, 1) := by decide +kernel
theorem dX5_isPart_17 : decode cX5_isPart 17 = .ok (.getfield 22, 3) := by decide +kernel
theorem dX5_isPart_20 : decode cX5_isPart 20 = .ok (.iload_n 1, 1) := by decide +kernel
theorem dX5_isPart_21 : decode cX5_isPart 21 = .ok (.iconst 3, 1) := by decide +kernel
theorem dX5_isPart_22 : decode cX5_isPart 22 = .ok (.iadd, 1) := by decide +kernel
theorem dX5_isPart_23 : decode cX5_isPart 23 = .ok (.iconst (-1), 1) := by decide +kernel
theorem dX5_isPart_24 : decode cX5_isPart 24 = .ok (.iastore, 1) := by decide +kernel
theorem dX5_isPart_25 : decode cX5_isPart 25 = .ok (.aload_n 0, 1) := by decide +kernel
theorem dX5_isPart_26 : decode cX5_isPart 26 = .ok (.bipush 48, 2) := by decide +kernel
theorem dX5_isPart_28 : decode cX5_isPart 28 = .ok (.bipush 50, 2) := by decide +kernel
theorem dX5_isPart_30 : decode cX5_isPart 30 = .ok (.invokevirtual 115, 3) := by decide +kernel
theorem dX5_isPart_33 : decode cX5_isPart 33 = .ok (.ifCond .ne 8, 3) := by decide +kernel
theorem dX5_isPart_36 : decode cX5_isPart 36 = .ok (.aload_n 0, 1) := by decide +kernel
theorem dX5_isPart_37 : decode cX5_isPart 37 = .ok (.invokevirtual 118, 3) := by decide +kernel
theorem dX5_isPart_40 : decode cX5_isPart 40 = .ok (.ireturn, 1) := by decide +kernel
theorem dX5_isPart_41 : decode cX5_isPart 41 = .ok (.aload_n 0, 1) := by decide +kernel
theorem dX5_isPart_42 : decode cX5_isPart 42 = .ok (.getfield 22, 3) := by decide +kernel
theorem dX5_isPart_45 : decode cX5_isPart 45 = .ok (.iload_n 1, 1) := by decide +kernel
theorem dX5_isPart_46 : decode cX5_isPart 46 = .ok (.aload_n 0, 1) := by decide +kernel
theorem dX5_isPart_47 : decode cX5_isPart 47 = .ok (.getfield 19, 3) := by decide +kernel
theorem dX5_isPart_50 : decode cX5_isPart 50 = .ok (.aload_n 0, 1) := by decide +kernel
theorem dX5_isPart_51 : decode cX5_isPart 51 = .ok (.getfield 108, 3) := by decide +kernel
theorem dX5_isPart_54 : decode cX5_isPart 54 = .ok (.iaload, 1) := by decide +kernel
theorem dX5_isPart_55 : decode cX5_isPart 55 = .ok (.bipush 48, 2) := by decide +kernel
theorem dX5_isPart_57 : decode cX5_isPart 57 = .ok (.isub, 1) := by decide +kernel
theorem dX5_isPart_58 : decode cX5_isPart 58 = .ok (.iastore, 1) := by decide +kernel
theorem dX5_isPart_59 : decode cX5_isPart 59 = .ok (.aload_n 0, 1) := by decide +kernel
theorem dX5_isPart_60 : decode cX5_isPart 60 = .ok (.dup, 1) := by decide +kernel
theorem dX5_isPart_61 : decode cX5_isPart 61 = .ok (.getfield 108, 3) := by decide +kernel
theorem dX5_isPart_64 : decode cX5_isPart 64 = .ok (.iconst 1, 1) := by decide +kernel
theorem dX5_isPart_65 : decode cX5_isPart 65 = .ok (.iadd, 1) := by decide +kernel
theorem dX5_isPart_66 : decode cX5_isPart 66 = .ok (.putfield 108, 3) := by decide +kernel
theorem dX5_isPart_69 : decode cX5_isPart 69 = .ok (.aload_n 0, 1) := by decide +kernel
theorem dX5_isPart_70 : decode cX5_isPart 70 = .ok (.iload_n 1, 1) := by decide +kernel
theorem dX5_isPart_71 : decode cX5_isPart 71 = .ok (.invokevirtual 128, 3) := by decide +kernel
theorem dX5_isPart_74 : decode cX5_isPart 74 = .ok (.ifCond .eq 45, 3) := by decide +kernel
theorem dX5_isPart_77 : decode cX5_isPart 77 = .ok (.aload_n 0, 1) := by decide +kernel
theorem dX5_isPart_78 : decode cX5_isPart 78 = .ok (.bipush 109, 2) := by decide +kernel
theorem dX5_isPart_80 : decode cX5_isPart 80 = .ok (.bipush 109, 2) := by decide +kernel
theorem dX5_isPart_82 : decode cX5_isPart 82 = .ok (.invokevirtual 115, 3) := by decide +kernel
theorem dX5_isPart_85 : decode cX5_isPart 85 = .ok (.ifCond .eq 11, 3) := by decide +kernel
theorem dX5_isPart_88 : decode cX5_isPart 88 = .ok (.aload_n 0, 1) := by decide +kernel
theorem dX5_isPart_89 : decode cX5_isPart 89 = .ok (.iload_n 1, 1) := by decide +kernel
theorem dX5_isPart_90 : decode cX5_isPart 90 = .ok (.invokevirtual 131, 3) := by decide +kernel
theorem dX5_isPart_93 : decode cX5_isPart 93 = .ok (.ifCond .eq 26, 3) := by decide +kernel
theorem dX5_isPart_96 : decode cX5_isPart 96 = .ok (.aload_n 0, 1) := by decide +kernel
theorem dX5_isPart_97 : decode cX5_isPart 97 = .ok (.bipush 121, 2) := by decide +kernel
theorem dX5_isPart_99 : decode cX5_isPart 99 = .ok (.bipush 121, 2) := by decide +kernel
theorem dX5_isPart_101 : decode cX5_isPart 101 = .ok (.invokevirtual 115, 3) := by decide +kernel
theorem dX5_isPart_104 : decode cX5_isPart 104 = .ok (.ifCond .eq 11, 3) := by decide +kernel
theorem dX5_isPart_107 : decode cX5_isPart 107 = .ok (.aload_n 0, 1) := by decide +kernel
theorem dX5_isPart_108 : decode cX5_isPart 108 = .ok (.iload_n 1, 1) := by decide +kernel
theorem dX5_isPart_109 : decode cX5_isPart 109 = .ok (.invokevirtual 134, 3) := by decide +kernel
theorem dX5_isPart_112 : decode cX5_isPart 112 = .ok (.ifCond .eq 7, 3) := by decide +kernel
theorem dX5_isPart_115 : decode cX5_isPart 115 = .ok (.iconst 1, 1) := by decide +kernel
theorem dX5_isPart_116 : decode cX5_isPart 116 = .ok (.goto 4, 3) := by decide +kernel
theorem dX5_isPart_119 : decode cX5_isPart 119 = .ok (.iconst 0, 1) := by decide +kernel
theorem dX5_isPart_120 : decode cX5_isPart 120 = .ok (.ireturn, 1) := by decide +kernel
set_option maxRecDepth 20000 in
theorem ggX5_isText_X5_isPart : GoodIn wsX5_isText wsX5_isPart := goodIn_r _ [9, 2, 10, 11, 1, 12, 13, 14, 8, 15, 4, 16, 17, 18, 19, 20, 21, 22, 3, 23, 24, 25, 26, 27, 28, 29, 30, 31, 32, 33, 34, 35, 36, 37, 38, 39, 40, 41, 42, 43, 44, 45, 46, 47, 48, 49, 50] (by decide +kernel) (by decide +kernel)
set_option maxRecDepth 20000 in
theorem gX5_isText_X5_isPart : GoodIn wsX5_isText (wsV RX5 137 RX5 yX5_isPart wsX5_isPart) := goodIn_app (goodIn_of _ (by decide +kernel)) ggX5_isText_X5_isPart
set_option maxRecDepth 20000 in
theorem ggX5_isText_X5_isAt : GoodIn wsX5_isText wsX5_isAt := goodIn_r _ [15, 1, 4, 11, 16, 17, 8, 18, 36, 37, 38, 39, 40, 41, 42, 43, 44, 45, 46, 47, 48, 49, 50] (by decide +kernel) (by decide +kernel)
set_option maxRecDepth 20000 in
theorem gX5_isText_X5_isAt : GoodIn wsX5_isText (wsV RX5 115 RX5 yX5_isAt wsX5_isAt) := goodIn_app (goodIn_of _ (by decide +kernel)) ggX5_isText_X5_isAt
theorem dX5_isText_0 : decode cX5_isText 0 = .ok (.aload_n 0, 1) := by decide +kernel
theorem dX5_isText_1 : decode cX5_isText 1 = .ok (.iconst 0, 1) := by decide +kernel
theorem dX5_isText_2 : decode cX5_isText 2 = .ok (.putfield 108, 3) := by decide +kernel
theorem dX5_isText_5 : decode cX5_isText 5 = .ok (.aload_n 0, 1) := by decide +kernel
theorem dX5_isText_6 : decode cX5_isText 6 = .ok (.iconst 0, 1) := by decide +kernel
theorem dX5_isText_7 : decode cX5_isText 7 = .ok (.putfield 125, 3) := by decide +kernel
theorem dX5_isText_10 : decode cX5_isText 10 = .ok (.aload_n 0, 1) := by decide +kernel
theorem dX5_isText_11 : decode cX5_isText 11 = .ok (.iconst 0, 1) := by decide +kernel
theorem dX5_isText_12 : decode cX5_isText 12 = .ok (.putfield 111, 3) := by decide +kernel
theorem dX5_isText_15 : decode cX5_isText 15 = .ok (.iconst 1, 1) := by decide +kernel
theorem dX5_isText_16 : decode cX5_isText 16 = .ok (.istore_n 1, 1) := by decide +kernel
theorem dX5_isText_17 : decode cX5_isText 17 = .ok (.iload_n 1, 1) := by decide +kernel
theorem dX5_isText_18 : decode cX5_isText 18 = .ok (.ifCond .eq 52, 3) := by decide +kernel
theorem dX5_isText_21 : decode cX5_isText 21 = .ok (.aload_n 0, 1) := by decide +kernel
theorem dX5_isText_22 : decode cX5_isText 22 = .ok (.invokevirtual 137, 3) := by decide +kernel
theorem dX5_isText_25 : decode cX5_isText 25 = .ok (.ifCond .ne 5, 3) := by decide +kernel
theorem dX5_isText_28 : decode cX5_isText 28 = .ok (.iconst 0, 1) := by decide +kernel
theorem dX5_isText_29 : decode cX5_isText 29 = .ok (.ireturn, 1) := by decide +kernel
theorem dX5_isText_30 : decode cX5_isText 30 = .ok (.aload_n 0, 1) := by decide +kernel
theorem dX5_isText_31 : decode cX5_isText 31 = .ok (.dup, 1) := by decide +kernel
theorem dX5_isText_32 : decode cX5_isText 32 = .ok (.getfield 125, 3) := by decide +kernel
theorem dX5_isText_35 : decode cX5_isText 35 = .ok (.iconst 1, 1) := by decide +kernel
theorem dX5_isText_36 : decode cX5_isText 36 = .ok (.iadd, 1) := by decide +kernel
theorem dX5_isText_37 : decode cX5_isText 37 = .ok (.putfield 125, 3) := by decide +kernel
theorem dX5_isText_40 : decode cX5_isText 40 = .ok (.aload_n 0, 1) := by decide +kernel
theorem dX5_isText_41 : decode cX5_isText 41 = .ok (.bipush 59, 2) := by decide +kernel
theorem dX5_isText_43 : decode cX5_isText 43 = .ok (.bipush 59, 2) := by decide +kernel
theorem dX5_isText_45 : decode cX5_isText 45 = .ok (.invokevirtual 115, 3) := by decide +kernel
theorem dX5_isText_48 : decode cX5_isText 48 = .ok (.istore_n 1, 1) := by decide +kernel
theorem dX5_isText_49 : decode cX5_isText 49 = .ok (.aload_n 0, 1) := by decide +kernel
theorem dX5_isText_50 : decode cX5_isText 50 = .ok (.dup, 1) := by decide +kernel
theorem dX5_isText_51 : decode cX5_isText 51 = .ok (.getfield 108, 3) := by decide +kernel
theorem dX5_isText_54 : decode cX5_isText 54 = .ok (.iload_n 1, 1) := by decide +kernel
theorem dX5_isText_55 : decode cX5_isText 55 = .ok (.ifCond .eq 7, 3) := by decide +kernel
theorem dX5_isText_58 : decode cX5_isText 58 = .ok (.iconst 1, 1) := by decide +kernel
theorem dX5_isText_59 : decode cX5_isText 59 = .ok (.goto 4, 3) := by decide +kernel
theorem dX5_isText_62 : decode cX5_isText 62 = .ok (.iconst 0, 1) := by decide +kernel
theorem dX5_isText_63 : decode cX5_isText 63 = .ok (.iadd, 1) := by decide +kernel
theorem dX5_isText_64 : decode cX5_isText 64 = .ok (.putfield 108, 3) := by decide +kernel
theorem dX5_isText_67 : decode cX5_isText 67 = .ok (.goto (-50), 3) := by decide +kernel
theorem dX5_isText_70 : decode cX5_isText 70 = .ok (.aload_n 0, 1) := by decide +kernel
theorem dX5_isText_71 : decode cX5_isText 71 = .ok (.aload_n 0, 1) := by decide +kernel
theorem dX5_isText_72 : decode cX5_isText 72 = .ok (.getfield 108, 3) := by decide +kernel
theorem dX5_isText_75 : decode cX5_isText 75 = .ok (.aload_n 0, 1) := by decide +kernel
theorem dX5_isText_76 : decode cX5_isText 76 = .ok (.getfield 105, 3) := by decide +kernel
theorem dX5_isText_79 : decode cX5_isText 79 = .ok (.if_icmp .ge 7, 3) := by decide +kernel
theorem dX5_isText_82 : decode cX5_isText 82 = .ok (.iconst 1, 1) := by decide +kernel
theorem dX5_isText_83 : decode cX5_isText 83 = .ok (.goto 4, 3) := by decide +kernel
theorem dX5_isText_86 : decode cX5_isText 86 = .ok (.iconst 0, 1) := by decide +kernel
theorem dX5_isText_87 : decode cX5_isText 87 = .ok (.putfield 111, 3) := by decide +kernel
theorem dX5_isText_90 : decode cX5_isText 90 = .ok (.aload_n 0, 1) := by decide +kernel
theorem dX5_isText_91 : decode cX5_isText 91 = .ok (.getfield 108, 3) := by decide +kernel
theorem dX5_isText_94 : decode cX5_isText 94 = .ok (.aload_n 0, 1) := by decide +kernel
theorem dX5_isText_95 : decode cX5_isText 95 = .ok (.getfield 105, 3) := by decide +kernel
theorem dX5_isText_98 : decode cX5_isText 98 = .ok (.if_icmp .ne 7, 3) := by decide +kernel
theorem dX5_isText_101 : decode cX5_isText 101 = .ok (.iconst 1, 1) := by decide +kernel
theorem dX5_isText_102 : decode cX5_isText 102 = .ok (.goto 4, 3) := by decide +kernel
theorem dX5_isText_105 : decode cX5_isText 105 = .ok (.iconst 0, 1) := by decide +kernel
theorem dX5_isText_106 : decode cX5_isText 106 = .ok (.ireturn, 1) := by decide +kernel
def f_X5_isToldMould (p1 : Int32) (x0_typed : Int32) (x0_at : Int32) (x0_isFault : Int32) (x0_value : Int32) (f1 : Nat → Int32) (f2 : Nat → Int32) : Option (Int32 × Int32 × Int32 × Int32 × (Nat → Int32)) := (f_X5_isAt 48 57 x0_typed (x0_at + 1) f1).bind (u1 fun (r1 : Int32) => (if r1 = 0 then (f_X5_stops x0_typed (x0_at + 1) x0_isFault).bind (u2 fun (r9 : Int32) (o10 : Int32) => gB r9 (some (r9, (x0_at + 1), o10, x0_value, f2))) else (rdA f1 60 (x0_at + 1)).bind (fun v2 => (jn (u2 fun (w3 : Int32) (w4 : Int32) => (wrA f2 124 (p1 + 2) w4).bind (fun g6 => some (1, w3, x0_isFault, w4, g6))) (fun K5 => (if (v2 - 48) ≤ 0 then K5 (((x0_at + 1) + 1), (v2 - 48)) else (f_X5_isAt 48 57 x0_typed ((x0_at + 1) + 1) f1).bind (u1 fun (r7 : Int32) => (if r7 = 0 then K5 (((x0_at + 1) + 1), (v2 - 48)) else (rdA f1 60 ((x0_at + 1) + 1)).bind (fun v8 => K5 ((((x0_at + 1) + 1) + 1), ((((10 : Int32) * (v2 - 48)) + v8) - 48)))))))))))
theorem in_X5_isToldMould_X5 : ∀ w ∈ wsX50, w ∈ wsX5_isToldMould := by decide +kernel
theorem fl_X5_isToldMould_108 : Cond.fieldLink RX5 108 "ColophonHuntModel" "at" "I" ∈ wsX5_isToldMould := by decide +kernel
theorem fl_X5_isToldMould_19 : Cond.fieldLink RX5 19 "ColophonHuntModel" "text" "[I" ∈ wsX5_isToldMould := by decide +kernel
theorem fl_X5_isToldMould_122 : Cond.fieldLink RX5 122 "ColophonHuntModel" "value" "I" ∈ wsX5_isToldMould := by decide +kernel
theorem fl_X5_isToldMould_22 : Cond.fieldLink RX5 22 "ColophonHuntModel" "told" "[I" ∈ wsX5_isToldMould := by decide +kernel
theorem hd_X5_isToldMould : yX5_isToldMould.cls = RX5 ∧ yX5_isToldMould.cls ≠ "java/lang/invoke/MethodHandle" ∧ yX5_isToldMould.cls ≠ "java/lang/invoke/VarHandle" ∧ (parseMethodDescriptor yX5_isToldMould.desc).map (fun d => d.parameters.length) = some 1 := by decide +kernel
set_option maxRecDepth 100000 in
set_option maxHeartbeats 4000000 in
theorem c_X5_isToldMould (l : Launch) (D : va_G) (cI cS cL : ClassId) (a0 : Nat) (a1 : Nat) (a2 : Nat) (b0_0 : Nat) (b0_1 : Nat) (b0_2 : Nat) (b0_12 : Nat) (b0_13 : Nat) (b0_14 : Nat) (p1 : Int32) (x0_kept : Int32) (x0_typed : Int32) (x0_thrown : Int32) (x0_at : Int32) (x0_isFault : Int32) (x0_value : Int32) (x0_tolds : Int32) (f1 : Nat → Int32) (f2 : Nat → Int32) (rr : Int32) (y0 : Int32) (y1 : Int32) (y2 : Int32) (y3 : Nat → Int32) (hc : f_X5_isToldMould p1 x0_typed x0_at x0_isFault x0_value f1 f2 = some (rr, y0, y1, y2, y3)) : KM l yX5_isToldMould wsX5_isToldMould { frames := 2, cells := 0, slots := 0, locals := 44 } D (tyS cI cS cL) [.ref a0, .int p1] [(a0, .inr (5, [.ref b0_0, .ref b0_1, .ref b0_2, .int x0_kept, .ref a1, .int x0_typed, .int x0_thrown, .int x0_at, .int x0_isFault, .int x0_value, .ref a2, .int x0_tolds, .ref b0_12, .ref b0_13, .ref b0_14])), (a1, .inl (cI, 60, .inl f1)), (a2, .inl (cI, 124, .inl f2))] (some (.int rr)) (fun w => w = [(a0, .inr (5, [.ref b0_0, .ref b0_1, .ref b0_2, .int x0_kept, .ref a1, .int x0_typed, .int x0_thrown, .int y0, .int y1, .int y2, .ref a2, .int x0_tolds, .ref b0_12, .ref b0_13, .ref b0_14])), (a1, .inl (cI, 60, .inl f1)), (a2, .inl (cI, 124, .inl y3))]) 0 0 := by
  refine g_entry (cc := cX5_isToldMould) (nL := 2) (rt := (some .boolean)) (by decide) rfl (Nat.le_of_ble_eq_true rfl) ?_
  intro p e s m args below meth c A (X : GC p s m args c cX5_isToldMould 2 RX5 wsX5_isToldMould D (tyS cI cS cL) A) hr hlk _ _
  have h := hc
  unfold f_X5_isToldMould at h
  refine g_lv (lv' := [(0, .ref a0), (1, .int p1)]) [0, 1] rfl ?_
  refine g_aload_n X (j := 0) dX5_isToldMould_0 rfl ?_
  refine g_dup X dX5_isToldMould_1 rfl ?_
  refine g_get (q0 := 0) (k := 7) (ci := 5) X in_X5_isToldMould_X5 fl_X5_isToldMould_108 rfl rfl (Nat.le_of_ble_eq_true rfl) rfl dX5_isToldMould_2 ?_
  refine g_iconst (v := 1) X dX5_isToldMould_5 (by decide) ?_
  refine g_iadd X dX5_isToldMould_6 ?_
  refine g_put (q0 := 0) (k := 7) (ci := 5) (ws' := [(a0, .inr (5, [.ref b0_0, .ref b0_1, .ref b0_2, .int x0_kept, .ref a1, .int x0_typed, .int x0_thrown, .int (x0_at + 1), .int x0_isFault, .int x0_value, .ref a2, .int x0_tolds, .ref b0_12, .ref b0_13, .ref b0_14])), (a1, .inl (cI, 60, .inl f1)), (a2, .inl (cI, 124, .inl f2))]) X tyX5_ok nmX5 in_X5_isToldMould_X5 fl_X5_isToldMould_108 rfl rfl (Nat.le_of_ble_eq_true rfl) rfl rfl rfl (Nat.le_of_ble_eq_true rfl) dX5_isToldMould_7 rfl ?_
  refine g_aload_n X (j := 0) dX5_isToldMould_10 rfl ?_
  refine g_bipush (v := 48) X dX5_isToldMould_11 (by decide) ?_
  refine g_bipush (v := 57) X dX5_isToldMould_13 (by decide) ?_
  obtain ⟨r1, hc, h⟩ := bd1 h
  refine g_callV (q0 := 0) (ci := 5) (is := [0, 1]) (As := [.int 48, .int 57]) (ws' := [(a0, .inr (5, [.ref b0_0, .ref b0_1, .ref b0_2, .int x0_kept, .ref a1, .int x0_typed, .int x0_thrown, .int (x0_at + 1), .int x0_isFault, .int x0_value, .ref a2, .int x0_tolds, .ref b0_12, .ref b0_13, .ref b0_14])), (a1, .inl (cI, 60, .inl f1)), (a2, .inl (cI, 124, .inl f2))]) (st := []) X (c_X5_isAt l D cI cS cL a0 a1 b0_0 b0_1 b0_2 a2 b0_12 b0_13 b0_14 48 57 x0_kept x0_typed x0_thrown (x0_at + 1) x0_isFault x0_value x0_tolds f1 r1 hc) gX5_isToldMould_X5_isAt rfl ⟨rfl, rfl⟩ hd_X5_isAt ⟨Nat.le_of_ble_eq_true rfl, Nat.le_of_ble_eq_true rfl⟩ ⟨Nat.zero_le _, Nat.zero_le _⟩ rfl rfl rfl rfl rfl rfl rfl (Nat.le_of_ble_eq_true rfl) rfl dX5_isToldMould_15 ?_
  refine g_if_ne (tgt := 26) X h dX5_isToldMould_18 (by decide) (fun h => ?_) (fun h => ?_)
  · refine g_aload_n X (j := 0) dX5_isToldMould_26 rfl ?_
    refine g_aload_n X (j := 0) dX5_isToldMould_27 rfl ?_
    refine g_get (q0 := 0) (k := 4) (ci := 5) X in_X5_isToldMould_X5 fl_X5_isToldMould_19 rfl rfl (Nat.le_of_ble_eq_true rfl) rfl dX5_isToldMould_28 ?_
    refine g_aload_n X (j := 0) dX5_isToldMould_31 rfl ?_
    refine g_get (q0 := 0) (k := 7) (ci := 5) X in_X5_isToldMould_X5 fl_X5_isToldMould_108 rfl rfl (Nat.le_of_ble_eq_true rfl) rfl dX5_isToldMould_32 ?_
    refine g_iald (q0 := 1) (t0 := 0) X h rfl rfl dX5_isToldMould_35 (fun v2 h => ?_)
    refine g_bipush (v := 48) X dX5_isToldMould_36 (by decide) ?_
    refine g_isub X dX5_isToldMould_38 ?_
    refine g_put (q0 := 0) (k := 9) (ci := 5) (ws' := [(a0, .inr (5, [.ref b0_0, .ref b0_1, .ref b0_2, .int x0_kept, .ref a1, .int x0_typed, .int x0_thrown, .int (x0_at + 1), .int x0_isFault, .int (v2 - 48), .ref a2, .int x0_tolds, .ref b0_12, .ref b0_13, .ref b0_14])), (a1, .inl (cI, 60, .inl f1)), (a2, .inl (cI, 124, .inl f2))]) X tyX5_ok nmX5 in_X5_isToldMould_X5 fl_X5_isToldMould_122 rfl rfl (Nat.le_of_ble_eq_true rfl) rfl rfl rfl (Nat.le_of_ble_eq_true rfl) dX5_isToldMould_39 rfl ?_
    refine g_aload_n X (j := 0) dX5_isToldMould_42 rfl ?_
    refine g_dup X dX5_isToldMould_43 rfl ?_
    refine g_get (q0 := 0) (k := 7) (ci := 5) X in_X5_isToldMould_X5 fl_X5_isToldMould_108 rfl rfl (Nat.le_of_ble_eq_true rfl) rfl dX5_isToldMould_44 ?_
    refine g_iconst (v := 1) X dX5_isToldMould_47 (by decide) ?_
    refine g_iadd X dX5_isToldMould_48 ?_
    refine g_put (q0 := 0) (k := 7) (ci := 5) (ws' := [(a0, .inr (5, [.ref b0_0, .ref b0_1, .ref b0_2, .int x0_kept, .ref a1, .int x0_typed, .int x0_thrown, .int ((x0_at + 1) + 1), .int x0_isFault, .int (v2 - 48), .ref a2, .int x0_tolds, .ref b0_12, .ref b0_13, .ref b0_14])), (a1, .inl (cI, 60, .inl f1)), (a2, .inl (cI, 124, .inl f2))]) X tyX5_ok nmX5 in_X5_isToldMould_X5 fl_X5_isToldMould_108 rfl rfl (Nat.le_of_ble_eq_true rfl) rfl rfl rfl (Nat.le_of_ble_eq_true rfl) dX5_isToldMould_49 rfl ?_
    refine g_aload_n X (j := 0) dX5_isToldMould_52 rfl ?_
    refine g_get (q0 := 0) (k := 9) (ci := 5) X in_X5_isToldMould_X5 fl_X5_isToldMould_122 rfl rfl (Nat.le_of_ble_eq_true rfl) rfl dX5_isToldMould_53 ?_
    refine jn_g h (u2 fun w3 w4 => [(a0, .inr (5, [.ref b0_0, .ref b0_1, .ref b0_2, .int x0_kept, .ref a1, .int x0_typed, .int x0_thrown, .int w3, .int x0_isFault, .int w4, .ref a2, .int x0_tolds, .ref b0_12, .ref b0_13, .ref b0_14])), (a1, .inl (cI, 60, .inl f1)), (a2, .inl (cI, 124, .inl f2))]) (u2 fun w3 w4 => [(0, .ref a0), (1, .int p1)]) (u2 fun w3 w4 => []) 104 ?_ ?_
    · rintro ⟨w3, w4⟩ h
      dsimp only [u2] at h ⊢
      refine g_aload_n X (j := 0) dX5_isToldMould_104 rfl ?_
      refine g_get (q0 := 0) (k := 10) (ci := 5) X in_X5_isToldMould_X5 fl_X5_isToldMould_22 rfl rfl (Nat.le_of_ble_eq_true rfl) rfl dX5_isToldMould_105 ?_
      refine g_iload_n X (j := 1) dX5_isToldMould_108 rfl ?_
      refine g_iconst (v := 2) X dX5_isToldMould_109 (by decide) ?_
      refine g_iadd X dX5_isToldMould_110 ?_
      refine g_aload_n X (j := 0) dX5_isToldMould_111 rfl ?_
      refine g_get (q0 := 0) (k := 9) (ci := 5) X in_X5_isToldMould_X5 fl_X5_isToldMould_122 rfl rfl (Nat.le_of_ble_eq_true rfl) rfl dX5_isToldMould_112 ?_
      refine g_iast (q0 := 2) (t0 := 0) (ws1 := fun g6 => [(a0, .inr (5, [.ref b0_0, .ref b0_1, .ref b0_2, .int x0_kept, .ref a1, .int x0_typed, .int x0_thrown, .int w3, .int x0_isFault, .int w4, .ref a2, .int x0_tolds, .ref b0_12, .ref b0_13, .ref b0_14])), (a1, .inl (cI, 60, .inl f1)), (a2, .inl (cI, 124, .inl g6))]) X h rfl rfl dX5_isToldMould_115 (fun _ => rfl) (fun g6 h => ?_)
      refine g_iconst (v := 1) X dX5_isToldMould_116 (by decide) ?_
      have h := Option.some.inj h
      simp only [Prod.mk.injEq] at h
      obtain ⟨rfl, rfl, rfl, rfl, rfl⟩ := h
      exact g_zret X hr hlk (by decide) dX5_isToldMould_117 rfl rfl
    · intro K5 hK5 h
      refine g_if_le (tgt := 104) X h dX5_isToldMould_56 (by decide) (fun h => ?_) (fun h => ?_)
      · exact hK5 (((x0_at + 1) + 1), (v2 - 48)) h
      · refine g_aload_n X (j := 0) dX5_isToldMould_59 rfl ?_
        refine g_bipush (v := 48) X dX5_isToldMould_60 (by decide) ?_
        refine g_bipush (v := 57) X dX5_isToldMould_62 (by decide) ?_
        obtain ⟨r7, hc, h⟩ := bd1 h
        refine g_callV (q0 := 0) (ci := 5) (is := [0, 1]) (As := [.int 48, .int 57]) (ws' := [(a0, .inr (5, [.ref b0_0, .ref b0_1, .ref b0_2, .int x0_kept, .ref a1, .int x0_typed, .int x0_thrown, .int ((x0_at + 1) + 1), .int x0_isFault, .int (v2 - 48), .ref a2, .int x0_tolds, .ref b0_12, .ref b0_13, .ref b0_14])), (a1, .inl (cI, 60, .inl f1)), (a2, .inl (cI, 124, .inl f2))]) (st := []) X (c_X5_isAt l D cI cS cL a0 a1 b0_0 b0_1 b0_2 a2 b0_12 b0_13 b0_14 48 57 x0_kept x0_typed x0_thrown ((x0_at + 1) + 1) x0_isFault (v2 - 48) x0_tolds f1 r7 hc) gX5_isToldMould_X5_isAt rfl ⟨rfl, rfl⟩ hd_X5_isAt ⟨Nat.le_of_ble_eq_true rfl, Nat.le_of_ble_eq_true rfl⟩ ⟨Nat.zero_le _, Nat.zero_le _⟩ rfl rfl rfl rfl rfl rfl rfl (Nat.le_of_ble_eq_true rfl) rfl dX5_isToldMould_64 ?_
        refine g_if_eq (tgt := 104) X h dX5_isToldMould_67 (by decide) (fun h => ?_) (fun h => ?_)
        · exact hK5 (((x0_at + 1) + 1), (v2 - 48)) h
        · refine g_aload_n X (j := 0) dX5_isToldMould_70 rfl ?_
          refine g_bipush (v := 10) X dX5_isToldMould_71 (by decide) ?_
          refine g_aload_n X (j := 0) dX5_isToldMould_73 rfl ?_
          refine g_get (q0 := 0) (k := 9) (ci := 5) X in_X5_isToldMould_X5 fl_X5_isToldMould_122 rfl rfl (Nat.le_of_ble_eq_true rfl) rfl dX5_isToldMould_74 ?_
          refine g_imul X dX5_isToldMould_77 ?_
          refine g_aload_n X (j := 0) dX5_isToldMould_78 rfl ?_
          refine g_get (q0 := 0) (k := 4) (ci := 5) X in_X5_isToldMould_X5 fl_X5_isToldMould_19 rfl rfl (Nat.le_of_ble_eq_true rfl) rfl dX5_isToldMould_79 ?_
          refine g_aload_n X (j := 0) dX5_isToldMould_82 rfl ?_
          refine g_get (q0 := 0) (k := 7) (ci := 5) X in_X5_isToldMould_X5 fl_X5_isToldMould_108 rfl rfl (Nat.le_of_ble_eq_true rfl) rfl dX5_isToldMould_83 ?_
          refine g_iald (q0 := 1) (t0 := 0) X h rfl rfl dX5_isToldMould_86 (fun v8 h => ?_)
          refine g_iadd X dX5_isToldMould_87 ?_
          refine g_bipush (v := 48) X dX5_isToldMould_88 (by decide) ?_
          refine g_isub X dX5_isToldMould_90 ?_
          refine g_put (q0 := 0) (k := 9) (ci := 5) (ws' := [(a0, .inr (5, [.ref b0_0, .ref b0_1, .ref b0_2, .int x0_kept, .ref a1, .int x0_typed, .int x0_thrown, .int ((x0_at + 1) + 1), .int x0_isFault, .int ((((10 : Int32) * (v2 - 48)) + v8) - 48), .ref a2, .int x0_tolds, .ref b0_12, .ref b0_13, .ref b0_14])), (a1, .inl (cI, 60, .inl f1)), (a2, .inl (cI, 124, .inl f2))]) X tyX5_ok nmX5 in_X5_isToldMould_X5 fl_X5_isToldMould_122 rfl rfl (Nat.le_of_ble_eq_true rfl) rfl rfl rfl (Nat.le_of_ble_eq_true rfl) dX5_isToldMould_91 rfl ?_
          refine g_aload_n X (j := 0) dX5_isToldMould_94 rfl ?_
          refine g_dup X dX5_isToldMould_95 rfl ?_
          refine g_get (q0 := 0) (k := 7) (ci := 5) X in_X5_isToldMould_X5 fl_X5_isToldMould_108 rfl rfl (Nat.le_of_ble_eq_true rfl) rfl dX5_isToldMould_96 ?_
          refine g_iconst (v := 1) X dX5_isToldMould_99 (by decide) ?_
          refine g_iadd X dX5_isToldMould_100 ?_
          refine g_put (q0 := 0) (k := 7) (ci := 5) (ws' := [(a0, .inr (5, [.ref b0_0, .ref b0_1, .ref b0_2, .int x0_kept, .ref a1, .int x0_typed, .int x0_thrown, .int (((x0_at + 1) + 1) + 1), .int x0_isFault, .int ((((10 : Int32) * (v2 - 48)) + v8) - 48), .ref a2, .int x0_tolds, .ref b0_12, .ref b0_13, .ref b0_14])), (a1, .inl (cI, 60, .inl f1)), (a2, .inl (cI, 124, .inl f2))]) X tyX5_ok nmX5 in_X5_isToldMould_X5 fl_X5_isToldMould_108 rfl rfl (Nat.le_of_ble_eq_true rfl) rfl rfl rfl (Nat.le_of_ble_eq_true rfl) dX5_isToldMould_101 rfl ?_
          exact hK5 ((((x0_at + 1) + 1) + 1), ((((10 : Int32) * (v2 - 48)) + v8) - 48)) h
  · refine g_aload_n X (j := 0) dX5_isToldMould_21 rfl ?_
    obtain ⟨r9, o10, hc, h⟩ := bd2 h
    refine g_callV (q0 := 0) (ci := 5) (is := [0]) (As := []) (ws' := [(a0, .inr (5, [.ref b0_0, .ref b0_1, .ref b0_2, .int x0_kept, .ref a1, .int x0_typed, .int x0_thrown, .int (x0_at + 1), .int o10, .int x0_value, .ref a2, .int x0_tolds, .ref b0_12, .ref b0_13, .ref b0_14])), (a1, .inl (cI, 60, .inl f1)), (a2, .inl (cI, 124, .inl f2))]) (st := []) X (c_X5_stops l D cI cS cL a0 b0_0 b0_1 b0_2 a1 a2 b0_12 b0_13 b0_14 x0_kept x0_typed x0_thrown (x0_at + 1) x0_isFault x0_value x0_tolds r9 o10 hc) gX5_isToldMould_X5_stops rfl ⟨rfl, rfl⟩ hd_X5_stops ⟨Nat.le_of_ble_eq_true rfl, Nat.le_of_ble_eq_true rfl⟩ ⟨Nat.zero_le _, Nat.zero_le _⟩ rfl rfl rfl rfl rfl rfl rfl (Nat.le_of_ble_eq_true rfl) rfl dX5_isToldMould_22 ?_
    obtain ⟨hz, h⟩ := gB_e h
    have h := Option.some.inj h
    simp only [Prod.mk.injEq] at h
    obtain ⟨rfl, rfl, rfl, rfl, rfl⟩ := h
    exact g_zret X hr hlk hz dX5_isToldMould_25 rfl rfl
def f_X5_isToldYear (p1 : Int32) (x0_typed : Int32) (x0_at : Int32) (x0_isFault : Int32) (x0_value : Int32) (f1 : Nat → Int32) (f2 : Nat → Int32) : Option (Int32 × Int32 × Int32 × Int32 × (Nat → Int32)) := (wl (u3 fun (l2_1 : Int32) (w2 : Int32) (w3 : Int32) => (if 4 ≤ l2_1 then some (Sum.inr (Sum.inr (w2, w3))) else (jn (u1 fun (s8 : Int32) => (jn (u1 fun (s10 : Int32) => (f_X5_isAt s8 s10 x0_typed w2 f1).bind (u1 fun (r12 : Int32) => (if r12 = 0 then some (Sum.inr (Sum.inl (w2, w3))) else (rdA f1 60 w2).bind (fun v13 => some (Sum.inl ((l2_1 + 1), (w2 + 1), ((((10 : Int32) * w3) + v13) - 48))))))) (fun K11 => (if l2_1 = 0 then K11 49 else K11 57)))) (fun K9 => (if l2_1 = 0 then K9 49 else (if l2_1 = 1 then K9 52 else (jn (u0 (K9 48)) (fun K14 => (if l2_1 = 2 then (if w3 = 14 then K9 53 else K14 ()) else K14 ()))))))))) 9999 (0, (x0_at + 1), 0)).bind (Sum.elim (u2 fun (w4 : Int32) (w5 : Int32) => (f_X5_stops x0_typed w4 x0_isFault).bind (u2 fun (r15 : Int32) (o16 : Int32) => gB r15 (some (r15, w4, o16, w5, f2)))) (u2 fun (w6 : Int32) (w7 : Int32) => (wrA f2 124 (p1 + 3) w7).bind (fun g17 => some (1, w6, x0_isFault, w7, g17))))
theorem in_X5_isToldYear_X5 : ∀ w ∈ wsX50, w ∈ wsX5_isToldYear := by decide +kernel
theorem fl_X5_isToldYear_108 : Cond.fieldLink RX5 108 "ColophonHuntModel" "at" "I" ∈ wsX5_isToldYear := by decide +kernel
theorem fl_X5_isToldYear_122 : Cond.fieldLink RX5 122 "ColophonHuntModel" "value" "I" ∈ wsX5_isToldYear := by decide +kernel
theorem fl_X5_isToldYear_19 : Cond.fieldLink RX5 19 "ColophonHuntModel" "text" "[I" ∈ wsX5_isToldYear := by decide +kernel
theorem fl_X5_isToldYear_22 : Cond.fieldLink RX5 22 "ColophonHuntModel" "told" "[I" ∈ wsX5_isToldYear := by decide +kernel
theorem hd_X5_isToldYear : yX5_isToldYear.cls = RX5 ∧ yX5_isToldYear.cls ≠ "java/lang/invoke/MethodHandle" ∧ yX5_isToldYear.cls ≠ "java/lang/invoke/VarHandle" ∧ (parseMethodDescriptor yX5_isToldYear.desc).map (fun d => d.parameters.length) = some 1 := by decide +kernel
set_option maxRecDepth 100000 in
set_option maxHeartbeats 4000000 in
theorem c_X5_isToldYear (l : Launch) (D : va_G) (cI cS cL : ClassId) (a0 : Nat) (a1 : Nat) (a2 : Nat) (b0_0 : Nat) (b0_1 : Nat) (b0_2 : Nat) (b0_12 : Nat) (b0_13 : Nat) (b0_14 : Nat) (p1 : Int32) (x0_kept : Int32) (x0_typed : Int32) (x0_thrown : Int32) (x0_at : Int32) (x0_isFault : Int32) (x0_value : Int32) (x0_tolds : Int32) (f1 : Nat → Int32) (f2 : Nat → Int32) (rr : Int32) (y0 : Int32) (y1 : Int32) (y2 : Int32) (y3 : Nat → Int32) (hc : f_X5_isToldYear p1 x0_typed x0_at x0_isFault x0_value f1 f2 = some (rr, y0, y1, y2, y3)) : KM l yX5_isToldYear wsX5_isToldYear { frames := 2, cells := 0, slots := 0, locals := 44 } D (tyS cI cS cL) [.ref a0, .int p1] [(a0, .inr (5, [.ref b0_0, .ref b0_1, .ref b0_2, .int x0_kept, .ref a1, .int x0_typed, .int x0_thrown, .int x0_at, .int x0_isFault, .int x0_value, .ref a2, .int x0_tolds, .ref b0_12, .ref b0_13, .ref b0_14])), (a1, .inl (cI, 60, .inl f1)), (a2, .inl (cI, 124, .inl f2))] (some (.int rr)) (fun w => w = [(a0, .inr (5, [.ref b0_0, .ref b0_1, .ref b0_2, .int x0_kept, .ref a1, .int x0_typed, .int x0_thrown, .int y0, .int y1, .int y2, .ref a2, .int x0_tolds, .ref b0_12, .ref b0_13, .ref b0_14])), (a1, .inl (cI, 60, .inl f1)), (a2, .inl (cI, 124, .inl y3))]) 0 0 := by
  refine g_entry (cc := cX5_isToldYear) (nL := 4) (rt := (some .boolean)) (by decide) rfl (Nat.le_of_ble_eq_true rfl) ?_
  intro p e s m args below meth c A (X : GC p s m args c cX5_isToldYear 4 RX5 wsX5_isToldYear D (tyS cI cS cL) A) hr hlk _ _
  have h := hc
  unfold f_X5_isToldYear at h
  refine g_lv (lv' := [(0, .ref a0), (1, .int p1)]) [0, 1] rfl ?_
  refine g_aload_n X (j := 0) dX5_isToldYear_0 rfl ?_
  refine g_dup X dX5_isToldYear_1 rfl ?_
  refine g_get (q0 := 0) (k := 7) (ci := 5) X in_X5_isToldYear_X5 fl_X5_isToldYear_108 rfl rfl (Nat.le_of_ble_eq_true rfl) rfl dX5_isToldYear_2 ?_
  refine g_iconst (v := 1) X dX5_isToldYear_5 (by decide) ?_
  refine g_iadd X dX5_isToldYear_6 ?_
  refine g_put (q0 := 0) (k := 7) (ci := 5) (ws' := [(a0, .inr (5, [.ref b0_0, .ref b0_1, .ref b0_2, .int x0_kept, .ref a1, .int x0_typed, .int x0_thrown, .int (x0_at + 1), .int x0_isFault, .int x0_value, .ref a2, .int x0_tolds, .ref b0_12, .ref b0_13, .ref b0_14])), (a1, .inl (cI, 60, .inl f1)), (a2, .inl (cI, 124, .inl f2))]) X tyX5_ok nmX5 in_X5_isToldYear_X5 fl_X5_isToldYear_108 rfl rfl (Nat.le_of_ble_eq_true rfl) rfl rfl rfl (Nat.le_of_ble_eq_true rfl) dX5_isToldYear_7 rfl ?_
  refine g_aload_n X (j := 0) dX5_isToldYear_10 rfl ?_
  refine g_iconst (v := 0) X dX5_isToldYear_11 (by decide) ?_
  refine g_put (q0 := 0) (k := 9) (ci := 5) (ws' := [(a0, .inr (5, [.ref b0_0, .ref b0_1, .ref b0_2, .int x0_kept, .ref a1, .int x0_typed, .int x0_thrown, .int (x0_at + 1), .int x0_isFault, .int 0, .ref a2, .int x0_tolds, .ref b0_12, .ref b0_13, .ref b0_14])), (a1, .inl (cI, 60, .inl f1)), (a2, .inl (cI, 124, .inl f2))]) X tyX5_ok nmX5 in_X5_isToldYear_X5 fl_X5_isToldYear_122 rfl rfl (Nat.le_of_ble_eq_true rfl) rfl rfl rfl (Nat.le_of_ble_eq_true rfl) dX5_isToldYear_12 rfl ?_
  refine g_iconst (v := 0) X dX5_isToldYear_15 (by decide) ?_
  refine g_istore_n (lv' := [(2, .int 0), (0, .ref a0), (1, .int p1)]) X dX5_isToldYear_16 rfl (by decide) rfl ?_
  refine g_lv (lv' := [(0, .ref a0), (1, .int p1), (2, .int 0)]) [1, 2, 0] rfl ?_
  refine wl_g2 h (u3 fun l2_1 w2 w3 => [(a0, .inr (5, [.ref b0_0, .ref b0_1, .ref b0_2, .int x0_kept, .ref a1, .int x0_typed, .int x0_thrown, .int w2, .int x0_isFault, .int w3, .ref a2, .int x0_tolds, .ref b0_12, .ref b0_13, .ref b0_14])), (a1, .inl (cI, 60, .inl f1)), (a2, .inl (cI, 124, .inl f2))]) (u3 fun l2_1 w2 w3 => [(0, .ref a0), (1, .int p1), (2, .int l2_1)]) rfl rfl (u2 fun w4 w5 => [(a0, .inr (5, [.ref b0_0, .ref b0_1, .ref b0_2, .int x0_kept, .ref a1, .int x0_typed, .int x0_thrown, .int w4, .int x0_isFault, .int w5, .ref a2, .int x0_tolds, .ref b0_12, .ref b0_13, .ref b0_14])), (a1, .inl (cI, 60, .inl f1)), (a2, .inl (cI, 124, .inl f2))]) (u2 fun w4 w5 => [(0, .ref a0)]) 82 (u2 fun w6 w7 => [(a0, .inr (5, [.ref b0_0, .ref b0_1, .ref b0_2, .int x0_kept, .ref a1, .int x0_typed, .int x0_thrown, .int w6, .int x0_isFault, .int w7, .ref a2, .int x0_tolds, .ref b0_12, .ref b0_13, .ref b0_14])), (a1, .inl (cI, 60, .inl f1)), (a2, .inl (cI, 124, .inl f2))]) (u2 fun w6 w7 => [(0, .ref a0), (1, .int p1)]) 127 ?_ ?_ ?_
  · rintro ⟨w4, w5⟩ h
    dsimp only [u2] at h ⊢
    refine g_aload_n X (j := 0) dX5_isToldYear_82 rfl ?_
    obtain ⟨r15, o16, hc, h⟩ := bd2 h
    refine g_callV (q0 := 0) (ci := 5) (is := [0]) (As := []) (ws' := [(a0, .inr (5, [.ref b0_0, .ref b0_1, .ref b0_2, .int x0_kept, .ref a1, .int x0_typed, .int x0_thrown, .int w4, .int o16, .int w5, .ref a2, .int x0_tolds, .ref b0_12, .ref b0_13, .ref b0_14])), (a1, .inl (cI, 60, .inl f1)), (a2, .inl (cI, 124, .inl f2))]) (st := []) X (c_X5_stops l D cI cS cL a0 b0_0 b0_1 b0_2 a1 a2 b0_12 b0_13 b0_14 x0_kept x0_typed x0_thrown w4 x0_isFault w5 x0_tolds r15 o16 hc) gX5_isToldYear_X5_stops rfl ⟨rfl, rfl⟩ hd_X5_stops ⟨Nat.le_of_ble_eq_true rfl, Nat.le_of_ble_eq_true rfl⟩ ⟨Nat.zero_le _, Nat.zero_le _⟩ rfl rfl rfl rfl rfl rfl rfl (Nat.le_of_ble_eq_true rfl) rfl dX5_isToldYear_83 ?_
    obtain ⟨hz, h⟩ := gB_e h
    have h := Option.some.inj h
    simp only [Prod.mk.injEq] at h
    obtain ⟨rfl, rfl, rfl, rfl, rfl⟩ := h
    exact g_zret X hr hlk hz dX5_isToldYear_86 rfl rfl
  · rintro ⟨w6, w7⟩ h
    dsimp only [u2] at h ⊢
    refine g_aload_n X (j := 0) dX5_isToldYear_127 rfl ?_
    refine g_get (q0 := 0) (k := 10) (ci := 5) X in_X5_isToldYear_X5 fl_X5_isToldYear_22 rfl rfl (Nat.le_of_ble_eq_true rfl) rfl dX5_isToldYear_128 ?_
    refine g_iload_n X (j := 1) dX5_isToldYear_131 rfl ?_
    refine g_iconst (v := 3) X dX5_isToldYear_132 (by decide) ?_
    refine g_iadd X dX5_isToldYear_133 ?_
    refine g_aload_n X (j := 0) dX5_isToldYear_134 rfl ?_
    refine g_get (q0 := 0) (k := 9) (ci := 5) X in_X5_isToldYear_X5 fl_X5_isToldYear_122 rfl rfl (Nat.le_of_ble_eq_true rfl) rfl dX5_isToldYear_135 ?_
    refine g_iast (q0 := 2) (t0 := 0) (ws1 := fun g17 => [(a0, .inr (5, [.ref b0_0, .ref b0_1, .ref b0_2, .int x0_kept, .ref a1, .int x0_typed, .int x0_thrown, .int w6, .int x0_isFault, .int w7, .ref a2, .int x0_tolds, .ref b0_12, .ref b0_13, .ref b0_14])), (a1, .inl (cI, 60, .inl f1)), (a2, .inl (cI, 124, .inl g17))]) X h rfl rfl dX5_isToldYear_138 (fun _ => rfl) (fun g17 h => ?_)
    refine g_iconst (v := 1) X dX5_isToldYear_139 (by decide) ?_
    have h := Option.some.inj h
    simp only [Prod.mk.injEq] at h
    obtain ⟨rfl, rfl, rfl, rfl, rfl⟩ := h
    exact g_zret X hr hlk (by decide) dX5_isToldYear_140 rfl rfl
  · rintro ⟨l2_1, w2, w3⟩ o h hI hE hF
    dsimp only [u3] at h ⊢
    refine g_iload_n X (j := 2) dX5_isToldYear_17 rfl ?_
    refine g_iconst (v := 4) X dX5_isToldYear_18 (by decide) ?_
    refine g_icmp_ge (tgt := 127) X h dX5_isToldYear_19 (by decide) (fun h => ?_) (fun h => ?_)
    · refine g_lv (lv' := [(0, .ref a0), (1, .int p1)]) [0, 1] rfl ?_
      exact hF (w2, w3) (Option.some.inj h).symm
    · refine g_iload_n X (j := 2) dX5_isToldYear_22 rfl ?_
      refine jn_g h (u1 fun s8 => [(a0, .inr (5, [.ref b0_0, .ref b0_1, .ref b0_2, .int x0_kept, .ref a1, .int x0_typed, .int x0_thrown, .int w2, .int x0_isFault, .int w3, .ref a2, .int x0_tolds, .ref b0_12, .ref b0_13, .ref b0_14])), (a1, .inl (cI, 60, .inl f1)), (a2, .inl (cI, 124, .inl f2))]) (u1 fun s8 => [(0, .ref a0), (1, .int p1), (2, .int l2_1)]) (u1 fun s8 => [.int s8]) 62 ?_ ?_
      · rintro s8 h
        dsimp only [u1] at h ⊢
        refine g_istore_n (lv' := [(3, .int s8), (0, .ref a0), (1, .int p1), (2, .int l2_1)]) X dX5_isToldYear_62 rfl (by decide) rfl ?_
        refine g_aload_n X (j := 1) dX5_isToldYear_63 rfl ?_
        refine g_iload_n X (j := 0) dX5_isToldYear_64 rfl ?_
        refine g_iload_n X (j := 3) dX5_isToldYear_65 rfl ?_
        refine jn_g h (u1 fun s10 => [(a0, .inr (5, [.ref b0_0, .ref b0_1, .ref b0_2, .int x0_kept, .ref a1, .int x0_typed, .int x0_thrown, .int w2, .int x0_isFault, .int w3, .ref a2, .int x0_tolds, .ref b0_12, .ref b0_13, .ref b0_14])), (a1, .inl (cI, 60, .inl f1)), (a2, .inl (cI, 124, .inl f2))]) (u1 fun s10 => [(0, .ref a0), (1, .int p1), (2, .int l2_1)]) (u1 fun s10 => [.int s10, .int s8, .ref a0]) 76 ?_ ?_
        · rintro s10 h
          dsimp only [u1] at h ⊢
          obtain ⟨r12, hc, h⟩ := bd1 h
          refine g_callV (q0 := 0) (ci := 5) (is := [0, 1]) (As := [.int s8, .int s10]) (ws' := [(a0, .inr (5, [.ref b0_0, .ref b0_1, .ref b0_2, .int x0_kept, .ref a1, .int x0_typed, .int x0_thrown, .int w2, .int x0_isFault, .int w3, .ref a2, .int x0_tolds, .ref b0_12, .ref b0_13, .ref b0_14])), (a1, .inl (cI, 60, .inl f1)), (a2, .inl (cI, 124, .inl f2))]) (st := []) X (c_X5_isAt l D cI cS cL a0 a1 b0_0 b0_1 b0_2 a2 b0_12 b0_13 b0_14 s8 s10 x0_kept x0_typed x0_thrown w2 x0_isFault w3 x0_tolds f1 r12 hc) gX5_isToldYear_X5_isAt rfl ⟨rfl, rfl⟩ hd_X5_isAt ⟨Nat.le_of_ble_eq_true rfl, Nat.le_of_ble_eq_true rfl⟩ ⟨Nat.zero_le _, Nat.zero_le _⟩ rfl rfl rfl rfl rfl rfl rfl (Nat.le_of_ble_eq_true rfl) rfl dX5_isToldYear_76 ?_
          refine g_if_ne (tgt := 87) X h dX5_isToldYear_79 (by decide) (fun h => ?_) (fun h => ?_)
          · refine g_aload_n X (j := 0) dX5_isToldYear_87 rfl ?_
            refine g_bipush (v := 10) X dX5_isToldYear_88 (by decide) ?_
            refine g_aload_n X (j := 0) dX5_isToldYear_90 rfl ?_
            refine g_get (q0 := 0) (k := 9) (ci := 5) X in_X5_isToldYear_X5 fl_X5_isToldYear_122 rfl rfl (Nat.le_of_ble_eq_true rfl) rfl dX5_isToldYear_91 ?_
            refine g_imul X dX5_isToldYear_94 ?_
            refine g_aload_n X (j := 0) dX5_isToldYear_95 rfl ?_
            refine g_get (q0 := 0) (k := 4) (ci := 5) X in_X5_isToldYear_X5 fl_X5_isToldYear_19 rfl rfl (Nat.le_of_ble_eq_true rfl) rfl dX5_isToldYear_96 ?_
            refine g_aload_n X (j := 0) dX5_isToldYear_99 rfl ?_
            refine g_get (q0 := 0) (k := 7) (ci := 5) X in_X5_isToldYear_X5 fl_X5_isToldYear_108 rfl rfl (Nat.le_of_ble_eq_true rfl) rfl dX5_isToldYear_100 ?_
            refine g_iald (q0 := 1) (t0 := 0) X h rfl rfl dX5_isToldYear_103 (fun v13 h => ?_)
            refine g_iadd X dX5_isToldYear_104 ?_
            refine g_bipush (v := 48) X dX5_isToldYear_105 (by decide) ?_
            refine g_isub X dX5_isToldYear_107 ?_
            refine g_put (q0 := 0) (k := 9) (ci := 5) (ws' := [(a0, .inr (5, [.ref b0_0, .ref b0_1, .ref b0_2, .int x0_kept, .ref a1, .int x0_typed, .int x0_thrown, .int w2, .int x0_isFault, .int ((((10 : Int32) * w3) + v13) - 48), .ref a2, .int x0_tolds, .ref b0_12, .ref b0_13, .ref b0_14])), (a1, .inl (cI, 60, .inl f1)), (a2, .inl (cI, 124, .inl f2))]) X tyX5_ok nmX5 in_X5_isToldYear_X5 fl_X5_isToldYear_122 rfl rfl (Nat.le_of_ble_eq_true rfl) rfl rfl rfl (Nat.le_of_ble_eq_true rfl) dX5_isToldYear_108 rfl ?_
            refine g_aload_n X (j := 0) dX5_isToldYear_111 rfl ?_
            refine g_dup X dX5_isToldYear_112 rfl ?_
            refine g_get (q0 := 0) (k := 7) (ci := 5) X in_X5_isToldYear_X5 fl_X5_isToldYear_108 rfl rfl (Nat.le_of_ble_eq_true rfl) rfl dX5_isToldYear_113 ?_
            refine g_iconst (v := 1) X dX5_isToldYear_116 (by decide) ?_
            refine g_iadd X dX5_isToldYear_117 ?_
            refine g_put (q0 := 0) (k := 7) (ci := 5) (ws' := [(a0, .inr (5, [.ref b0_0, .ref b0_1, .ref b0_2, .int x0_kept, .ref a1, .int x0_typed, .int x0_thrown, .int (w2 + 1), .int x0_isFault, .int ((((10 : Int32) * w3) + v13) - 48), .ref a2, .int x0_tolds, .ref b0_12, .ref b0_13, .ref b0_14])), (a1, .inl (cI, 60, .inl f1)), (a2, .inl (cI, 124, .inl f2))]) X tyX5_ok nmX5 in_X5_isToldYear_X5 fl_X5_isToldYear_108 rfl rfl (Nat.le_of_ble_eq_true rfl) rfl rfl rfl (Nat.le_of_ble_eq_true rfl) dX5_isToldYear_118 rfl ?_
            refine g_iinc (j := 2) (lv' := [(2, .int (l2_1 + 1)), (0, .ref a0), (1, .int p1)]) X (l2_1 + 1) dX5_isToldYear_121 rfl rfl (by decide) rfl ?_
            refine g_goto (tgt := 17) X dX5_isToldYear_124 (by decide) ?_
            refine g_lv (lv' := [(0, .ref a0), (1, .int p1), (2, .int (l2_1 + 1))]) [1, 2, 0] rfl ?_
            exact hI ((l2_1 + 1), (w2 + 1), ((((10 : Int32) * w3) + v13) - 48)) (Option.some.inj h).symm
          · refine g_lv (lv' := [(0, .ref a0)]) [0] rfl ?_
            exact hE (w2, w3) (Option.some.inj h).symm
        · intro K11 hK11 h
          refine g_if_ne (tgt := 74) X h dX5_isToldYear_66 (by decide) (fun h => ?_) (fun h => ?_)
          · refine g_bipush (v := 57) X dX5_isToldYear_74 (by decide) ?_
            refine g_lv (lv' := [(0, .ref a0), (1, .int p1), (2, .int l2_1)]) [1, 2, 3] rfl ?_
            exact hK11 57 h
          · refine g_bipush (v := 49) X dX5_isToldYear_69 (by decide) ?_
            refine g_goto (tgt := 76) X dX5_isToldYear_71 (by decide) ?_
            refine g_lv (lv' := [(0, .ref a0), (1, .int p1), (2, .int l2_1)]) [1, 2, 3] rfl ?_
            exact hK11 49 h
      · intro K9 hK9 h
        refine g_if_ne (tgt := 31) X h dX5_isToldYear_23 (by decide) (fun h => ?_) (fun h => ?_)
        · refine g_iload_n X (j := 2) dX5_isToldYear_31 rfl ?_
          refine g_iconst (v := 1) X dX5_isToldYear_32 (by decide) ?_
          refine g_icmp_ne (tgt := 41) X h dX5_isToldYear_33 (by decide) (fun h => ?_) (fun h => ?_)
          · refine g_iload_n X (j := 2) dX5_isToldYear_41 rfl ?_
            refine g_iconst (v := 2) X dX5_isToldYear_42 (by decide) ?_
            refine jn_g h (u0 ([(a0, .inr (5, [.ref b0_0, .ref b0_1, .ref b0_2, .int x0_kept, .ref a1, .int x0_typed, .int x0_thrown, .int w2, .int x0_isFault, .int w3, .ref a2, .int x0_tolds, .ref b0_12, .ref b0_13, .ref b0_14])), (a1, .inl (cI, 60, .inl f1)), (a2, .inl (cI, 124, .inl f2))])) (u0 ([(0, .ref a0), (1, .int p1), (2, .int l2_1)])) (u0 ([])) 60 ?_ ?_
            · rintro ⟨⟩ h
              dsimp only [u0] at h ⊢
              refine g_bipush (v := 48) X dX5_isToldYear_60 (by decide) ?_
              exact hK9 48 h
            · intro K14 hK14 h
              refine g_icmp_ne (tgt := 60) X h dX5_isToldYear_43 (by decide) (fun h => ?_) (fun h => ?_)
              · exact hK14 () h
              · refine g_aload_n X (j := 0) dX5_isToldYear_46 rfl ?_
                refine g_get (q0 := 0) (k := 9) (ci := 5) X in_X5_isToldYear_X5 fl_X5_isToldYear_122 rfl rfl (Nat.le_of_ble_eq_true rfl) rfl dX5_isToldYear_47 ?_
                refine g_bipush (v := 14) X dX5_isToldYear_50 (by decide) ?_
                refine g_icmp_ne (tgt := 60) X h dX5_isToldYear_52 (by decide) (fun h => ?_) (fun h => ?_)
                · exact hK14 () h
                · refine g_bipush (v := 53) X dX5_isToldYear_55 (by decide) ?_
                  refine g_goto (tgt := 62) X dX5_isToldYear_57 (by decide) ?_
                  exact hK9 53 h
          · refine g_bipush (v := 52) X dX5_isToldYear_36 (by decide) ?_
            refine g_goto (tgt := 62) X dX5_isToldYear_38 (by decide) ?_
            exact hK9 52 h
        · refine g_bipush (v := 49) X dX5_isToldYear_26 (by decide) ?_
          refine g_goto (tgt := 62) X dX5_isToldYear_28 (by decide) ?_
          exact hK9 49 h
def f_X5_isPart (x0_typed : Int32) (x0_at : Int32) (x0_isFault : Int32) (x0_value : Int32) (x0_tolds : Int32) (f1 : Nat → Int32) (f2 : Nat → Int32) : Option (Int32 × Int32 × Int32 × Int32 × (Nat → Int32)) := (wrA f2 124 (((4 : Int32) * x0_tolds) + 2) (-1)).bind (fun g1 => (wrA g1 124 (((4 : Int32) * x0_tolds) + 3) (-1)).bind (fun g2 => (f_X5_isAt 48 50 x0_typed x0_at f1).bind (u1 fun (r3 : Int32) => (if r3 = 0 then (f_X5_stops x0_typed x0_at x0_isFault).bind (u2 fun (r43 : Int32) (o44 : Int32) => gB r43 (some (r43, x0_at, o44, x0_value, g2))) else (rdA f1 60 x0_at).bind (fun v4 => (wrA g2 124 ((4 : Int32) * x0_tolds) (v4 - 48)).bind (fun g5 => (f_X5_areLetters ((4 : Int32) * x0_tolds) x0_typed (x0_at + 1) x0_isFault f1 g5).bind (u4 fun (r6 : Int32) (o7 : Int32) (o8 : Int32) (o9 : Nat → Int32) => (jn (u5 fun (w10 : Int32) (w11 : Int32) (w12 : Int32) (w13 : Nat → Int32) (s14 : Int32) => gB s14 (some (s14, w10, w11, w12, w13))) (fun K15 => jn (u4 fun (w16 : Int32) (w17 : Int32) (w18 : Int32) (w19 : Nat → Int32) => K15 (w16, w17, w18, w19, 0)) (fun K20 => (if r6 = 0 then K20 (o7, o8, x0_value, o9) else (f_X5_isAt 109 109 x0_typed o7 f1).bind (u1 fun (r21 : Int32) => (jn (u4 fun (w22 : Int32) (w23 : Int32) (w24 : Int32) (w25 : Nat → Int32) => (f_X5_isAt 121 121 x0_typed w22 f1).bind (u1 fun (r27 : Int32) => (jn (u4 fun (w28 : Int32) (w29 : Int32) (w30 : Int32) (w31 : Nat → Int32) => K15 (w28, w29, w30, w31, 1)) (fun K32 => (if r27 = 0 then K32 (w22, w23, w24, w25) else (f_X5_isToldYear ((4 : Int32) * x0_tolds) x0_typed w22 w23 w24 f1 w25).bind (u5 fun (r33 : Int32) (o34 : Int32) (o35 : Int32) (o36 : Int32) (o37 : Nat → Int32) => (if r33 = 0 then K20 (o34, o35, o36, o37) else K32 (o34, o35, o36, o37)))))))) (fun K26 => (if r21 = 0 then K26 (o7, o8, x0_value, o9) else (f_X5_isToldMould ((4 : Int32) * x0_tolds) x0_typed o7 o8 x0_value f1 o9).bind (u5 fun (r38 : Int32) (o39 : Int32) (o40 : Int32) (o41 : Int32) (o42 : Nat → Int32) => (if r38 = 0 then K20 (o39, o40, o41, o42) else K26 (o39, o40, o41, o42))))))))))))))))))
theorem in_X5_isPart_X5 : ∀ w ∈ wsX50, w ∈ wsX5_isPart := by decide +kernel
theorem fl_X5_isPart_125 : Cond.fieldLink RX5 125 "ColophonHuntModel" "tolds" "I" ∈ wsX5_isPart := by decide +kernel
theorem fl_X5_isPart_22 : Cond.fieldLink RX5 22 "ColophonHuntModel" "told" "[I" ∈ wsX5_isPart := by decide +kernel
theorem fl_X5_isPart_19 : Cond.fieldLink RX5 19 "ColophonHuntModel" "text" "[I" ∈ wsX5_isPart := by decide +kernel
theorem fl_X5_isPart_108 : Cond.fieldLink RX5 108 "ColophonHuntModel" "at" "I" ∈ wsX5_isPart := by decide +kernel
theorem hd_X5_isPart : yX5_isPart.cls = RX5 ∧ yX5_isPart.cls ≠ "java/lang/invoke/MethodHandle" ∧ yX5_isPart.cls ≠ "java/lang/invoke/VarHandle" ∧ (parseMethodDescriptor yX5_isPart.desc).map (fun d => d.parameters.length) = some 0 := by decide +kernel
set_option maxRecDepth 100000 in
set_option maxHeartbeats 4000000 in
theorem c_X5_isPart (l : Launch) (D : va_G) (cI cS cL : ClassId) (a0 : Nat) (a1 : Nat) (a2 : Nat) (b0_0 : Nat) (b0_1 : Nat) (b0_2 : Nat) (b0_12 : Nat) (b0_13 : Nat) (b0_14 : Nat) (x0_kept : Int32) (x0_typed : Int32) (x0_thrown : Int32) (x0_at : Int32) (x0_isFault : Int32) (x0_value : Int32) (x0_tolds : Int32) (f1 : Nat → Int32) (f2 : Nat → Int32) (rr : Int32) (y0 : Int32) (y1 : Int32) (y2 : Int32) (y3 : Nat → Int32) (hc : f_X5_isPart x0_typed x0_at x0_isFault x0_value x0_tolds f1 f2 = some (rr, y0, y1, y2, y3)) : KM l yX5_isPart wsX5_isPart { frames := 3, cells := 0, slots := 0, locals := 67 } D (tyS cI cS cL) [.ref a0] [(a0, .inr (5, [.ref b0_0, .ref b0_1, .ref b0_2, .int x0_kept, .ref a1, .int x0_typed, .int x0_thrown, .int x0_at, .int x0_isFault, .int x0_value, .ref a2, .int x0_tolds, .ref b0_12, .ref b0_13, .ref b0_14])), (a1, .inl (cI, 60, .inl f1)), (a2, .inl (cI, 124, .inl f2))] (some (.int rr)) (fun w => w = [(a0, .inr (5, [.ref b0_0, .ref b0_1, .ref b0_2, .int x0_kept, .ref a1, .int x0_typed, .int x0_thrown, .int y0, .int y1, .int y2, .ref a2, .int x0_tolds, .ref b0_12, .ref b0_13, .ref b0_14])), (a1, .inl (cI, 60, .inl f1)), (a2, .inl (cI, 124, .inl y3))]) 0 0 := by
  refine g_entry (cc := cX5_isPart) (nL := 2) (rt := (some .boolean)) (by decide) rfl (Nat.le_of_ble_eq_true rfl) ?_
  intro p e s m args below meth c A (X : GC p s m args c cX5_isPart 2 RX5 wsX5_isPart D (tyS cI cS cL) A) hr hlk _ _
  have h := hc
  unfold f_X5_isPart at h
  refine g_lv (lv' := [(0, .ref a0)]) [0] rfl ?_
  refine g_iconst (v := 4) X dX5_isPart_0 (by decide) ?_
  refine g_aload_n X (j := 0) dX5_isPart_1 rfl ?_
  refine g_get (q0 := 0) (k := 11) (ci := 5) X in_X5_isPart_X5 fl_X5_isPart_125 rfl rfl (Nat.le_of_ble_eq_true rfl) rfl dX5_isPart_2 ?_
  refine g_imul X dX5_isPart_5 ?_
  refine g_istore_n (lv' := [(1, .int ((4 : Int32) * x0_tolds)), (0, .ref a0)]) X dX5_isPart_6 rfl (by decide) rfl ?_
  refine g_aload_n X (j := 1) dX5_isPart_7 rfl ?_
  refine g_get (q0 := 0) (k := 10) (ci := 5) X in_X5_isPart_X5 fl_X5_isPart_22 rfl rfl (Nat.le_of_ble_eq_true rfl) rfl dX5_isPart_8 ?_
  refine g_iload_n X (j := 0) dX5_isPart_11 rfl ?_
  refine g_iconst (v := 2) X dX5_isPart_12 (by decide) ?_
  refine g_iadd X dX5_isPart_13 ?_
  refine g_iconst (v := (-1)) X dX5_isPart_14 (by decide) ?_
  refine g_iast (q0 := 2) (t0 := 0) (ws1 := fun g1 => [(a0, .inr (5, [.ref b0_0, .ref b0_1, .ref b0_2, .int x0_kept, .ref a1, .int x0_typed, .int x0_thrown, .int x0_at, .int x0_isFault, .int x0_value, .ref a2, .int x0_tolds, .ref b0_12, .ref b0_13, .ref b0_14])), (a1, .inl (cI, 60, .inl f1)), (a2, .inl (cI, 124, .inl g1))]) X h rfl rfl dX5_isPart_15 (fun _ => rfl) (fun g1 h => ?_)
  refine g_aload_n X (j := 1) dX5_isPart_16 rfl ?_
  refine g_get (q0 := 0) (k := 10) (ci := 5) X in_X5_isPart_X5 fl_X5_isPart_22 rfl rfl (Nat.le_of_ble_eq_true rfl) rfl dX5_isPart_17 ?_
  refine g_iload_n X (j := 0) dX5_isPart_20 rfl ?_
  refine g_iconst (v := 3) X dX5_isPart_21 (by decide) ?_
  refine g_iadd X dX5_isPart_22 ?_
  refine g_iconst (v := (-1)) X dX5_isPart_23 (by decide) ?_
  refine g_iast (q0 := 2) (t0 := 0) (ws1 := fun g2 => [(a0, .inr (5, [.ref b0_0, .ref b0_1, .ref b0_2, .int x0_kept, .ref a1, .int x0_typed, .int x0_thrown, .int x0_at, .int x0_isFault, .int x0_value, .ref a2, .int x0_tolds, .ref b0_12, .ref b0_13, .ref b0_14])), (a1, .inl (cI, 60, .inl f1)), (a2, .inl (cI, 124, .inl g2))]) X h rfl rfl dX5_isPart_24 (fun _ => rfl) (fun g2 h => ?_)
  refine g_aload_n X (j := 1) dX5_isPart_25 rfl ?_
  refine g_bipush (v := 48) X dX5_isPart_26 (by decide) ?_
  refine g_bipush (v := 50) X dX5_isPart_28 (by decide) ?_
  obtain ⟨r3, hc, h⟩ := bd1 h
  refine g_callV (q0 := 0) (ci := 5) (is := [0, 1]) (As := [.int 48, .int 50]) (ws' := [(a0, .inr (5, [.ref b0_0, .ref b0_1, .ref b0_2, .int x0_kept, .ref a1, .int x0_typed, .int x0_thrown, .int x0_at, .int x0_isFault, .int x0_value, .ref a2, .int x0_tolds, .ref b0_12, .ref b0_13, .ref b0_14])), (a1, .inl (cI, 60, .inl f1)), (a2, .inl (cI, 124, .inl g2))]) (st := []) X (c_X5_isAt l D cI cS cL a0 a1 b0_0 b0_1 b0_2 a2 b0_12 b0_13 b0_14 48 50 x0_kept x0_typed x0_thrown x0_at x0_isFault x0_value x0_tolds f1 r3 hc) gX5_isPart_X5_isAt rfl ⟨rfl, rfl⟩ hd_X5_isAt ⟨Nat.le_of_ble_eq_true rfl, Nat.le_of_ble_eq_true rfl⟩ ⟨Nat.zero_le _, Nat.zero_le _⟩ rfl rfl rfl rfl rfl rfl rfl (Nat.le_of_ble_eq_true rfl) rfl dX5_isPart_30 ?_
  refine g_if_ne (tgt := 41) X h dX5_isPart_33 (by decide) (fun h => ?_) (fun h => ?_)
  · refine g_aload_n X (j := 1) dX5_isPart_41 rfl ?_
    refine g_get (q0 := 0) (k := 10) (ci := 5) X in_X5_isPart_X5 fl_X5_isPart_22 rfl rfl (Nat.le_of_ble_eq_true rfl) rfl dX5_isPart_42 ?_
    refine g_iload_n X (j := 0) dX5_isPart_45 rfl ?_
    refine g_aload_n X (j := 1) dX5_isPart_46 rfl ?_
    refine g_get (q0 := 0) (k := 4) (ci := 5) X in_X5_isPart_X5 fl_X5_isPart_19 rfl rfl (Nat.le_of_ble_eq_true rfl) rfl dX5_isPart_47 ?_
    refine g_aload_n X (j := 1) dX5_isPart_50 rfl ?_
    refine g_get (q0 := 0) (k := 7) (ci := 5) X in_X5_isPart_X5 fl_X5_isPart_108 rfl rfl (Nat.le_of_ble_eq_true rfl) rfl dX5_isPart_51 ?_
    refine g_iald (q0 := 1) (t0 := 0) X h rfl rfl dX5_isPart_54 (fun v4 h => ?_)
    refine g_bipush (v := 48) X dX5_isPart_55 (by decide) ?_
    refine g_isub X dX5_isPart_57 ?_
    refine g_iast (q0 := 2) (t0 := 0) (ws1 := fun g5 => [(a0, .inr (5, [.ref b0_0, .ref b0_1, .ref b0_2, .int x0_kept, .ref a1, .int x0_typed, .int x0_thrown, .int x0_at, .int x0_isFault, .int x0_value, .ref a2, .int x0_tolds, .ref b0_12, .ref b0_13, .ref b0_14])), (a1, .inl (cI, 60, .inl f1)), (a2, .inl (cI, 124, .inl g5))]) X h rfl rfl dX5_isPart_58 (fun _ => rfl) (fun g5 h => ?_)
    refine g_aload_n X (j := 1) dX5_isPart_59 rfl ?_
    refine g_dup X dX5_isPart_60 rfl ?_
    refine g_get (q0 := 0) (k := 7) (ci := 5) X in_X5_isPart_X5 fl_X5_isPart_108 rfl rfl (Nat.le_of_ble_eq_true rfl) rfl dX5_isPart_61 ?_
    refine g_iconst (v := 1) X dX5_isPart_64 (by decide) ?_
    refine g_iadd X dX5_isPart_65 ?_
    refine g_put (q0 := 0) (k := 7) (ci := 5) (ws' := [(a0, .inr (5, [.ref b0_0, .ref b0_1, .ref b0_2, .int x0_kept, .ref a1, .int x0_typed, .int x0_thrown, .int (x0_at + 1), .int x0_isFault, .int x0_value, .ref a2, .int x0_tolds, .ref b0_12, .ref b0_13, .ref b0_14])), (a1, .inl (cI, 60, .inl f1)), (a2, .inl (cI, 124, .inl g5))]) X tyX5_ok nmX5 in_X5_isPart_X5 fl_X5_isPart_108 rfl rfl (Nat.le_of_ble_eq_true rfl) rfl rfl rfl (Nat.le_of_ble_eq_true rfl) dX5_isPart_66 rfl ?_
    refine g_aload_n X (j := 1) dX5_isPart_69 rfl ?_
    refine g_iload_n X (j := 0) dX5_isPart_70 rfl ?_
    obtain ⟨r6, o7, o8, o9, hc, h⟩ := bd4 h
    refine g_callV (q0 := 0) (ci := 5) (is := [0, 1, 2]) (As := [.int ((4 : Int32) * x0_tolds)]) (ws' := [(a0, .inr (5, [.ref b0_0, .ref b0_1, .ref b0_2, .int x0_kept, .ref a1, .int x0_typed, .int x0_thrown, .int o7, .int o8, .int x0_value, .ref a2, .int x0_tolds, .ref b0_12, .ref b0_13, .ref b0_14])), (a1, .inl (cI, 60, .inl f1)), (a2, .inl (cI, 124, .inl o9))]) (st := []) X (c_X5_areLetters l D cI cS cL a0 a1 a2 b0_0 b0_1 b0_2 b0_12 b0_13 b0_14 ((4 : Int32) * x0_tolds) x0_kept x0_typed x0_thrown (x0_at + 1) x0_isFault x0_value x0_tolds f1 g5 r6 o7 o8 o9 hc) gX5_isPart_X5_areLetters rfl ⟨rfl, rfl⟩ hd_X5_areLetters ⟨Nat.le_of_ble_eq_true rfl, Nat.le_of_ble_eq_true rfl⟩ ⟨Nat.zero_le _, Nat.zero_le _⟩ rfl rfl rfl rfl rfl rfl rfl (Nat.le_of_ble_eq_true rfl) rfl dX5_isPart_71 ?_
    refine jn_g h (u5 fun w10 w11 w12 w13 s14 => [(a0, .inr (5, [.ref b0_0, .ref b0_1, .ref b0_2, .int x0_kept, .ref a1, .int x0_typed, .int x0_thrown, .int w10, .int w11, .int w12, .ref a2, .int x0_tolds, .ref b0_12, .ref b0_13, .ref b0_14])), (a1, .inl (cI, 60, .inl f1)), (a2, .inl (cI, 124, .inl w13))]) (u5 fun w10 w11 w12 w13 s14 => []) (u5 fun w10 w11 w12 w13 s14 => [.int s14]) 120 ?_ ?_
    · rintro ⟨w10, w11, w12, w13, s14⟩ h
      dsimp only [u5] at h ⊢
      obtain ⟨hz, h⟩ := gB_e h
      have h := Option.some.inj h
      simp only [Prod.mk.injEq] at h
      obtain ⟨rfl, rfl, rfl, rfl, rfl⟩ := h
      exact g_zret X hr hlk hz dX5_isPart_120 rfl rfl
    · intro K15 hK15 h
      refine jn_g h (u4 fun w16 w17 w18 w19 => [(a0, .inr (5, [.ref b0_0, .ref b0_1, .ref b0_2, .int x0_kept, .ref a1, .int x0_typed, .int x0_thrown, .int w16, .int w17, .int w18, .ref a2, .int x0_tolds, .ref b0_12, .ref b0_13, .ref b0_14])), (a1, .inl (cI, 60, .inl f1)), (a2, .inl (cI, 124, .inl w19))]) (u4 fun w16 w17 w18 w19 => []) (u4 fun w16 w17 w18 w19 => []) 119 ?_ ?_
      · rintro ⟨w16, w17, w18, w19⟩ h
        dsimp only [u4] at h ⊢
        refine g_iconst (v := 0) X dX5_isPart_119 (by decide) ?_
        exact hK15 (w16, w17, w18, w19, 0) h
      · intro K20 hK20 h
        refine g_if_eq (tgt := 119) X h dX5_isPart_74 (by decide) (fun h => ?_) (fun h => ?_)
        · refine g_lv (lv' := []) [] rfl ?_
          exact hK20 (o7, o8, x0_value, o9) h
        · refine g_aload_n X (j := 1) dX5_isPart_77 rfl ?_
          refine g_bipush (v := 109) X dX5_isPart_78 (by decide) ?_
          refine g_bipush (v := 109) X dX5_isPart_80 (by decide) ?_
          obtain ⟨r21, hc, h⟩ := bd1 h
          refine g_callV (q0 := 0) (ci := 5) (is := [0, 1]) (As := [.int 109, .int 109]) (ws' := [(a0, .inr (5, [.ref b0_0, .ref b0_1, .ref b0_2, .int x0_kept, .ref a1, .int x0_typed, .int x0_thrown, .int o7, .int o8, .int x0_value, .ref a2, .int x0_tolds, .ref b0_12, .ref b0_13, .ref b0_14])), (a1, .inl (cI, 60, .inl f1)), (a2, .inl (cI, 124, .inl o9))]) (st := []) X (c_X5_isAt l D cI cS cL a0 a1 b0_0 b0_1 b0_2 a2 b0_12 b0_13 b0_14 109 109 x0_kept x0_typed x0_thrown o7 o8 x0_value x0_tolds f1 r21 hc) gX5_isPart_X5_isAt rfl ⟨rfl, rfl⟩ hd_X5_isAt ⟨Nat.le_of_ble_eq_true rfl, Nat.le_of_ble_eq_true rfl⟩ ⟨Nat.zero_le _, Nat.zero_le _⟩ rfl rfl rfl rfl rfl rfl rfl (Nat.le_of_ble_eq_true rfl) rfl dX5_isPart_82 ?_
          refine jn_g h (u4 fun w22 w23 w24 w25 => [(a0, .inr (5, [.ref b0_0, .ref b0_1, .ref b0_2, .int x0_kept, .ref a1, .int x0_typed, .int x0_thrown, .int w22, .int w23, .int w24, .ref a2, .int x0_tolds, .ref b0_12, .ref b0_13, .ref b0_14])), (a1, .inl (cI, 60, .inl f1)), (a2, .inl (cI, 124, .inl w25))]) (u4 fun w22 w23 w24 w25 => [(0, .ref a0), (1, .int ((4 : Int32) * x0_tolds))]) (u4 fun w22 w23 w24 w25 => []) 96 ?_ ?_
          · rintro ⟨w22, w23, w24, w25⟩ h
            dsimp only [u4] at h ⊢
            refine g_aload_n X (j := 0) dX5_isPart_96 rfl ?_
            refine g_bipush (v := 121) X dX5_isPart_97 (by decide) ?_
            refine g_bipush (v := 121) X dX5_isPart_99 (by decide) ?_
            obtain ⟨r27, hc, h⟩ := bd1 h
            refine g_callV (q0 := 0) (ci := 5) (is := [0, 1]) (As := [.int 121, .int 121]) (ws' := [(a0, .inr (5, [.ref b0_0, .ref b0_1, .ref b0_2, .int x0_kept, .ref a1, .int x0_typed, .int x0_thrown, .int w22, .int w23, .int w24, .ref a2, .int x0_tolds, .ref b0_12, .ref b0_13, .ref b0_14])), (a1, .inl (cI, 60, .inl f1)), (a2, .inl (cI, 124, .inl w25))]) (st := []) X (c_X5_isAt l D cI cS cL a0 a1 b0_0 b0_1 b0_2 a2 b0_12 b0_13 b0_14 121 121 x0_kept x0_typed x0_thrown w22 w23 w24 x0_tolds f1 r27 hc) gX5_isPart_X5_isAt rfl ⟨rfl, rfl⟩ hd_X5_isAt ⟨Nat.le_of_ble_eq_true rfl, Nat.le_of_ble_eq_true rfl⟩ ⟨Nat.zero_le _, Nat.zero_le _⟩ rfl rfl rfl rfl rfl rfl rfl (Nat.le_of_ble_eq_true rfl) rfl dX5_isPart_101 ?_
            refine jn_g h (u4 fun w28 w29 w30 w31 => [(a0, .inr (5, [.ref b0_0, .ref b0_1, .ref b0_2, .int x0_kept, .ref a1, .int x0_typed, .int x0_thrown, .int w28, .int w29, .int w30, .ref a2, .int x0_tolds, .ref b0_12, .ref b0_13, .ref b0_14])), (a1, .inl (cI, 60, .inl f1)), (a2, .inl (cI, 124, .inl w31))]) (u4 fun w28 w29 w30 w31 => []) (u4 fun w28 w29 w30 w31 => []) 115 ?_ ?_
            · rintro ⟨w28, w29, w30, w31⟩ h
              dsimp only [u4] at h ⊢
              refine g_iconst (v := 1) X dX5_isPart_115 (by decide) ?_
              refine g_goto (tgt := 120) X dX5_isPart_116 (by decide) ?_
              exact hK15 (w28, w29, w30, w31, 1) h
            · intro K32 hK32 h
              refine g_if_eq (tgt := 115) X h dX5_isPart_104 (by decide) (fun h => ?_) (fun h => ?_)
              · refine g_lv (lv' := []) [] rfl ?_
                exact hK32 (w22, w23, w24, w25) h
              · refine g_aload_n X (j := 0) dX5_isPart_107 rfl ?_
                refine g_iload_n X (j := 1) dX5_isPart_108 rfl ?_
                obtain ⟨r33, o34, o35, o36, o37, hc, h⟩ := bd5 h
                refine g_callV (q0 := 0) (ci := 5) (is := [0, 1, 2]) (As := [.int ((4 : Int32) * x0_tolds)]) (ws' := [(a0, .inr (5, [.ref b0_0, .ref b0_1, .ref b0_2, .int x0_kept, .ref a1, .int x0_typed, .int x0_thrown, .int o34, .int o35, .int o36, .ref a2, .int x0_tolds, .ref b0_12, .ref b0_13, .ref b0_14])), (a1, .inl (cI, 60, .inl f1)), (a2, .inl (cI, 124, .inl o37))]) (st := []) X (c_X5_isToldYear l D cI cS cL a0 a1 a2 b0_0 b0_1 b0_2 b0_12 b0_13 b0_14 ((4 : Int32) * x0_tolds) x0_kept x0_typed x0_thrown w22 w23 w24 x0_tolds f1 w25 r33 o34 o35 o36 o37 hc) gX5_isPart_X5_isToldYear rfl ⟨rfl, rfl⟩ hd_X5_isToldYear ⟨Nat.le_of_ble_eq_true rfl, Nat.le_of_ble_eq_true rfl⟩ ⟨Nat.zero_le _, Nat.zero_le _⟩ rfl rfl rfl rfl rfl rfl rfl (Nat.le_of_ble_eq_true rfl) rfl dX5_isPart_109 ?_
                refine g_if_eq (tgt := 119) X h dX5_isPart_112 (by decide) (fun h => ?_) (fun h => ?_)
                · refine g_lv (lv' := []) [] rfl ?_
                  exact hK20 (o34, o35, o36, o37) h
                · refine g_lv (lv' := []) [] rfl ?_
                  exact hK32 (o34, o35, o36, o37) h
          · intro K26 hK26 h
            refine g_if_eq (tgt := 96) X h dX5_isPart_85 (by decide) (fun h => ?_) (fun h => ?_)
            · refine g_lv (lv' := [(0, .ref a0), (1, .int ((4 : Int32) * x0_tolds))]) [1, 0] rfl ?_
              exact hK26 (o7, o8, x0_value, o9) h
            · refine g_aload_n X (j := 1) dX5_isPart_88 rfl ?_
              refine g_iload_n X (j := 0) dX5_isPart_89 rfl ?_
              obtain ⟨r38, o39, o40, o41, o42, hc, h⟩ := bd5 h
              refine g_callV (q0 := 0) (ci := 5) (is := [0, 1, 2]) (As := [.int ((4 : Int32) * x0_tolds)]) (ws' := [(a0, .inr (5, [.ref b0_0, .ref b0_1, .ref b0_2, .int x0_kept, .ref a1, .int x0_typed, .int x0_thrown, .int o39, .int o40, .int o41, .ref a2, .int x0_tolds, .ref b0_12, .ref b0_13, .ref b0_14])), (a1, .inl (cI, 60, .inl f1)), (a2, .inl (cI, 124, .inl o42))]) (st := []) X (c_X5_isToldMould l D cI cS cL a0 a1 a2 b0_0 b0_1 b0_2 b0_12 b0_13 b0_14 ((4 : Int32) * x0_tolds) x0_kept x0_typed x0_thrown o7 o8 x0_value x0_tolds f1 o9 r38 o39 o40 o41 o42 hc) gX5_isPart_X5_isToldMould rfl ⟨rfl, rfl⟩ hd_X5_isToldMould ⟨Nat.le_of_ble_eq_true rfl, Nat.le_of_ble_eq_true rfl⟩ ⟨Nat.zero_le _, Nat.zero_le _⟩ rfl rfl rfl rfl rfl rfl rfl (Nat.le_of_ble_eq_true rfl) rfl dX5_isPart_90 ?_
              refine g_if_eq (tgt := 119) X h dX5_isPart_93 (by decide) (fun h => ?_) (fun h => ?_)
              · refine g_lv (lv' := []) [] rfl ?_
                exact hK20 (o39, o40, o41, o42) h
              · refine g_lv (lv' := [(0, .ref a0), (1, .int ((4 : Int32) * x0_tolds))]) [1, 0] rfl ?_
                exact hK26 (o39, o40, o41, o42) h
  · refine g_aload_n X (j := 1) dX5_isPart_36 rfl ?_
    obtain ⟨r43, o44, hc, h⟩ := bd2 h
    refine g_callV (q0 := 0) (ci := 5) (is := [0]) (As := []) (ws' := [(a0, .inr (5, [.ref b0_0, .ref b0_1, .ref b0_2, .int x0_kept, .ref a1, .int x0_typed, .int x0_thrown, .int x0_at, .int o44, .int x0_value, .ref a2, .int x0_tolds, .ref b0_12, .ref b0_13, .ref b0_14])), (a1, .inl (cI, 60, .inl f1)), (a2, .inl (cI, 124, .inl g2))]) (st := []) X (c_X5_stops l D cI cS cL a0 b0_0 b0_1 b0_2 a1 a2 b0_12 b0_13 b0_14 x0_kept x0_typed x0_thrown x0_at x0_isFault x0_value x0_tolds r43 o44 hc) gX5_isPart_X5_stops rfl ⟨rfl, rfl⟩ hd_X5_stops ⟨Nat.le_of_ble_eq_true rfl, Nat.le_of_ble_eq_true rfl⟩ ⟨Nat.zero_le _, Nat.zero_le _⟩ rfl rfl rfl rfl rfl rfl rfl (Nat.le_of_ble_eq_true rfl) rfl dX5_isPart_37 ?_
    obtain ⟨hz, h⟩ := gB_e h
    have h := Option.some.inj h
    simp only [Prod.mk.injEq] at h
    obtain ⟨rfl, rfl, rfl, rfl, rfl⟩ := h
    exact g_zret X hr hlk hz dX5_isPart_40 rfl rfl
def f_X5_isText (x0_typed : Int32) (x0_at : Int32) (x0_isFault : Int32) (x0_value : Int32) (x0_tolds : Int32) (f1 : Nat → Int32) (f2 : Nat → Int32) : Option (Int32 × Int32 × Int32 × Int32 × Int32 × (Nat → Int32)) := (wl (u6 fun (l1_1 : Int32) (w2 : Int32) (w3 : Int32) (w4 : Int32) (w5 : Int32) (w6 : Nat → Int32) => (if l1_1 = 0 then some (Sum.inr (Sum.inr (w2, w3, w4, w5, w6))) else (f_X5_isPart x0_typed w2 w3 w5 w4 f1 w6).bind (u5 fun (r17 : Int32) (o18 : Int32) (o19 : Int32) (o20 : Int32) (o21 : Nat → Int32) => (if r17 = 0 then some (Sum.inr (Sum.inl (o18, o19, w4, o20, o21))) else (f_X5_isAt 59 59 x0_typed o18 f1).bind (u1 fun (r22 : Int32) => (jn (u1 fun (s23 : Int32) => some (Sum.inl (r22, (o18 + s23), o19, (w4 + 1), o20, o21))) (fun K24 => (if r22 = 0 then K24 0 else K24 1)))))))) 9999 (1, 0, 0, 0, x0_value, f2)).bind (Sum.elim (u5 fun (w7 : Int32) (w8 : Int32) (w9 : Int32) (w10 : Int32) (w11 : Nat → Int32) => some (0, w7, w8, w10, w9, w11)) (u5 fun (w12 : Int32) (w13 : Int32) (w14 : Int32) (w15 : Int32) (w16 : Nat → Int32) => (jn (u1 fun (s25 : Int32) => gB s25 ((jn (u1 fun (s27 : Int32) => gB s27 (some (s27, w12, s25, w15, w14, w16))) (fun K28 => (if w12 = x0_typed then K28 1 else K28 0))))) (fun K26 => (if x0_typed ≤ w12 then K26 0 else K26 1)))))
theorem in_X5_isText_X5 : ∀ w ∈ wsX50, w ∈ wsX5_isText := by decide +kernel
theorem fl_X5_isText_108 : Cond.fieldLink RX5 108 "ColophonHuntModel" "at" "I" ∈ wsX5_isText := by decide +kernel
theorem fl_X5_isText_125 : Cond.fieldLink RX5 125 "ColophonHuntModel" "tolds" "I" ∈ wsX5_isText := by decide +kernel
theorem fl_X5_isText_111 : Cond.fieldLink RX5 111 "ColophonHuntModel" "isFault" "Z" ∈ wsX5_isText := by decide +kernel
theorem fl_X5_isText_105 : Cond.fieldLink RX5 105 "ColophonHuntModel" "typed" "I" ∈ wsX5_isText := by decide +kernel
theorem hd_X5_isText : yX5_isText.cls = RX5 ∧ yX5_isText.cls ≠ "java/lang/invoke/MethodHandle" ∧ yX5_isText.cls ≠ "java/lang/invoke/VarHandle" ∧ (parseMethodDescriptor yX5_isText.desc).map (fun d => d.parameters.length) = some 0 := by decide +kernel
set_option maxRecDepth 100000 in
set_option maxHeartbeats 4000000 in
theorem c_X5_isText (l : Launch) (D : va_G) (cI cS cL : ClassId) (a0 : Nat) (a1 : Nat) (a2 : Nat) (b0_0 : Nat) (b0_1 : Nat) (b0_2 : Nat) (b0_12 : Nat) (b0_13 : Nat) (b0_14 : Nat) (x0_kept : Int32) (x0_typed : Int32) (x0_thrown : Int32) (x0_at : Int32) (x0_isFault : Int32) (x0_value : Int32) (x0_tolds : Int32) (f1 : Nat → Int32) (f2 : Nat → Int32) (rr : Int32) (y0 : Int32) (y1 : Int32) (y2 : Int32) (y3 : Int32) (y4 : Nat → Int32) (hc : f_X5_isText x0_typed x0_at x0_isFault x0_value x0_tolds f1 f2 = some (rr, y0, y1, y2, y3, y4)) : KM l yX5_isText wsX5_isText { frames := 4, cells := 0, slots := 0, locals := 88 } D (tyS cI cS cL) [.ref a0] [(a0, .inr (5, [.ref b0_0, .ref b0_1, .ref b0_2, .int x0_kept, .ref a1, .int x0_typed, .int x0_thrown, .int x0_at, .int x0_isFault, .int x0_value, .ref a2, .int x0_tolds, .ref b0_12, .ref b0_13, .ref b0_14])), (a1, .inl (cI, 60, .inl f1)), (a2, .inl (cI, 124, .inl f2))] (some (.int rr)) (fun w => w = [(a0, .inr (5, [.ref b0_0, .ref b0_1, .ref b0_2, .int x0_kept, .ref a1, .int x0_typed, .int x0_thrown, .int y0, .int y1, .int y2, .ref a2, .int y3, .ref b0_12, .ref b0_13, .ref b0_14])), (a1, .inl (cI, 60, .inl f1)), (a2, .inl (cI, 124, .inl y4))]) 0 0 := by
  refine g_entry (cc := cX5_isText) (nL := 2) (rt := (some .boolean)) (by decide) rfl (Nat.le_of_ble_eq_true rfl) ?_
  intro p e s m args below meth c A (X : GC p s m args c cX5_isText 2 RX5 wsX5_isText D (tyS cI cS cL) A) hr hlk _ _
  have h := hc
  unfold f_X5_isText at h
  refine g_lv (lv' := [(0, .ref a0)]) [0] rfl ?_
  refine g_aload_n X (j := 0) dX5_isText_0 rfl ?_
  refine g_iconst (v := 0) X dX5_isText_1 (by decide) ?_
  refine g_put (q0 := 0) (k := 7) (ci := 5) (ws' := [(a0, .inr (5, [.ref b0_0, .ref b0_1, .ref b0_2, .int x0_kept, .ref a1, .int x0_typed, .int x0_thrown, .int 0, .int x0_isFault, .int x0_value, .ref a2, .int x0_tolds, .ref b0_12, .ref b0_13, .ref b0_14])), (a1, .inl (cI, 60, .inl f1)), (a2, .inl (cI, 124, .inl f2))]) X tyX5_ok nmX5 in_X5_isText_X5 fl_X5_isText_108 rfl rfl (Nat.le_of_ble_eq_true rfl) rfl rfl rfl (Nat.le_of_ble_eq_true rfl) dX5_isText_2 rfl ?_
  refine g_aload_n X (j := 0) dX5_isText_5 rfl ?_
  refine g_iconst (v := 0) X dX5_isText_6 (by decide) ?_
  refine g_put (q0 := 0) (k := 11) (ci := 5) (ws' := [(a0, .inr (5, [.ref b0_0, .ref b0_1, .ref b0_2, .int x0_kept, .ref a1, .int x0_typed, .int x0_thrown, .int 0, .int x0_isFault, .int x0_value, .ref a2, .int 0, .ref b0_12, .ref b0_13, .ref b0_14])), (a1, .inl (cI, 60, .inl f1)), (a2, .inl (cI, 124, .inl f2))]) X tyX5_ok nmX5 in_X5_isText_X5 fl_X5_isText_125 rfl rfl (Nat.le_of_ble_eq_true rfl) rfl rfl rfl (Nat.le_of_ble_eq_true rfl) dX5_isText_7 rfl ?_
  refine g_aload_n X (j := 0) dX5_isText_10 rfl ?_
  refine g_iconst (v := 0) X dX5_isText_11 (by decide) ?_
  refine g_put (q0 := 0) (k := 8) (ci := 5) (ws' := [(a0, .inr (5, [.ref b0_0, .ref b0_1, .ref b0_2, .int x0_kept, .ref a1, .int x0_typed, .int x0_thrown, .int 0, .int 0, .int x0_value, .ref a2, .int 0, .ref b0_12, .ref b0_13, .ref b0_14])), (a1, .inl (cI, 60, .inl f1)), (a2, .inl (cI, 124, .inl f2))]) X tyX5_ok nmX5 in_X5_isText_X5 fl_X5_isText_111 rfl rfl (Nat.le_of_ble_eq_true rfl) rfl rfl rfl (Nat.le_of_ble_eq_true rfl) dX5_isText_12 rfl ?_
  refine g_iconst (v := 1) X dX5_isText_15 (by decide) ?_
  refine g_istore_n (lv' := [(1, .int 1), (0, .ref a0)]) X dX5_isText_16 rfl (by decide) rfl ?_
  refine g_lv (lv' := [(0, .ref a0), (1, .int 1)]) [1, 0] rfl ?_
  refine wl_g2 h (u6 fun l1_1 w2 w3 w4 w5 w6 => [(a0, .inr (5, [.ref b0_0, .ref b0_1, .ref b0_2, .int x0_kept, .ref a1, .int x0_typed, .int x0_thrown, .int w2, .int w3, .int w5, .ref a2, .int w4, .ref b0_12, .ref b0_13, .ref b0_14])), (a1, .inl (cI, 60, .inl f1)), (a2, .inl (cI, 124, .inl w6))]) (u6 fun l1_1 w2 w3 w4 w5 w6 => [(0, .ref a0), (1, .int l1_1)]) rfl rfl (u5 fun w7 w8 w9 w10 w11 => [(a0, .inr (5, [.ref b0_0, .ref b0_1, .ref b0_2, .int x0_kept, .ref a1, .int x0_typed, .int x0_thrown, .int w7, .int w8, .int w10, .ref a2, .int w9, .ref b0_12, .ref b0_13, .ref b0_14])), (a1, .inl (cI, 60, .inl f1)), (a2, .inl (cI, 124, .inl w11))]) (u5 fun w7 w8 w9 w10 w11 => []) 28 (u5 fun w12 w13 w14 w15 w16 => [(a0, .inr (5, [.ref b0_0, .ref b0_1, .ref b0_2, .int x0_kept, .ref a1, .int x0_typed, .int x0_thrown, .int w12, .int w13, .int w15, .ref a2, .int w14, .ref b0_12, .ref b0_13, .ref b0_14])), (a1, .inl (cI, 60, .inl f1)), (a2, .inl (cI, 124, .inl w16))]) (u5 fun w12 w13 w14 w15 w16 => [(0, .ref a0)]) 70 ?_ ?_ ?_
  · rintro ⟨w7, w8, w9, w10, w11⟩ h
    dsimp only [u5] at h ⊢
    refine g_iconst (v := 0) X dX5_isText_28 (by decide) ?_
    have h := Option.some.inj h
    simp only [Prod.mk.injEq] at h
    obtain ⟨rfl, rfl, rfl, rfl, rfl, rfl⟩ := h
    exact g_zret X hr hlk (by decide) dX5_isText_29 rfl rfl
  · rintro ⟨w12, w13, w14, w15, w16⟩ h
    dsimp only [u5] at h ⊢
    refine g_aload_n X (j := 0) dX5_isText_70 rfl ?_
    refine g_aload_n X (j := 0) dX5_isText_71 rfl ?_
    refine g_get (q0 := 0) (k := 7) (ci := 5) X in_X5_isText_X5 fl_X5_isText_108 rfl rfl (Nat.le_of_ble_eq_true rfl) rfl dX5_isText_72 ?_
    refine g_aload_n X (j := 0) dX5_isText_75 rfl ?_
    refine g_get (q0 := 0) (k := 5) (ci := 5) X in_X5_isText_X5 fl_X5_isText_105 rfl rfl (Nat.le_of_ble_eq_true rfl) rfl dX5_isText_76 ?_
    refine jn_g h (u1 fun s25 => [(a0, .inr (5, [.ref b0_0, .ref b0_1, .ref b0_2, .int x0_kept, .ref a1, .int x0_typed, .int x0_thrown, .int w12, .int w13, .int w15, .ref a2, .int w14, .ref b0_12, .ref b0_13, .ref b0_14])), (a1, .inl (cI, 60, .inl f1)), (a2, .inl (cI, 124, .inl w16))]) (u1 fun s25 => [(0, .ref a0)]) (u1 fun s25 => [.int s25, .ref a0]) 87 ?_ ?_
    · rintro s25 h
      dsimp only [u1] at h ⊢
      obtain ⟨hz, h⟩ := gB_e h
      refine g_put (q0 := 0) (k := 8) (ci := 5) (ws' := [(a0, .inr (5, [.ref b0_0, .ref b0_1, .ref b0_2, .int x0_kept, .ref a1, .int x0_typed, .int x0_thrown, .int w12, .int s25, .int w15, .ref a2, .int w14, .ref b0_12, .ref b0_13, .ref b0_14])), (a1, .inl (cI, 60, .inl f1)), (a2, .inl (cI, 124, .inl w16))]) X tyX5_ok nmX5 in_X5_isText_X5 fl_X5_isText_111 rfl rfl (Nat.le_of_ble_eq_true rfl) rfl (g_zeroI hz) (g_zeroF hz) (Nat.le_of_ble_eq_true rfl) dX5_isText_87 rfl ?_
      refine g_aload_n X (j := 0) dX5_isText_90 rfl ?_
      refine g_get (q0 := 0) (k := 7) (ci := 5) X in_X5_isText_X5 fl_X5_isText_108 rfl rfl (Nat.le_of_ble_eq_true rfl) rfl dX5_isText_91 ?_
      refine g_aload_n X (j := 0) dX5_isText_94 rfl ?_
      refine g_get (q0 := 0) (k := 5) (ci := 5) X in_X5_isText_X5 fl_X5_isText_105 rfl rfl (Nat.le_of_ble_eq_true rfl) rfl dX5_isText_95 ?_
      refine jn_g h (u1 fun s27 => [(a0, .inr (5, [.ref b0_0, .ref b0_1, .ref b0_2, .int x0_kept, .ref a1, .int x0_typed, .int x0_thrown, .int w12, .int s25, .int w15, .ref a2, .int w14, .ref b0_12, .ref b0_13, .ref b0_14])), (a1, .inl (cI, 60, .inl f1)), (a2, .inl (cI, 124, .inl w16))]) (u1 fun s27 => []) (u1 fun s27 => [.int s27]) 106 ?_ ?_
      · rintro s27 h
        dsimp only [u1] at h ⊢
        obtain ⟨hz, h⟩ := gB_e h
        have h := Option.some.inj h
        simp only [Prod.mk.injEq] at h
        obtain ⟨rfl, rfl, rfl, rfl, rfl, rfl⟩ := h
        exact g_zret X hr hlk hz dX5_isText_106 rfl rfl
      · intro K28 hK28 h
        refine g_icmp_ne (tgt := 105) X h dX5_isText_98 (by decide) (fun h => ?_) (fun h => ?_)
        · refine g_iconst (v := 0) X dX5_isText_105 (by decide) ?_
          refine g_lv (lv' := []) [] rfl ?_
          exact hK28 0 h
        · refine g_iconst (v := 1) X dX5_isText_101 (by decide) ?_
          refine g_goto (tgt := 106) X dX5_isText_102 (by decide) ?_
          refine g_lv (lv' := []) [] rfl ?_
          exact hK28 1 h
    · intro K26 hK26 h
      refine g_icmp_ge (tgt := 86) X h dX5_isText_79 (by decide) (fun h => ?_) (fun h => ?_)
      · refine g_iconst (v := 0) X dX5_isText_86 (by decide) ?_
        exact hK26 0 h
      · refine g_iconst (v := 1) X dX5_isText_82 (by decide) ?_
        refine g_goto (tgt := 87) X dX5_isText_83 (by decide) ?_
        exact hK26 1 h
  · rintro ⟨l1_1, w2, w3, w4, w5, w6⟩ o h hI hE hF
    dsimp only [u6] at h ⊢
    refine g_iload_n X (j := 1) dX5_isText_17 rfl ?_
    refine g_if_eq (tgt := 70) X h dX5_isText_18 (by decide) (fun h => ?_) (fun h => ?_)
    · refine g_lv (lv' := [(0, .ref a0)]) [0] rfl ?_
      exact hF (w2, w3, w4, w5, w6) (Option.some.inj h).symm
    · refine g_aload_n X (j := 0) dX5_isText_21 rfl ?_
      obtain ⟨r17, o18, o19, o20, o21, hc, h⟩ := bd5 h
      refine g_callV (q0 := 0) (ci := 5) (is := [0, 1, 2]) (As := []) (ws' := [(a0, .inr (5, [.ref b0_0, .ref b0_1, .ref b0_2, .int x0_kept, .ref a1, .int x0_typed, .int x0_thrown, .int o18, .int o19, .int o20, .ref a2, .int w4, .ref b0_12, .ref b0_13, .ref b0_14])), (a1, .inl (cI, 60, .inl f1)), (a2, .inl (cI, 124, .inl o21))]) (st := []) X (c_X5_isPart l D cI cS cL a0 a1 a2 b0_0 b0_1 b0_2 b0_12 b0_13 b0_14 x0_kept x0_typed x0_thrown w2 w3 w5 w4 f1 w6 r17 o18 o19 o20 o21 hc) gX5_isText_X5_isPart rfl ⟨rfl, rfl⟩ hd_X5_isPart ⟨Nat.le_of_ble_eq_true rfl, Nat.le_of_ble_eq_true rfl⟩ ⟨Nat.zero_le _, Nat.zero_le _⟩ rfl rfl rfl rfl rfl rfl rfl (Nat.le_of_ble_eq_true rfl) rfl dX5_isText_22 ?_
      refine g_if_ne (tgt := 30) X h dX5_isText_25 (by decide) (fun h => ?_) (fun h => ?_)
      · refine g_aload_n X (j := 0) dX5_isText_30 rfl ?_
        refine g_dup X dX5_isText_31 rfl ?_
        refine g_get (q0 := 0) (k := 11) (ci := 5) X in_X5_isText_X5 fl_X5_isText_125 rfl rfl (Nat.le_of_ble_eq_true rfl) rfl dX5_isText_32 ?_
        refine g_iconst (v := 1) X dX5_isText_35 (by decide) ?_
        refine g_iadd X dX5_isText_36 ?_
        refine g_put (q0 := 0) (k := 11) (ci := 5) (ws' := [(a0, .inr (5, [.ref b0_0, .ref b0_1, .ref b0_2, .int x0_kept, .ref a1, .int x0_typed, .int x0_thrown, .int o18, .int o19, .int o20, .ref a2, .int (w4 + 1), .ref b0_12, .ref b0_13, .ref b0_14])), (a1, .inl (cI, 60, .inl f1)), (a2, .inl (cI, 124, .inl o21))]) X tyX5_ok nmX5 in_X5_isText_X5 fl_X5_isText_125 rfl rfl (Nat.le_of_ble_eq_true rfl) rfl rfl rfl (Nat.le_of_ble_eq_true rfl) dX5_isText_37 rfl ?_
        refine g_aload_n X (j := 0) dX5_isText_40 rfl ?_
        refine g_bipush (v := 59) X dX5_isText_41 (by decide) ?_
        refine g_bipush (v := 59) X dX5_isText_43 (by decide) ?_
        obtain ⟨r22, hc, h⟩ := bd1 h
        refine g_callV (q0 := 0) (ci := 5) (is := [0, 1]) (As := [.int 59, .int 59]) (ws' := [(a0, .inr (5, [.ref b0_0, .ref b0_1, .ref b0_2, .int x0_kept, .ref a1, .int x0_typed, .int x0_thrown, .int o18, .int o19, .int o20, .ref a2, .int (w4 + 1), .ref b0_12, .ref b0_13, .ref b0_14])), (a1, .inl (cI, 60, .inl f1)), (a2, .inl (cI, 124, .inl o21))]) (st := []) X (c_X5_isAt l D cI cS cL a0 a1 b0_0 b0_1 b0_2 a2 b0_12 b0_13 b0_14 59 59 x0_kept x0_typed x0_thrown o18 o19 o20 (w4 + 1) f1 r22 hc) gX5_isText_X5_isAt rfl ⟨rfl, rfl⟩ hd_X5_isAt ⟨Nat.le_of_ble_eq_true rfl, Nat.le_of_ble_eq_true rfl⟩ ⟨Nat.zero_le _, Nat.zero_le _⟩ rfl rfl rfl rfl rfl rfl rfl (Nat.le_of_ble_eq_true rfl) rfl dX5_isText_45 ?_
        refine g_istore_n (lv' := [(1, .int r22), (0, .ref a0)]) X dX5_isText_48 rfl (by decide) rfl ?_
        refine g_aload_n X (j := 1) dX5_isText_49 rfl ?_
        refine g_dup X dX5_isText_50 rfl ?_
        refine g_get (q0 := 0) (k := 7) (ci := 5) X in_X5_isText_X5 fl_X5_isText_108 rfl rfl (Nat.le_of_ble_eq_true rfl) rfl dX5_isText_51 ?_
        refine g_iload_n X (j := 0) dX5_isText_54 rfl ?_
        refine jn_g h (u1 fun s23 => [(a0, .inr (5, [.ref b0_0, .ref b0_1, .ref b0_2, .int x0_kept, .ref a1, .int x0_typed, .int x0_thrown, .int o18, .int o19, .int o20, .ref a2, .int (w4 + 1), .ref b0_12, .ref b0_13, .ref b0_14])), (a1, .inl (cI, 60, .inl f1)), (a2, .inl (cI, 124, .inl o21))]) (u1 fun s23 => [(0, .ref a0), (1, .int r22)]) (u1 fun s23 => [.int s23, .int o18, .ref a0]) 63 ?_ ?_
        · rintro s23 h
          dsimp only [u1] at h ⊢
          refine g_iadd X dX5_isText_63 ?_
          refine g_put (q0 := 0) (k := 7) (ci := 5) (ws' := [(a0, .inr (5, [.ref b0_0, .ref b0_1, .ref b0_2, .int x0_kept, .ref a1, .int x0_typed, .int x0_thrown, .int (o18 + s23), .int o19, .int o20, .ref a2, .int (w4 + 1), .ref b0_12, .ref b0_13, .ref b0_14])), (a1, .inl (cI, 60, .inl f1)), (a2, .inl (cI, 124, .inl o21))]) X tyX5_ok nmX5 in_X5_isText_X5 fl_X5_isText_108 rfl rfl (Nat.le_of_ble_eq_true rfl) rfl rfl rfl (Nat.le_of_ble_eq_true rfl) dX5_isText_64 rfl ?_
          refine g_goto (tgt := 17) X dX5_isText_67 (by decide) ?_
          exact hI (r22, (o18 + s23), o19, (w4 + 1), o20, o21) (Option.some.inj h).symm
        · intro K24 hK24 h
          refine g_if_eq (tgt := 62) X h dX5_isText_55 (by decide) (fun h => ?_) (fun h => ?_)
          · refine g_iconst (v := 0) X dX5_isText_62 (by decide) ?_
            refine g_lv (lv' := [(0, .ref a0), (1, .int r22)]) [1, 0] rfl ?_
            exact hK24 0 h
          · refine g_iconst (v := 1) X dX5_isText_58 (by decide) ?_
            refine g_goto (tgt := 63) X dX5_isText_59 (by decide) ?_
            refine g_lv (lv' := [(0, .ref a0), (1, .int r22)]) [1, 0] rfl ?_
            exact hK24 1 h
      · refine g_lv (lv' := []) [] rfl ?_
        exact hE (o18, o19, w4, o20, o21) (Option.some.inj h).symm
