set_option maxRecDepth 20000 in
theorem ggX5_laysAhead_X5_by : GoodIn wsX5_laysAhead wsX5_by := goodIn_r _ [5, 6, 7, 4, 8, 9, 10, 11] (by decide +kernel) (by decide +kernel)
set_option maxRecDepth 20000 in
theorem gX5_laysAhead_X5_by : GoodIn wsX5_laysAhead (va_wsS RX5 61 yX5_by wsX5_by) := goodIn_app (goodIn_of _ (by decide +kernel)) ggX5_laysAhead_X5_by
theorem dX5_laysAhead_0 : decode cX5_laysAhead 0 = .ok (.iconst 0, 1) := by decide +kernel
theorem dX5_laysAhead_1 : decode cX5_laysAhead 1 = .ok (.istore_n 2, 1) := by decide +kernel
theorem dX5_laysAhead_2 : decode cX5_laysAhead 2 = .ok (.iload_n 2, 1) := by decide +kernel
theorem dX5_laysAhead_3 : decode cX5_laysAhead 3 = .ok (.bipush 10, 2) := by decide +kernel
theorem dX5_laysAhead_5 : decode cX5_laysAhead 5 = .ok (.if_icmp .ge 70, 3) := by decide +kernel
theorem dX5_laysAhead_8 : decode cX5_laysAhead 8 = .ok (.aload_n 0, 1) := by decide +kernel
theorem dX5_laysAhead_9 : decode cX5_laysAhead 9 = .ok (.getfield 25, 3) := by decide +kernel
theorem dX5_laysAhead_12 : decode cX5_laysAhead 12 = .ok (.iload_n 2, 1) := by decide +kernel
theorem dX5_laysAhead_13 : decode cX5_laysAhead 13 = .ok (.iconst 0, 1) := by decide +kernel
theorem dX5_laysAhead_14 : decode cX5_laysAhead 14 = .ok (.iastore, 1) := by decide +kernel
theorem dX5_laysAhead_15 : decode cX5_laysAhead 15 = .ok (.iconst 0, 1) := by decide +kernel
theorem dX5_laysAhead_16 : decode cX5_laysAhead 16 = .ok (.istore_n 3, 1) := by decide +kernel
theorem dX5_laysAhead_17 : decode cX5_laysAhead 17 = .ok (.iload_n 3, 1) := by decide +kernel
theorem dX5_laysAhead_18 : decode cX5_laysAhead 18 = .ok (.aload_n 1, 1) := by decide +kernel
theorem dX5_laysAhead_19 : decode cX5_laysAhead 19 = .ok (.bipush 40, 2) := by decide +kernel
theorem dX5_laysAhead_21 : decode cX5_laysAhead 21 = .ok (.iaload, 1) := by decide +kernel
theorem dX5_laysAhead_22 : decode cX5_laysAhead 22 = .ok (.if_icmp .ge 47, 3) := by decide +kernel
theorem dX5_laysAhead_25 : decode cX5_laysAhead 25 = .ok (.iload_n 2, 1) := by decide +kernel
theorem dX5_laysAhead_26 : decode cX5_laysAhead 26 = .ok (.aload_n 1, 1) := by decide +kernel
theorem dX5_laysAhead_27 : decode cX5_laysAhead 27 = .ok (.bipush 40, 2) := by decide +kernel
theorem dX5_laysAhead_29 : decode cX5_laysAhead 29 = .ok (.iaload, 1) := by decide +kernel
theorem dX5_laysAhead_30 : decode cX5_laysAhead 30 = .ok (.if_icmp .ge 39, 3) := by decide +kernel
theorem dX5_laysAhead_33 : decode cX5_laysAhead 33 = .ok (.aload_n 0, 1) := by decide +kernel
theorem dX5_laysAhead_34 : decode cX5_laysAhead 34 = .ok (.getfield 25, 3) := by decide +kernel
theorem dX5_laysAhead_37 : decode cX5_laysAhead 37 = .ok (.iload_n 2, 1) := by decide +kernel
theorem dX5_laysAhead_38 : decode cX5_laysAhead 38 = .ok (.dup2, 1) := by decide +kernel
theorem dX5_laysAhead_39 : decode cX5_laysAhead 39 = .ok (.iaload, 1) := by decide +kernel
theorem dX5_laysAhead_40 : decode cX5_laysAhead 40 = .ok (.iload_n 3, 1) := by decide +kernel
theorem dX5_laysAhead_41 : decode cX5_laysAhead 41 = .ok (.iload_n 2, 1) := by decide +kernel
theorem dX5_laysAhead_42 : decode cX5_laysAhead 42 = .ok (.if_icmp .eq 18, 3) := by decide +kernel
theorem dX5_laysAhead_45 : decode cX5_laysAhead 45 = .ok (.aload_n 1, 1) := by decide +kernel
theorem dX5_laysAhead_46 : decode cX5_laysAhead 46 = .ok (.iload_n 3, 1) := by decide +kernel
theorem dX5_laysAhead_47 : decode cX5_laysAhead 47 = .ok (.iload_n 2, 1) := by decide +kernel
theorem dX5_laysAhead_48 : decode cX5_laysAhead 48 = .ok (.invokestatic 61, 3) := by decide +kernel
theorem dX5_laysAhead_51 : decode cX5_laysAhead 51 = .ok (.ifCond .eq 9, 3) := by decide +kernel
theorem dX5_laysAhead_54 : decode cX5_laysAhead 54 = .ok (.iconst 1, 1) := by decide +kernel
theorem dX5_laysAhead_55 : decode cX5_laysAhead 55 = .ok (.iload_n 3, 1) := by decide +kernel
theorem dX5_laysAhead_56 : decode cX5_laysAhead 56 = .ok (.ishl, 1) := by decide +kernel
theorem dX5_laysAhead_57 : decode cX5_laysAhead 57 = .ok (.goto 4, 3) := by decide +kernel
theorem dX5_laysAhead_60 : decode cX5_laysAhead 60 = .ok (.iconst 0, 1) := by decide +kernel
theorem dX5_laysAhead_61 : decode cX5_laysAhead 61 = .ok (.ior, 1) := by decide +kernel
theorem dX5_laysAhead_62 : decode cX5_laysAhead 62 = .ok (.iastore, 1) := by decide +kernel
theorem dX5_laysAhead_63 : decode cX5_laysAhead 63 = .ok (.iinc 3 1, 3) := by decide +kernel
theorem dX5_laysAhead_66 : decode cX5_laysAhead 66 = .ok (.goto (-49), 3) := by decide +kernel
theorem dX5_laysAhead_69 : decode cX5_laysAhead 69 = .ok (.iinc 2 1, 3) := by decide +kernel
theorem dX5_laysAhead_72 : decode cX5_laysAhead 72 = .ok (.goto (-70), 3) := by decide +kernel
theorem dX5_laysAhead_75 : decode cX5_laysAhead 75 = .ok (.return_, 1) := by decide +kernel
set_option maxRecDepth 20000 in
theorem ggX5_lays_X5_laysAhead : GoodIn wsX5_lays wsX5_laysAhead := goodIn_r _ [6, 7, 8, 9, 5, 10, 11, 12, 13, 14, 15, 16, 21, 22, 23, 24, 25, 26, 27, 28, 29, 30, 31, 32, 33, 34, 35] (by decide +kernel) (by decide +kernel)
set_option maxRecDepth 20000 in
theorem gX5_lays_X5_laysAhead : GoodIn wsX5_lays (wsV RX5 64 RX5 yX5_laysAhead wsX5_laysAhead) := goodIn_app (goodIn_of _ (by decide +kernel)) ggX5_lays_X5_laysAhead
set_option maxRecDepth 20000 in
theorem ggX5_lays_X5_isLast : GoodIn wsX5_lays wsX5_isLast := goodIn_r _ [20, 7, 21, 22, 23, 24, 25, 26, 27, 28, 29, 30, 31, 32, 33, 34, 35] (by decide +kernel) (by decide +kernel)
set_option maxRecDepth 20000 in
theorem gX5_lays_X5_isLast : GoodIn wsX5_lays (wsV RX5 68 RX5 yX5_isLast wsX5_isLast) := goodIn_app (goodIn_of _ (by decide +kernel)) ggX5_lays_X5_isLast
theorem dX5_lays_0 : decode cX5_lays 0 = .ok (.aload_n 0, 1) := by decide +kernel
theorem dX5_lays_1 : decode cX5_lays 1 = .ok (.aload_n 1, 1) := by decide +kernel
theorem dX5_lays_2 : decode cX5_lays 2 = .ok (.invokevirtual 64, 3) := by decide +kernel
theorem dX5_lays_5 : decode cX5_lays 5 = .ok (.aload_n 0, 1) := by decide +kernel
theorem dX5_lays_6 : decode cX5_lays 6 = .ok (.getfield 28, 3) := by decide +kernel
theorem dX5_lays_9 : decode cX5_lays 9 = .ok (.iconst 0, 1) := by decide +kernel
theorem dX5_lays_10 : decode cX5_lays 10 = .ok (.iconst 1, 1) := by decide +kernel
theorem dX5_lays_11 : decode cX5_lays 11 = .ok (.iastore, 1) := by decide +kernel
theorem dX5_lays_12 : decode cX5_lays 12 = .ok (.iconst 1, 1) := by decide +kernel
theorem dX5_lays_13 : decode cX5_lays 13 = .ok (.istore_n 2, 1) := by decide +kernel
theorem dX5_lays_14 : decode cX5_lays 14 = .ok (.iload_n 2, 1) := by decide +kernel
theorem dX5_lays_15 : decode cX5_lays 15 = .ok (.iconst 1, 1) := by decide +kernel
theorem dX5_lays_16 : decode cX5_lays 16 = .ok (.aload_n 1, 1) := by decide +kernel
theorem dX5_lays_17 : decode cX5_lays 17 = .ok (.bipush 40, 2) := by decide +kernel
theorem dX5_lays_19 : decode cX5_lays 19 = .ok (.iaload, 1) := by decide +kernel
theorem dX5_lays_20 : decode cX5_lays 20 = .ok (.ishl, 1) := by decide +kernel
theorem dX5_lays_21 : decode cX5_lays 21 = .ok (.if_icmp .ge 77, 3) := by decide +kernel
theorem dX5_lays_24 : decode cX5_lays 24 = .ok (.iconst 0, 1) := by decide +kernel
theorem dX5_lays_25 : decode cX5_lays 25 = .ok (.istore_n 3, 1) := by decide +kernel
theorem dX5_lays_26 : decode cX5_lays 26 = .ok (.iconst 0, 1) := by decide +kernel
theorem dX5_lays_27 : decode cX5_lays 27 = .ok (.istore 4, 2) := by decide +kernel
theorem dX5_lays_29 : decode cX5_lays 29 = .ok (.iload 4, 2) := by decide +kernel
theorem dX5_lays_31 : decode cX5_lays 31 = .ok (.aload_n 1, 1) := by decide +kernel
theorem dX5_lays_32 : decode cX5_lays 32 = .ok (.bipush 40, 2) := by decide +kernel
theorem dX5_lays_34 : decode cX5_lays 34 = .ok (.iaload, 1) := by decide +kernel
theorem dX5_lays_35 : decode cX5_lays 35 = .ok (.if_icmp .ge 50, 3) := by decide +kernel
theorem dX5_lays_38 : decode cX5_lays 38 = .ok (.iload_n 3, 1) := by decide +kernel
theorem dX5_lays_39 : decode cX5_lays 39 = .ok (.iload_n 2, 1) := by decide +kernel
theorem dX5_lays_40 : decode cX5_lays 40 = .ok (.iload 4, 2) := by decide +kernel
theorem dX5_lays_42 : decode cX5_lays 42 = .ok (.ishr, 1) := by decide +kernel
theorem dX5_lays_43 : decode cX5_lays 43 = .ok (.iconst 1, 1) := by decide +kernel
theorem dX5_lays_44 : decode cX5_lays 44 = .ok (.iand, 1) := by decide +kernel
theorem dX5_lays_45 : decode cX5_lays 45 = .ok (.iconst 1, 1) := by decide +kernel
theorem dX5_lays_46 : decode cX5_lays 46 = .ok (.if_icmp .ne 30, 3) := by decide +kernel
theorem dX5_lays_49 : decode cX5_lays 49 = .ok (.aload_n 0, 1) := by decide +kernel
theorem dX5_lays_50 : decode cX5_lays 50 = .ok (.aload_n 1, 1) := by decide +kernel
theorem dX5_lays_51 : decode cX5_lays 51 = .ok (.iload 4, 2) := by decide +kernel
theorem dX5_lays_53 : decode cX5_lays 53 = .ok (.iload_n 2, 1) := by decide +kernel
theorem dX5_lays_54 : decode cX5_lays 54 = .ok (.invokevirtual 68, 3) := by decide +kernel
theorem dX5_lays_57 : decode cX5_lays 57 = .ok (.ifCond .eq 19, 3) := by decide +kernel
theorem dX5_lays_60 : decode cX5_lays 60 = .ok (.aload_n 0, 1) := by decide +kernel
theorem dX5_lays_61 : decode cX5_lays 61 = .ok (.getfield 28, 3) := by decide +kernel
theorem dX5_lays_64 : decode cX5_lays 64 = .ok (.iload_n 2, 1) := by decide +kernel
theorem dX5_lays_65 : decode cX5_lays 65 = .ok (.iconst 1, 1) := by decide +kernel
theorem dX5_lays_66 : decode cX5_lays 66 = .ok (.iload 4, 2) := by decide +kernel
theorem dX5_lays_68 : decode cX5_lays 68 = .ok (.ishl, 1) := by decide +kernel
theorem dX5_lays_69 : decode cX5_lays 69 = .ok (.iconst (-1), 1) := by decide +kernel
theorem dX5_lays_70 : decode cX5_lays 70 = .ok (.ixor, 1) := by decide +kernel
theorem dX5_lays_71 : decode cX5_lays 71 = .ok (.iand, 1) := by decide +kernel
theorem dX5_lays_72 : decode cX5_lays 72 = .ok (.iaload, 1) := by decide +kernel
theorem dX5_lays_73 : decode cX5_lays 73 = .ok (.goto 4, 3) := by decide +kernel
theorem dX5_lays_76 : decode cX5_lays 76 = .ok (.iconst 0, 1) := by decide +kernel
theorem dX5_lays_77 : decode cX5_lays 77 = .ok (.iadd, 1) := by decide +kernel
theorem dX5_lays_78 : decode cX5_lays 78 = .ok (.istore_n 3, 1) := by decide +kernel
theorem dX5_lays_79 : decode cX5_lays 79 = .ok (.iinc 4 1, 3) := by decide +kernel
theorem dX5_lays_82 : decode cX5_lays 82 = .ok (.goto (-53), 3) := by decide +kernel
theorem dX5_lays_85 : decode cX5_lays 85 = .ok (.aload_n 0, 1) := by decide +kernel
theorem dX5_lays_86 : decode cX5_lays 86 = .ok (.getfield 28, 3) := by decide +kernel
theorem dX5_lays_89 : decode cX5_lays 89 = .ok (.iload_n 2, 1) := by decide +kernel
theorem dX5_lays_90 : decode cX5_lays 90 = .ok (.iload_n 3, 1) := by decide +kernel
theorem dX5_lays_91 : decode cX5_lays 91 = .ok (.iastore, 1) := by decide +kernel
theorem dX5_lays_92 : decode cX5_lays 92 = .ok (.iinc 2 1, 3) := by decide +kernel
theorem dX5_lays_95 : decode cX5_lays 95 = .ok (.goto (-81), 3) := by decide +kernel
theorem dX5_lays_98 : decode cX5_lays 98 = .ok (.return_, 1) := by decide +kernel
theorem dX5_isLast_0 : decode cX5_isLast 0 = .ok (.iconst 1, 1) := by decide +kernel
theorem dX5_isLast_1 : decode cX5_isLast 1 = .ok (.istore 4, 2) := by decide +kernel
theorem dX5_isLast_3 : decode cX5_isLast 3 = .ok (.iconst 0, 1) := by decide +kernel
theorem dX5_isLast_4 : decode cX5_isLast 4 = .ok (.istore 5, 2) := by decide +kernel
theorem dX5_isLast_6 : decode cX5_isLast 6 = .ok (.iload 5, 2) := by decide +kernel
theorem dX5_isLast_8 : decode cX5_isLast 8 = .ok (.aload_n 1, 1) := by decide +kernel
theorem dX5_isLast_9 : decode cX5_isLast 9 = .ok (.bipush 40, 2) := by decide +kernel
theorem dX5_isLast_11 : decode cX5_isLast 11 = .ok (.iaload, 1) := by decide +kernel
theorem dX5_isLast_12 : decode cX5_isLast 12 = .ok (.if_icmp .ge 44, 3) := by decide +kernel
theorem dX5_isLast_15 : decode cX5_isLast 15 = .ok (.iload 4, 2) := by decide +kernel
theorem dX5_isLast_17 : decode cX5_isLast 17 = .ok (.ifCond .eq 39, 3) := by decide +kernel
theorem dX5_isLast_20 : decode cX5_isLast 20 = .ok (.iload_n 3, 1) := by decide +kernel
theorem dX5_isLast_21 : decode cX5_isLast 21 = .ok (.iload 5, 2) := by decide +kernel
theorem dX5_isLast_23 : decode cX5_isLast 23 = .ok (.ishr, 1) := by decide +kernel
theorem dX5_isLast_24 : decode cX5_isLast 24 = .ok (.iconst 1, 1) := by decide +kernel
theorem dX5_isLast_25 : decode cX5_isLast 25 = .ok (.iand, 1) := by decide +kernel
theorem dX5_isLast_26 : decode cX5_isLast 26 = .ok (.ifCond .eq 17, 3) := by decide +kernel
theorem dX5_isLast_29 : decode cX5_isLast 29 = .ok (.aload_n 0, 1) := by decide +kernel
theorem dX5_isLast_30 : decode cX5_isLast 30 = .ok (.getfield 25, 3) := by decide +kernel
theorem dX5_isLast_33 : decode cX5_isLast 33 = .ok (.iload 5, 2) := by decide +kernel
theorem dX5_isLast_35 : decode cX5_isLast 35 = .ok (.iaload, 1) := by decide +kernel
theorem dX5_isLast_36 : decode cX5_isLast 36 = .ok (.iload_n 2, 1) := by decide +kernel
theorem dX5_isLast_37 : decode cX5_isLast 37 = .ok (.ishr, 1) := by decide +kernel
theorem dX5_isLast_38 : decode cX5_isLast 38 = .ok (.iconst 1, 1) := by decide +kernel
theorem dX5_isLast_39 : decode cX5_isLast 39 = .ok (.iand, 1) := by decide +kernel
theorem dX5_isLast_40 : decode cX5_isLast 40 = .ok (.ifCond .ne 7, 3) := by decide +kernel
theorem dX5_isLast_43 : decode cX5_isLast 43 = .ok (.iconst 1, 1) := by decide +kernel
theorem dX5_isLast_44 : decode cX5_isLast 44 = .ok (.goto 4, 3) := by decide +kernel
theorem dX5_isLast_47 : decode cX5_isLast 47 = .ok (.iconst 0, 1) := by decide +kernel
theorem dX5_isLast_48 : decode cX5_isLast 48 = .ok (.istore 4, 2) := by decide +kernel
theorem dX5_isLast_50 : decode cX5_isLast 50 = .ok (.iinc 5 1, 3) := by decide +kernel
theorem dX5_isLast_53 : decode cX5_isLast 53 = .ok (.goto (-47), 3) := by decide +kernel
theorem dX5_isLast_56 : decode cX5_isLast 56 = .ok (.iload 4, 2) := by decide +kernel
theorem dX5_isLast_58 : decode cX5_isLast 58 = .ok (.ireturn, 1) := by decide +kernel
set_option maxRecDepth 20000 in
theorem ggX5_fits_X5_lays : GoodIn wsX5_fits wsX5_lays := goodIn_r _ [6, 1, 7, 8, 9, 5, 10, 11, 12, 13, 14, 15, 16, 17, 18, 19, 20, 21, 22, 23, 24, 25, 26, 27, 28, 29, 30, 31, 32, 33, 34, 35, 36, 37, 38, 39] (by decide +kernel) (by decide +kernel)
set_option maxRecDepth 20000 in
theorem gX5_fits_X5_lays : GoodIn wsX5_fits (wsV RX5 72 RX5 yX5_lays wsX5_lays) := goodIn_app (goodIn_of _ (by decide +kernel)) ggX5_fits_X5_lays
theorem dX5_fits_0 : decode cX5_fits 0 = .ok (.aload_n 0, 1) := by decide +kernel
theorem dX5_fits_1 : decode cX5_fits 1 = .ok (.aload_n 1, 1) := by decide +kernel
theorem dX5_fits_2 : decode cX5_fits 2 = .ok (.invokevirtual 72, 3) := by decide +kernel
theorem dX5_fits_5 : decode cX5_fits 5 = .ok (.aload_n 0, 1) := by decide +kernel
theorem dX5_fits_6 : decode cX5_fits 6 = .ok (.getfield 28, 3) := by decide +kernel
theorem dX5_fits_9 : decode cX5_fits 9 = .ok (.iconst 1, 1) := by decide +kernel
theorem dX5_fits_10 : decode cX5_fits 10 = .ok (.aload_n 1, 1) := by decide +kernel
theorem dX5_fits_11 : decode cX5_fits 11 = .ok (.bipush 40, 2) := by decide +kernel
theorem dX5_fits_13 : decode cX5_fits 13 = .ok (.iaload, 1) := by decide +kernel
theorem dX5_fits_14 : decode cX5_fits 14 = .ok (.ishl, 1) := by decide +kernel
theorem dX5_fits_15 : decode cX5_fits 15 = .ok (.iconst 1, 1) := by decide +kernel
theorem dX5_fits_16 : decode cX5_fits 16 = .ok (.isub, 1) := by decide +kernel
theorem dX5_fits_17 : decode cX5_fits 17 = .ok (.iaload, 1) := by decide +kernel
theorem dX5_fits_18 : decode cX5_fits 18 = .ok (.ireturn, 1) := by decide +kernel
set_option maxRecDepth 20000 in
theorem ggX5_dates_X5_laysAhead : GoodIn wsX5_dates wsX5_laysAhead := goodIn_r _ [7, 2, 8, 9, 6, 10, 11, 12, 13, 14, 15, 16, 17, 18, 19, 20, 21, 22, 23, 24, 25, 26, 27, 28, 29, 30, 31] (by decide +kernel) (by decide +kernel)
set_option maxRecDepth 20000 in
theorem gX5_dates_X5_laysAhead : GoodIn wsX5_dates (wsV RX5 64 RX5 yX5_laysAhead wsX5_laysAhead) := goodIn_app (goodIn_of _ (by decide +kernel)) ggX5_dates_X5_laysAhead
set_option maxRecDepth 20000 in
theorem ggX5_dates_X5_of : GoodIn wsX5_dates wsX5_of := goodIn_r _ [13] (by decide +kernel) (by decide +kernel)
set_option maxRecDepth 20000 in
theorem gX5_dates_X5_of : GoodIn wsX5_dates (va_wsS RX5 53 yX5_of wsX5_of) := goodIn_app (goodIn_of _ (by decide +kernel)) ggX5_dates_X5_of
theorem dX5_dates_0 : decode cX5_dates 0 = .ok (.aload_n 0, 1) := by decide +kernel
theorem dX5_dates_1 : decode cX5_dates 1 = .ok (.aload_n 1, 1) := by decide +kernel
theorem dX5_dates_2 : decode cX5_dates 2 = .ok (.invokevirtual 64, 3) := by decide +kernel
theorem dX5_dates_5 : decode cX5_dates 5 = .ok (.iconst 0, 1) := by decide +kernel
theorem dX5_dates_6 : decode cX5_dates 6 = .ok (.istore_n 2, 1) := by decide +kernel
theorem dX5_dates_7 : decode cX5_dates 7 = .ok (.iload_n 2, 1) := by decide +kernel
theorem dX5_dates_8 : decode cX5_dates 8 = .ok (.aload_n 1, 1) := by decide +kernel
theorem dX5_dates_9 : decode cX5_dates 9 = .ok (.bipush 40, 2) := by decide +kernel
theorem dX5_dates_11 : decode cX5_dates 11 = .ok (.iaload, 1) := by decide +kernel
theorem dX5_dates_12 : decode cX5_dates 12 = .ok (.if_icmp .ge 58, 3) := by decide +kernel
theorem dX5_dates_15 : decode cX5_dates 15 = .ok (.aload_n 1, 1) := by decide +kernel
theorem dX5_dates_16 : decode cX5_dates 16 = .ok (.iload_n 2, 1) := by decide +kernel
theorem dX5_dates_17 : decode cX5_dates 17 = .ok (.iconst 3, 1) := by decide +kernel
theorem dX5_dates_18 : decode cX5_dates 18 = .ok (.invokestatic 53, 3) := by decide +kernel
theorem dX5_dates_21 : decode cX5_dates 21 = .ok (.istore_n 3, 1) := by decide +kernel
theorem dX5_dates_22 : decode cX5_dates 22 = .ok (.aload_n 0, 1) := by decide +kernel
theorem dX5_dates_23 : decode cX5_dates 23 = .ok (.getfield 31, 3) := by decide +kernel
theorem dX5_dates_26 : decode cX5_dates 26 = .ok (.iconst 2, 1) := by decide +kernel
theorem dX5_dates_27 : decode cX5_dates 27 = .ok (.iload_n 2, 1) := by decide +kernel
theorem dX5_dates_28 : decode cX5_dates 28 = .ok (.imul, 1) := by decide +kernel
theorem dX5_dates_29 : decode cX5_dates 29 = .ok (.iload_n 3, 1) := by decide +kernel
theorem dX5_dates_30 : decode cX5_dates 30 = .ok (.iconst (-1), 1) := by decide +kernel
theorem dX5_dates_31 : decode cX5_dates 31 = .ok (.if_icmp .ne 9, 3) := by decide +kernel
theorem dX5_dates_34 : decode cX5_dates 34 = .ok (.sipush 1450, 3) := by decide +kernel
theorem dX5_dates_37 : decode cX5_dates 37 = .ok (.goto 4, 3) := by decide +kernel
theorem dX5_dates_40 : decode cX5_dates 40 = .ok (.iload_n 3, 1) := by decide +kernel
theorem dX5_dates_41 : decode cX5_dates 41 = .ok (.iastore, 1) := by decide +kernel
theorem dX5_dates_42 : decode cX5_dates 42 = .ok (.aload_n 0, 1) := by decide +kernel
theorem dX5_dates_43 : decode cX5_dates 43 = .ok (.getfield 31, 3) := by decide +kernel
theorem dX5_dates_46 : decode cX5_dates 46 = .ok (.iconst 2, 1) := by decide +kernel
theorem dX5_dates_47 : decode cX5_dates 47 = .ok (.iload_n 2, 1) := by decide +kernel
theorem dX5_dates_48 : decode cX5_dates 48 = .ok (.imul, 1) := by decide +kernel
theorem dX5_dates_49 : decode cX5_dates 49 = .ok (.iconst 1, 1) := by decide +kernel
theorem dX5_dates_50 : decode cX5_dates 50 = .ok (.iadd, 1) := by decide +kernel
theorem dX5_dates_51 : decode cX5_dates 51 = .ok (.iload_n 3, 1) := by decide +kernel
theorem dX5_dates_52 : decode cX5_dates 52 = .ok (.iconst (-1), 1) := by decide +kernel
theorem dX5_dates_53 : decode cX5_dates 53 = .ok (.if_icmp .ne 9, 3) := by decide +kernel
theorem dX5_dates_56 : decode cX5_dates 56 = .ok (.sipush 1999, 3) := by decide +kernel
theorem dX5_dates_59 : decode cX5_dates 59 = .ok (.goto 4, 3) := by decide +kernel
theorem dX5_dates_62 : decode cX5_dates 62 = .ok (.iload_n 3, 1) := by decide +kernel
theorem dX5_dates_63 : decode cX5_dates 63 = .ok (.iastore, 1) := by decide +kernel
theorem dX5_dates_64 : decode cX5_dates 64 = .ok (.iinc 2 1, 3) := by decide +kernel
theorem dX5_dates_67 : decode cX5_dates 67 = .ok (.goto (-60), 3) := by decide +kernel
theorem dX5_dates_70 : decode cX5_dates 70 = .ok (.iconst 0, 1) := by decide +kernel
theorem dX5_dates_71 : decode cX5_dates 71 = .ok (.istore_n 2, 1) := by decide +kernel
theorem dX5_dates_72 : decode cX5_dates 72 = .ok (.iload_n 2, 1) := by decide +kernel
theorem dX5_dates_73 : decode cX5_dates 73 = .ok (.aload_n 1, 1) := by decide +kernel
theorem dX5_dates_74 : decode cX5_dates 74 = .ok (.bipush 40, 2) := by decide +kernel
theorem dX5_dates_76 : decode cX5_dates 76 = .ok (.iaload, 1) := by decide +kernel
theorem dX5_dates_77 : decode cX5_dates 77 = .ok (.if_icmp .ge 174, 3) := by decide +kernel
theorem dX5_dates_80 : decode cX5_dates 80 = .ok (.iconst 0, 1) := by decide +kernel
theorem dX5_dates_81 : decode cX5_dates 81 = .ok (.istore_n 3, 1) := by decide +kernel
theorem dX5_dates_82 : decode cX5_dates 82 = .ok (.iload_n 3, 1) := by decide +kernel
theorem dX5_dates_83 : decode cX5_dates 83 = .ok (.aload_n 1, 1) := by decide +kernel
theorem dX5_dates_84 : decode cX5_dates 84 = .ok (.bipush 40, 2) := by decide +kernel
theorem dX5_dates_86 : decode cX5_dates 86 = .ok (.iaload, 1) := by decide +kernel
theorem dX5_dates_87 : decode cX5_dates 87 = .ok (.aload_n 1, 1) := by decide +kernel
theorem dX5_dates_88 : decode cX5_dates 88 = .ok (.bipush 40, 2) := by decide +kernel
theorem dX5_dates_90 : decode cX5_dates 90 = .ok (.iaload, 1) := by decide +kernel
theorem dX5_dates_91 : decode cX5_dates 91 = .ok (.imul, 1) := by decide +kernel
theorem dX5_dates_92 : decode cX5_dates 92 = .ok (.if_icmp .ge 153, 3) := by decide +kernel
theorem dX5_dates_95 : decode cX5_dates 95 = .ok (.iload_n 3, 1) := by decide +kernel
theorem dX5_dates_96 : decode cX5_dates 96 = .ok (.aload_n 1, 1) := by decide +kernel
theorem dX5_dates_97 : decode cX5_dates 97 = .ok (.bipush 40, 2) := by decide +kernel
theorem dX5_dates_99 : decode cX5_dates 99 = .ok (.iaload, 1) := by decide +kernel
theorem dX5_dates_100 : decode cX5_dates 100 = .ok (.idiv, 1) := by decide +kernel
theorem dX5_dates_101 : decode cX5_dates 101 = .ok (.istore 4, 2) := by decide +kernel
theorem dX5_dates_103 : decode cX5_dates 103 = .ok (.iload_n 3, 1) := by decide +kernel
theorem dX5_dates_104 : decode cX5_dates 104 = .ok (.aload_n 1, 1) := by decide +kernel
theorem dX5_dates_105 : decode cX5_dates 105 = .ok (.bipush 40, 2) := by decide +kernel
theorem dX5_dates_107 : decode cX5_dates 107 = .ok (.iaload, 1) := by decide +kernel
theorem dX5_dates_108 : decode cX5_dates 108 = .ok (.irem, 1) := by decide +kernel
theorem dX5_dates_109 : decode cX5_dates 109 = .ok (.istore 5, 2) := by decide +kernel
theorem dX5_dates_111 : decode cX5_dates 111 = .ok (.aload_n 0, 1) := by decide +kernel
theorem dX5_dates_112 : decode cX5_dates 112 = .ok (.getfield 25, 3) := by decide +kernel
theorem dX5_dates_115 : decode cX5_dates 115 = .ok (.iload 5, 2) := by decide +kernel
theorem dX5_dates_117 : decode cX5_dates 117 = .ok (.iaload, 1) := by decide +kernel
theorem dX5_dates_118 : decode cX5_dates 118 = .ok (.iload 4, 2) := by decide +kernel
theorem dX5_dates_120 : decode cX5_dates 120 = .ok (.ishr, 1) := by decide +kernel
theorem dX5_dates_121 : decode cX5_dates 121 = .ok (.iconst 1, 1) := by decide +kernel
theorem dX5_dates_122 : decode cX5_dates 122 = .ok (.iand, 1) := by decide +kernel
theorem dX5_dates_123 : decode cX5_dates 123 = .ok (.iconst 1, 1) := by decide +kernel
theorem dX5_dates_124 : decode cX5_dates 124 = .ok (.if_icmp .ne 115, 3) := by decide +kernel
theorem dX5_dates_127 : decode cX5_dates 127 = .ok (.aload_n 0, 1) := by decide +kernel
theorem dX5_dates_128 : decode cX5_dates 128 = .ok (.getfield 31, 3) := by decide +kernel
theorem dX5_dates_131 : decode cX5_dates 131 = .ok (.iconst 2, 1) := by decide +kernel
theorem dX5_dates_132 : decode cX5_dates 132 = .ok (.iload 5, 2) := by decide +kernel
theorem dX5_dates_134 : decode cX5_dates 134 = .ok (.imul, 1) := by decide +kernel
theorem dX5_dates_135 : decode cX5_dates 135 = .ok (.aload_n 0, 1) := by decide +kernel
theorem dX5_dates_136 : decode cX5_dates 136 = .ok (.getfield 31, 3) := by decide +kernel
theorem dX5_dates_139 : decode cX5_dates 139 = .ok (.iconst 2, 1) := by decide +kernel
theorem dX5_dates_140 : decode cX5_dates 140 = .ok (.iload 4, 2) := by decide +kernel
theorem dX5_dates_142 : decode cX5_dates 142 = .ok (.imul, 1) := by decide +kernel
theorem dX5_dates_143 : decode cX5_dates 143 = .ok (.iaload, 1) := by decide +kernel
theorem dX5_dates_144 : decode cX5_dates 144 = .ok (.aload_n 0, 1) := by decide +kernel
theorem dX5_dates_145 : decode cX5_dates 145 = .ok (.getfield 31, 3) := by decide +kernel
theorem dX5_dates_148 : decode cX5_dates 148 = .ok (.iconst 2, 1) := by decide +kernel
theorem dX5_dates_149 : decode cX5_dates 149 = .ok (.iload 5, 2) := by decide +kernel
theorem dX5_dates_151 : decode cX5_dates 151 = .ok (.imul, 1) := by decide +kernel
theorem dX5_dates_152 : decode cX5_dates 152 = .ok (.iaload, 1) := by decide +kernel
theorem dX5_dates_153 : decode cX5_dates 153 = .ok (.if_icmp .le 15, 3) := by decide +kernel
theorem dX5_dates_156 : decode cX5_dates 156 = .ok (.aload_n 0, 1) := by decide +kernel
theorem dX5_dates_157 : decode cX5_dates 157 = .ok (.getfield 31, 3) := by decide +kernel
theorem dX5_dates_160 : decode cX5_dates 160 = .ok (.iconst 2, 1) := by decide +kernel
theorem dX5_dates_161 : decode cX5_dates 161 = .ok (.iload 4, 2) := by decide +kernel
theorem dX5_dates_163 : decode cX5_dates 163 = .ok (.imul, 1) := by decide +kernel
theorem dX5_dates_164 : decode cX5_dates 164 = .ok (.iaload, 1) := by decide +kernel
theorem dX5_dates_165 : decode cX5_dates 165 = .ok (.goto 12, 3) := by decide +kernel
theorem dX5_dates_168 : decode cX5_dates 168 = .ok (.aload_n 0, 1) := by decide +kernel
theorem dX5_dates_169 : decode cX5_dates 169 = .ok (.getfield 31, 3) := by decide +kernel
theorem dX5_dates_172 : decode cX5_dates 172 = .ok (.iconst 2, 1) := by decide +kernel
theorem dX5_dates_173 : decode cX5_dates 173 = .ok (.iload 5, 2) := by decide +kernel
theorem dX5_dates_175 : decode cX5_dates 175 = .ok (.imul, 1) := by decide +kernel
theorem dX5_dates_176 : decode cX5_dates 176 = .ok (.iaload, 1) := by decide +kernel
theorem dX5_dates_177 : decode cX5_dates 177 = .ok (.iastore, 1) := by decide +kernel
theorem dX5_dates_178 : decode cX5_dates 178 = .ok (.aload_n 0, 1) := by decide +kernel
theorem dX5_dates_179 : decode cX5_dates 179 = .ok (.getfield 31, 3) := by decide +kernel
theorem dX5_dates_182 : decode cX5_dates 182 = .ok (.iconst 2, 1) := by decide +kernel
theorem dX5_dates_183 : decode cX5_dates 183 = .ok (.iload 4, 2) := by decide +kernel
theorem dX5_dates_185 : decode cX5_dates 185 = .ok (.imul, 1) := by decide +kernel
theorem dX5_dates_186 : decode cX5_dates 186 = .ok (.iconst 1, 1) := by decide +kernel
theorem dX5_dates_187 : decode cX5_dates 187 = .ok (.iadd, 1) := by decide +kernel
theorem dX5_dates_188 : decode cX5_dates 188 = .ok (.aload_n 0, 1) := by decide +kernel
theorem dX5_dates_189 : decode cX5_dates 189 = .ok (.getfield 31, 3) := by decide +kernel
theorem dX5_dates_192 : decode cX5_dates 192 = .ok (.iconst 2, 1) := by decide +kernel
theorem dX5_dates_193 : decode cX5_dates 193 = .ok (.iload 5, 2) := by decide +kernel
theorem dX5_dates_195 : decode cX5_dates 195 = .ok (.imul, 1) := by decide +kernel
theorem dX5_dates_196 : decode cX5_dates 196 = .ok (.iconst 1, 1) := by decide +kernel
theorem dX5_dates_197 : decode cX5_dates 197 = .ok (.iadd, 1) := by decide +kernel
theorem dX5_dates_198 : decode cX5_dates 198 = .ok (.iaload, 1) := by decide +kernel
theorem dX5_dates_199 : decode cX5_dates 199 = .ok (.aload_n 0, 1) := by decide +kernel
theorem dX5_dates_200 : decode cX5_dates 200 = .ok (.getfield 31, 3) := by decide +kernel
theorem dX5_dates_203 : decode cX5_dates 203 = .ok (.iconst 2, 1) := by decide +kernel
theorem dX5_dates_204 : decode cX5_dates 204 = .ok (.iload 4, 2) := by decide +kernel
theorem dX5_dates_206 : decode cX5_dates 206 = .ok (.imul, 1) := by decide +kernel
theorem dX5_dates_207 : decode cX5_dates 207 = .ok (.iconst 1, 1) := by decide +kernel
theorem dX5_dates_208 : decode cX5_dates 208 = .ok (.iadd, 1) := by decide +kernel
theorem dX5_dates_209 : decode cX5_dates 209 = .ok (.iaload, 1) := by decide +kernel
theorem dX5_dates_210 : decode cX5_dates 210 = .ok (.if_icmp .ge 17, 3) := by decide +kernel
theorem dX5_dates_213 : decode cX5_dates 213 = .ok (.aload_n 0, 1) := by decide +kernel
theorem dX5_dates_214 : decode cX5_dates 214 = .ok (.getfield 31, 3) := by decide +kernel
theorem dX5_dates_217 : decode cX5_dates 217 = .ok (.iconst 2, 1) := by decide +kernel
theorem dX5_dates_218 : decode cX5_dates 218 = .ok (.iload 5, 2) := by decide +kernel
theorem dX5_dates_220 : decode cX5_dates 220 = .ok (.imul, 1) := by decide +kernel
theorem dX5_dates_221 : decode cX5_dates 221 = .ok (.iconst 1, 1) := by decide +kernel
theorem dX5_dates_222 : decode cX5_dates 222 = .ok (.iadd, 1) := by decide +kernel
theorem dX5_dates_223 : decode cX5_dates 223 = .ok (.iaload, 1) := by decide +kernel
theorem dX5_dates_224 : decode cX5_dates 224 = .ok (.goto 14, 3) := by decide +kernel
theorem dX5_dates_227 : decode cX5_dates 227 = .ok (.aload_n 0, 1) := by decide +kernel
theorem dX5_dates_228 : decode cX5_dates 228 = .ok (.getfield 31, 3) := by decide +kernel
theorem dX5_dates_231 : decode cX5_dates 231 = .ok (.iconst 2, 1) := by decide +kernel
theorem dX5_dates_232 : decode cX5_dates 232 = .ok (.iload 4, 2) := by decide +kernel
theorem dX5_dates_234 : decode cX5_dates 234 = .ok (.imul, 1) := by decide +kernel
theorem dX5_dates_235 : decode cX5_dates 235 = .ok (.iconst 1, 1) := by decide +kernel
theorem dX5_dates_236 : decode cX5_dates 236 = .ok (.iadd, 1) := by decide +kernel
theorem dX5_dates_237 : decode cX5_dates 237 = .ok (.iaload, 1) := by decide +kernel
theorem dX5_dates_238 : decode cX5_dates 238 = .ok (.iastore, 1) := by decide +kernel
theorem dX5_dates_239 : decode cX5_dates 239 = .ok (.iinc 3 1, 3) := by decide +kernel
theorem dX5_dates_242 : decode cX5_dates 242 = .ok (.goto (-160), 3) := by decide +kernel
theorem dX5_dates_245 : decode cX5_dates 245 = .ok (.iinc 2 1, 3) := by decide +kernel
theorem dX5_dates_248 : decode cX5_dates 248 = .ok (.goto (-176), 3) := by decide +kernel
theorem dX5_dates_251 : decode cX5_dates 251 = .ok (.return_, 1) := by decide +kernel
def f_X5_laysAhead (f1 : Nat → Int32) (n2 : Nat) (f2 : Nat → Int32) : Option ((Nat → Int32)) := (wl (u2 fun (l2_1 : Int32) (w2 : Nat → Int32) => (if 10 ≤ l2_1 then some (Sum.inr w2) else (wrA w2 10 l2_1 0).bind (fun g4 => (wl (u2 fun (l3_5 : Int32) (w6 : Nat → Int32) => (rdA f2 n2 40).bind (fun v8 => (if v8 ≤ l3_5 then some (Sum.inr w6) else (rdA f2 n2 40).bind (fun v9 => (if v9 ≤ l2_1 then some (Sum.inr w6) else (rdA w6 10 l2_1).bind (fun v10 => (jn (u1 fun (s11 : Int32) => (wrA w6 10 l2_1 (v10 ||| s11)).bind (fun g13 => some (Sum.inl ((l3_5 + 1), g13)))) (fun K12 => jn (u0 (K12 0)) (fun K14 => (if l3_5 = l2_1 then K14 () else (f_X5_by l3_5 l2_1 n2 f2).bind (u1 fun (r15 : Int32) => (if r15 = 0 then K14 () else K12 ((1 : Int32) <<< (l3_5 &&& 31)))))))))))))) 9999 (0, g4)).bind (u1 fun (w7 : Nat → Int32) => some (Sum.inl ((l2_1 + 1), w7)))))) 9999 (0, f1)).bind (u1 fun (w3 : Nat → Int32) => some w3)
theorem in_X5_laysAhead_X5 : ∀ w ∈ wsX50, w ∈ wsX5_laysAhead := by decide +kernel
theorem fl_X5_laysAhead_25 : Cond.fieldLink RX5 25 "ColophonHuntModel" "before" "[I" ∈ wsX5_laysAhead := by decide +kernel
theorem hd_X5_laysAhead : yX5_laysAhead.cls = RX5 ∧ yX5_laysAhead.cls ≠ "java/lang/invoke/MethodHandle" ∧ yX5_laysAhead.cls ≠ "java/lang/invoke/VarHandle" ∧ (parseMethodDescriptor yX5_laysAhead.desc).map (fun d => d.parameters.length) = some 1 := by decide +kernel
set_option maxRecDepth 100000 in
set_option maxHeartbeats 4000000 in
theorem c_X5_laysAhead (l : Launch) (D : va_G) (cI cS cL : ClassId) (a0 : Nat) (a1 : Nat) (a2 : Nat) (b0_0 : Nat) (b0_1 : Nat) (b0_2 : Nat) (b0_4 : Nat) (b0_10 : Nat) (b0_13 : Nat) (b0_14 : Nat) (x0_kept : Int32) (x0_typed : Int32) (x0_thrown : Int32) (x0_at : Int32) (x0_isFault : Int32) (x0_value : Int32) (x0_tolds : Int32) (f1 : Nat → Int32) (n2 : Nat) (f2 : Nat → Int32) (y0 : Nat → Int32) (hc : f_X5_laysAhead f1 n2 f2 = some y0) : KM l yX5_laysAhead wsX5_laysAhead { frames := 2, cells := 0, slots := 0, locals := 46 } D (tyS cI cS cL) [.ref a0, .ref a2] [(a0, .inr (5, [.ref b0_0, .ref b0_1, .ref b0_2, .int x0_kept, .ref b0_4, .int x0_typed, .int x0_thrown, .int x0_at, .int x0_isFault, .int x0_value, .ref b0_10, .int x0_tolds, .ref a1, .ref b0_13, .ref b0_14])), (a1, .inl (cI, 10, .inl f1)), (a2, .inl (cI, n2, .inl f2))] none (fun w => w = [(a0, .inr (5, [.ref b0_0, .ref b0_1, .ref b0_2, .int x0_kept, .ref b0_4, .int x0_typed, .int x0_thrown, .int x0_at, .int x0_isFault, .int x0_value, .ref b0_10, .int x0_tolds, .ref a1, .ref b0_13, .ref b0_14])), (a1, .inl (cI, 10, .inl y0)), (a2, .inl (cI, n2, .inl f2))]) 0 0 := by
  refine g_entry (cc := cX5_laysAhead) (nL := 4) (rt := none) (by decide) rfl (Nat.le_of_ble_eq_true rfl) ?_
  intro p e s m args below meth c A (X : GC p s m args c cX5_laysAhead 4 RX5 wsX5_laysAhead D (tyS cI cS cL) A) hr hlk _ _
  have h := hc
  unfold f_X5_laysAhead at h
  refine g_lv (lv' := [(0, .ref a0), (1, .ref a2)]) [0, 1] rfl ?_
  refine g_iconst (v := 0) X dX5_laysAhead_0 (by decide) ?_
  refine g_istore_n (lv' := [(2, .int 0), (0, .ref a0), (1, .ref a2)]) X dX5_laysAhead_1 rfl (by decide) rfl ?_
  refine g_lv (lv' := [(0, .ref a0), (1, .ref a2), (2, .int 0)]) [1, 2, 0] rfl ?_
  refine wl_g1 h (u2 fun l2_1 w2 => [(a0, .inr (5, [.ref b0_0, .ref b0_1, .ref b0_2, .int x0_kept, .ref b0_4, .int x0_typed, .int x0_thrown, .int x0_at, .int x0_isFault, .int x0_value, .ref b0_10, .int x0_tolds, .ref a1, .ref b0_13, .ref b0_14])), (a1, .inl (cI, 10, .inl w2)), (a2, .inl (cI, n2, .inl f2))]) (u2 fun l2_1 w2 => [(0, .ref a0), (1, .ref a2), (2, .int l2_1)]) rfl rfl (u1 fun w3 => [(a0, .inr (5, [.ref b0_0, .ref b0_1, .ref b0_2, .int x0_kept, .ref b0_4, .int x0_typed, .int x0_thrown, .int x0_at, .int x0_isFault, .int x0_value, .ref b0_10, .int x0_tolds, .ref a1, .ref b0_13, .ref b0_14])), (a1, .inl (cI, 10, .inl w3)), (a2, .inl (cI, n2, .inl f2))]) (u1 fun w3 => []) 75 ?_ ?_
  · rintro w3 h
    dsimp only [u1] at h ⊢
    have h := Option.some.inj h
    subst h
    exact g_vret X hr hlk dX5_laysAhead_75 rfl
  · rintro ⟨l2_1, w2⟩ o h hI hE
    dsimp only [u2] at h ⊢
    refine g_iload_n X (j := 2) dX5_laysAhead_2 rfl ?_
    refine g_bipush (v := 10) X dX5_laysAhead_3 (by decide) ?_
    refine g_icmp_ge (tgt := 75) X h dX5_laysAhead_5 (by decide) (fun h => ?_) (fun h => ?_)
    · refine g_lv (lv' := []) [] rfl ?_
      exact hE w2 (Option.some.inj h).symm
    · refine g_aload_n X (j := 0) dX5_laysAhead_8 rfl ?_
      refine g_get (q0 := 0) (k := 12) (ci := 5) X in_X5_laysAhead_X5 fl_X5_laysAhead_25 rfl rfl (Nat.le_of_ble_eq_true rfl) rfl dX5_laysAhead_9 ?_
      refine g_iload_n X (j := 2) dX5_laysAhead_12 rfl ?_
      refine g_iconst (v := 0) X dX5_laysAhead_13 (by decide) ?_
      refine g_iast (q0 := 1) (t0 := 0) (ws1 := fun g4 => [(a0, .inr (5, [.ref b0_0, .ref b0_1, .ref b0_2, .int x0_kept, .ref b0_4, .int x0_typed, .int x0_thrown, .int x0_at, .int x0_isFault, .int x0_value, .ref b0_10, .int x0_tolds, .ref a1, .ref b0_13, .ref b0_14])), (a1, .inl (cI, 10, .inl g4)), (a2, .inl (cI, n2, .inl f2))]) X h rfl rfl dX5_laysAhead_14 (fun _ => rfl) (fun g4 h => ?_)
      refine g_iconst (v := 0) X dX5_laysAhead_15 (by decide) ?_
      refine g_istore_n (lv' := [(3, .int 0), (0, .ref a0), (1, .ref a2), (2, .int l2_1)]) X dX5_laysAhead_16 rfl (by decide) rfl ?_
      refine g_lv (lv' := [(0, .ref a0), (1, .ref a2), (2, .int l2_1), (3, .int 0)]) [1, 2, 3, 0] rfl ?_
      refine wl_g1 h (u2 fun l3_5 w6 => [(a0, .inr (5, [.ref b0_0, .ref b0_1, .ref b0_2, .int x0_kept, .ref b0_4, .int x0_typed, .int x0_thrown, .int x0_at, .int x0_isFault, .int x0_value, .ref b0_10, .int x0_tolds, .ref a1, .ref b0_13, .ref b0_14])), (a1, .inl (cI, 10, .inl w6)), (a2, .inl (cI, n2, .inl f2))]) (u2 fun l3_5 w6 => [(0, .ref a0), (1, .ref a2), (2, .int l2_1), (3, .int l3_5)]) rfl rfl (u1 fun w7 => [(a0, .inr (5, [.ref b0_0, .ref b0_1, .ref b0_2, .int x0_kept, .ref b0_4, .int x0_typed, .int x0_thrown, .int x0_at, .int x0_isFault, .int x0_value, .ref b0_10, .int x0_tolds, .ref a1, .ref b0_13, .ref b0_14])), (a1, .inl (cI, 10, .inl w7)), (a2, .inl (cI, n2, .inl f2))]) (u1 fun w7 => [(0, .ref a0), (1, .ref a2), (2, .int l2_1)]) 69 ?_ ?_
      · rintro w7 h
        dsimp only [u1] at h ⊢
        refine g_iinc (j := 2) (lv' := [(2, .int (l2_1 + 1)), (0, .ref a0), (1, .ref a2)]) X (l2_1 + 1) dX5_laysAhead_69 rfl rfl (by decide) rfl ?_
        refine g_goto (tgt := 2) X dX5_laysAhead_72 (by decide) ?_
        refine g_lv (lv' := [(0, .ref a0), (1, .ref a2), (2, .int (l2_1 + 1))]) [1, 2, 0] rfl ?_
        exact hI ((l2_1 + 1), w7) (Option.some.inj h).symm
      · rintro ⟨l3_5, w6⟩ o h hI hE
        dsimp only [u2] at h ⊢
        refine g_iload_n X (j := 3) dX5_laysAhead_17 rfl ?_
        refine g_aload_n X (j := 1) dX5_laysAhead_18 rfl ?_
        refine g_bipush (v := 40) X dX5_laysAhead_19 (by decide) ?_
        refine g_iald (q0 := 2) (t0 := 0) X h rfl rfl dX5_laysAhead_21 (fun v8 h => ?_)
        refine g_icmp_ge (tgt := 69) X h dX5_laysAhead_22 (by decide) (fun h => ?_) (fun h => ?_)
        · refine g_lv (lv' := [(0, .ref a0), (1, .ref a2), (2, .int l2_1)]) [0, 1, 2] rfl ?_
          exact hE w6 (Option.some.inj h).symm
        · refine g_iload_n X (j := 2) dX5_laysAhead_25 rfl ?_
          refine g_aload_n X (j := 1) dX5_laysAhead_26 rfl ?_
          refine g_bipush (v := 40) X dX5_laysAhead_27 (by decide) ?_
          refine g_iald (q0 := 2) (t0 := 0) X h rfl rfl dX5_laysAhead_29 (fun v9 h => ?_)
          refine g_icmp_ge (tgt := 69) X h dX5_laysAhead_30 (by decide) (fun h => ?_) (fun h => ?_)
          · refine g_lv (lv' := [(0, .ref a0), (1, .ref a2), (2, .int l2_1)]) [0, 1, 2] rfl ?_
            exact hE w6 (Option.some.inj h).symm
          · refine g_aload_n X (j := 0) dX5_laysAhead_33 rfl ?_
            refine g_get (q0 := 0) (k := 12) (ci := 5) X in_X5_laysAhead_X5 fl_X5_laysAhead_25 rfl rfl (Nat.le_of_ble_eq_true rfl) rfl dX5_laysAhead_34 ?_
            refine g_iload_n X (j := 2) dX5_laysAhead_37 rfl ?_
            refine g_dup2 X dX5_laysAhead_38 rfl rfl ?_
            refine g_iald (q0 := 1) (t0 := 0) X h rfl rfl dX5_laysAhead_39 (fun v10 h => ?_)
            refine g_iload_n X (j := 3) dX5_laysAhead_40 rfl ?_
            refine g_iload_n X (j := 2) dX5_laysAhead_41 rfl ?_
            refine jn_g h (u1 fun s11 => [(a0, .inr (5, [.ref b0_0, .ref b0_1, .ref b0_2, .int x0_kept, .ref b0_4, .int x0_typed, .int x0_thrown, .int x0_at, .int x0_isFault, .int x0_value, .ref b0_10, .int x0_tolds, .ref a1, .ref b0_13, .ref b0_14])), (a1, .inl (cI, 10, .inl w6)), (a2, .inl (cI, n2, .inl f2))]) (u1 fun s11 => [(0, .ref a0), (1, .ref a2), (2, .int l2_1), (3, .int l3_5)]) (u1 fun s11 => [.int s11, .int v10, .int l2_1, .ref a1]) 61 ?_ ?_
            · rintro s11 h
              dsimp only [u1] at h ⊢
              refine g_ior X dX5_laysAhead_61 ?_
              refine g_iast (q0 := 1) (t0 := 0) (ws1 := fun g13 => [(a0, .inr (5, [.ref b0_0, .ref b0_1, .ref b0_2, .int x0_kept, .ref b0_4, .int x0_typed, .int x0_thrown, .int x0_at, .int x0_isFault, .int x0_value, .ref b0_10, .int x0_tolds, .ref a1, .ref b0_13, .ref b0_14])), (a1, .inl (cI, 10, .inl g13)), (a2, .inl (cI, n2, .inl f2))]) X h rfl rfl dX5_laysAhead_62 (fun _ => rfl) (fun g13 h => ?_)
              refine g_iinc (j := 3) (lv' := [(3, .int (l3_5 + 1)), (0, .ref a0), (1, .ref a2), (2, .int l2_1)]) X (l3_5 + 1) dX5_laysAhead_63 rfl rfl (by decide) rfl ?_
              refine g_goto (tgt := 17) X dX5_laysAhead_66 (by decide) ?_
              refine g_lv (lv' := [(0, .ref a0), (1, .ref a2), (2, .int l2_1), (3, .int (l3_5 + 1))]) [1, 2, 3, 0] rfl ?_
              exact hI ((l3_5 + 1), g13) (Option.some.inj h).symm
            · intro K12 hK12 h
              refine jn_g h (u0 ([(a0, .inr (5, [.ref b0_0, .ref b0_1, .ref b0_2, .int x0_kept, .ref b0_4, .int x0_typed, .int x0_thrown, .int x0_at, .int x0_isFault, .int x0_value, .ref b0_10, .int x0_tolds, .ref a1, .ref b0_13, .ref b0_14])), (a1, .inl (cI, 10, .inl w6)), (a2, .inl (cI, n2, .inl f2))])) (u0 ([(0, .ref a0), (1, .ref a2), (2, .int l2_1), (3, .int l3_5)])) (u0 ([.int v10, .int l2_1, .ref a1])) 60 ?_ ?_
              · rintro ⟨⟩ h
                dsimp only [u0] at h ⊢
                refine g_iconst (v := 0) X dX5_laysAhead_60 (by decide) ?_
                exact hK12 0 h
              · intro K14 hK14 h
                refine g_icmp_eq (tgt := 60) X h dX5_laysAhead_42 (by decide) (fun h => ?_) (fun h => ?_)
                · exact hK14 () h
                · refine g_aload_n X (j := 1) dX5_laysAhead_45 rfl ?_
                  refine g_iload_n X (j := 3) dX5_laysAhead_46 rfl ?_
                  refine g_iload_n X (j := 2) dX5_laysAhead_47 rfl ?_
                  obtain ⟨r15, hc, h⟩ := bd1 h
                  refine g_callS (is := [2]) (As := [.ref a2, .int l3_5, .int l2_1]) (ws' := [(a0, .inr (5, [.ref b0_0, .ref b0_1, .ref b0_2, .int x0_kept, .ref b0_4, .int x0_typed, .int x0_thrown, .int x0_at, .int x0_isFault, .int x0_value, .ref b0_10, .int x0_tolds, .ref a1, .ref b0_13, .ref b0_14])), (a1, .inl (cI, 10, .inl w6)), (a2, .inl (cI, n2, .inl f2))]) (st := [.int v10, .int l2_1, .ref a1]) X (c_X5_by l D cI cS cL a2 l3_5 l2_1 n2 f2 r15 hc) gX5_laysAhead_X5_by rfl ⟨rfl, rfl⟩ hd_X5_by.2 ⟨Nat.le_of_ble_eq_true rfl, Nat.le_of_ble_eq_true rfl⟩ ⟨Nat.zero_le _, Nat.zero_le _⟩ rfl rfl rfl rfl rfl (Nat.le_of_ble_eq_true rfl) rfl dX5_laysAhead_48 ?_
                  refine g_if_eq (tgt := 60) X h dX5_laysAhead_51 (by decide) (fun h => ?_) (fun h => ?_)
                  · exact hK14 () h
                  · refine g_iconst (v := 1) X dX5_laysAhead_54 (by decide) ?_
                    refine g_iload_n X (j := 3) dX5_laysAhead_55 rfl ?_
                    refine g_ishl X dX5_laysAhead_56 ?_
                    refine g_goto (tgt := 61) X dX5_laysAhead_57 (by decide) ?_
                    exact hK12 ((1 : Int32) <<< (l3_5 &&& 31)) h
def f_X5_isLast (p2 : Int32) (p3 : Int32) (f1 : Nat → Int32) (n2 : Nat) (f2 : Nat → Int32) : Option (Int32) := (wl (u2 fun (l4_1 : Int32) (l5_2 : Int32) => (rdA f2 n2 40).bind (fun v4 => (if v4 ≤ l5_2 then some (Sum.inr l4_1) else (if l4_1 = 0 then some (Sum.inr l4_1) else (jn (u1 fun (s5 : Int32) => some (Sum.inl (s5, (l5_2 + 1)))) (fun K6 => jn (u0 (K6 1)) (fun K7 => (if ((p3 >>> (l5_2 &&& 31)) &&& 1) = 0 then K7 () else (rdA f1 10 l5_2).bind (fun v8 => (if ((v8 >>> (p2 &&& 31)) &&& 1) = 0 then K7 () else K6 0)))))))))) 9999 (1, 0)).bind (u1 fun (l4_3 : Int32) => gB l4_3 (some l4_3))
theorem in_X5_isLast_X5 : ∀ w ∈ wsX50, w ∈ wsX5_isLast := by decide +kernel
theorem fl_X5_isLast_25 : Cond.fieldLink RX5 25 "ColophonHuntModel" "before" "[I" ∈ wsX5_isLast := by decide +kernel
theorem hd_X5_isLast : yX5_isLast.cls = RX5 ∧ yX5_isLast.cls ≠ "java/lang/invoke/MethodHandle" ∧ yX5_isLast.cls ≠ "java/lang/invoke/VarHandle" ∧ (parseMethodDescriptor yX5_isLast.desc).map (fun d => d.parameters.length) = some 3 := by decide +kernel
set_option maxRecDepth 100000 in
set_option maxHeartbeats 4000000 in
theorem c_X5_isLast (l : Launch) (D : va_G) (cI cS cL : ClassId) (a0 : Nat) (a1 : Nat) (a2 : Nat) (b0_0 : Nat) (b0_1 : Nat) (b0_2 : Nat) (b0_4 : Nat) (b0_10 : Nat) (b0_13 : Nat) (b0_14 : Nat) (p2 : Int32) (p3 : Int32) (x0_kept : Int32) (x0_typed : Int32) (x0_thrown : Int32) (x0_at : Int32) (x0_isFault : Int32) (x0_value : Int32) (x0_tolds : Int32) (f1 : Nat → Int32) (n2 : Nat) (f2 : Nat → Int32) (rr : Int32) (hc : f_X5_isLast p2 p3 f1 n2 f2 = some rr) : KM l yX5_isLast wsX5_isLast { frames := 0, cells := 0, slots := 0, locals := 0 } D (tyS cI cS cL) [.ref a0, .ref a2, .int p2, .int p3] [(a0, .inr (5, [.ref b0_0, .ref b0_1, .ref b0_2, .int x0_kept, .ref b0_4, .int x0_typed, .int x0_thrown, .int x0_at, .int x0_isFault, .int x0_value, .ref b0_10, .int x0_tolds, .ref a1, .ref b0_13, .ref b0_14])), (a1, .inl (cI, 10, .inl f1)), (a2, .inl (cI, n2, .inl f2))] (some (.int rr)) (fun w => w = [(a0, .inr (5, [.ref b0_0, .ref b0_1, .ref b0_2, .int x0_kept, .ref b0_4, .int x0_typed, .int x0_thrown, .int x0_at, .int x0_isFault, .int x0_value, .ref b0_10, .int x0_tolds, .ref a1, .ref b0_13, .ref b0_14])), (a1, .inl (cI, 10, .inl f1)), (a2, .inl (cI, n2, .inl f2))]) 0 0 := by
  refine g_entry (cc := cX5_isLast) (nL := 6) (rt := (some .boolean)) (by decide) rfl (Nat.le_of_ble_eq_true rfl) ?_
  intro p e s m args below meth c A (X : GC p s m args c cX5_isLast 6 RX5 wsX5_isLast D (tyS cI cS cL) A) hr hlk _ _
  have h := hc
  unfold f_X5_isLast at h
  refine g_lv (lv' := [(0, .ref a0), (1, .ref a2), (2, .int p2), (3, .int p3)]) [0, 1, 2, 3] rfl ?_
  refine g_iconst (v := 1) X dX5_isLast_0 (by decide) ?_
  refine g_istore (lv' := [(4, .int 1), (0, .ref a0), (1, .ref a2), (2, .int p2), (3, .int p3)]) X dX5_isLast_1 (by decide) rfl ?_
  refine g_iconst (v := 0) X dX5_isLast_3 (by decide) ?_
  refine g_istore (lv' := [(5, .int 0), (4, .int 1), (0, .ref a0), (1, .ref a2), (2, .int p2), (3, .int p3)]) X dX5_isLast_4 (by decide) rfl ?_
  refine g_lv (lv' := [(0, .ref a0), (1, .ref a2), (2, .int p2), (3, .int p3), (4, .int 1), (5, .int 0)]) [2, 3, 4, 5, 1, 0] rfl ?_
  refine wl_g1 h (u2 fun l4_1 l5_2 => [(a0, .inr (5, [.ref b0_0, .ref b0_1, .ref b0_2, .int x0_kept, .ref b0_4, .int x0_typed, .int x0_thrown, .int x0_at, .int x0_isFault, .int x0_value, .ref b0_10, .int x0_tolds, .ref a1, .ref b0_13, .ref b0_14])), (a1, .inl (cI, 10, .inl f1)), (a2, .inl (cI, n2, .inl f2))]) (u2 fun l4_1 l5_2 => [(0, .ref a0), (1, .ref a2), (2, .int p2), (3, .int p3), (4, .int l4_1), (5, .int l5_2)]) rfl rfl (u1 fun l4_3 => [(a0, .inr (5, [.ref b0_0, .ref b0_1, .ref b0_2, .int x0_kept, .ref b0_4, .int x0_typed, .int x0_thrown, .int x0_at, .int x0_isFault, .int x0_value, .ref b0_10, .int x0_tolds, .ref a1, .ref b0_13, .ref b0_14])), (a1, .inl (cI, 10, .inl f1)), (a2, .inl (cI, n2, .inl f2))]) (u1 fun l4_3 => [(4, .int l4_3)]) 56 ?_ ?_
  · rintro l4_3 h
    dsimp only [u1] at h ⊢
    refine g_iload X (j := 0) dX5_isLast_56 rfl ?_
    obtain ⟨hz, h⟩ := gB_e h
    have h := Option.some.inj h
    subst h
    exact g_zret X hr hlk hz dX5_isLast_58 rfl rfl
  · rintro ⟨l4_1, l5_2⟩ o h hI hE
    dsimp only [u2] at h ⊢
    refine g_iload X (j := 5) dX5_isLast_6 rfl ?_
    refine g_aload_n X (j := 1) dX5_isLast_8 rfl ?_
    refine g_bipush (v := 40) X dX5_isLast_9 (by decide) ?_
    refine g_iald (q0 := 2) (t0 := 0) X h rfl rfl dX5_isLast_11 (fun v4 h => ?_)
    refine g_icmp_ge (tgt := 56) X h dX5_isLast_12 (by decide) (fun h => ?_) (fun h => ?_)
    · refine g_lv (lv' := [(4, .int l4_1)]) [4] rfl ?_
      exact hE l4_1 (Option.some.inj h).symm
    · refine g_iload X (j := 4) dX5_isLast_15 rfl ?_
      refine g_if_eq (tgt := 56) X h dX5_isLast_17 (by decide) (fun h => ?_) (fun h => ?_)
      · refine g_lv (lv' := [(4, .int l4_1)]) [4] rfl ?_
        exact hE l4_1 (Option.some.inj h).symm
      · refine g_iload_n X (j := 3) dX5_isLast_20 rfl ?_
        refine g_iload X (j := 5) dX5_isLast_21 rfl ?_
        refine g_ishr X dX5_isLast_23 ?_
        refine g_iconst (v := 1) X dX5_isLast_24 (by decide) ?_
        refine g_iand X dX5_isLast_25 ?_
        refine jn_g h (u1 fun s5 => [(a0, .inr (5, [.ref b0_0, .ref b0_1, .ref b0_2, .int x0_kept, .ref b0_4, .int x0_typed, .int x0_thrown, .int x0_at, .int x0_isFault, .int x0_value, .ref b0_10, .int x0_tolds, .ref a1, .ref b0_13, .ref b0_14])), (a1, .inl (cI, 10, .inl f1)), (a2, .inl (cI, n2, .inl f2))]) (u1 fun s5 => [(0, .ref a0), (1, .ref a2), (2, .int p2), (3, .int p3), (5, .int l5_2)]) (u1 fun s5 => [.int s5]) 48 ?_ ?_
        · rintro s5 h
          dsimp only [u1] at h ⊢
          refine g_istore (lv' := [(4, .int s5), (0, .ref a0), (1, .ref a2), (2, .int p2), (3, .int p3), (5, .int l5_2)]) X dX5_isLast_48 (by decide) rfl ?_
          refine g_iinc (j := 5) (lv' := [(5, .int (l5_2 + 1)), (4, .int s5), (0, .ref a0), (1, .ref a2), (2, .int p2), (3, .int p3)]) X (l5_2 + 1) dX5_isLast_50 rfl rfl (by decide) rfl ?_
          refine g_goto (tgt := 6) X dX5_isLast_53 (by decide) ?_
          refine g_lv (lv' := [(0, .ref a0), (1, .ref a2), (2, .int p2), (3, .int p3), (4, .int s5), (5, .int (l5_2 + 1))]) [2, 3, 4, 5, 1, 0] rfl ?_
          exact hI (s5, (l5_2 + 1)) (Option.some.inj h).symm
        · intro K6 hK6 h
          refine jn_g h (u0 ([(a0, .inr (5, [.ref b0_0, .ref b0_1, .ref b0_2, .int x0_kept, .ref b0_4, .int x0_typed, .int x0_thrown, .int x0_at, .int x0_isFault, .int x0_value, .ref b0_10, .int x0_tolds, .ref a1, .ref b0_13, .ref b0_14])), (a1, .inl (cI, 10, .inl f1)), (a2, .inl (cI, n2, .inl f2))])) (u0 ([(0, .ref a0), (1, .ref a2), (2, .int p2), (3, .int p3), (5, .int l5_2)])) (u0 ([])) 43 ?_ ?_
          · rintro ⟨⟩ h
            dsimp only [u0] at h ⊢
            refine g_iconst (v := 1) X dX5_isLast_43 (by decide) ?_
            refine g_goto (tgt := 48) X dX5_isLast_44 (by decide) ?_
            exact hK6 1 h
          · intro K7 hK7 h
            refine g_if_eq (tgt := 43) X h dX5_isLast_26 (by decide) (fun h => ?_) (fun h => ?_)
            · refine g_lv (lv' := [(0, .ref a0), (1, .ref a2), (2, .int p2), (3, .int p3), (5, .int l5_2)]) [0, 1, 2, 3, 5] rfl ?_
              exact hK7 () h
            · refine g_aload_n X (j := 0) dX5_isLast_29 rfl ?_
              refine g_get (q0 := 0) (k := 12) (ci := 5) X in_X5_isLast_X5 fl_X5_isLast_25 rfl rfl (Nat.le_of_ble_eq_true rfl) rfl dX5_isLast_30 ?_
              refine g_iload X (j := 5) dX5_isLast_33 rfl ?_
              refine g_iald (q0 := 1) (t0 := 0) X h rfl rfl dX5_isLast_35 (fun v8 h => ?_)
              refine g_iload_n X (j := 2) dX5_isLast_36 rfl ?_
              refine g_ishr X dX5_isLast_37 ?_
              refine g_iconst (v := 1) X dX5_isLast_38 (by decide) ?_
              refine g_iand X dX5_isLast_39 ?_
              refine g_if_ne (tgt := 47) X h dX5_isLast_40 (by decide) (fun h => ?_) (fun h => ?_)
              · refine g_iconst (v := 0) X dX5_isLast_47 (by decide) ?_
                refine g_lv (lv' := [(0, .ref a0), (1, .ref a2), (2, .int p2), (3, .int p3), (5, .int l5_2)]) [0, 1, 2, 3, 5] rfl ?_
                exact hK6 0 h
              · refine g_lv (lv' := [(0, .ref a0), (1, .ref a2), (2, .int p2), (3, .int p3), (5, .int l5_2)]) [0, 1, 2, 3, 5] rfl ?_
                exact hK7 () h
def f_X5_lays (f1 : Nat → Int32) (f2 : Nat → Int32) (n3 : Nat) (f3 : Nat → Int32) : Option ((Nat → Int32) × (Nat → Int32)) := (f_X5_laysAhead f1 n3 f3).bind (u1 fun (o2 : Nat → Int32) => (wrA f2 1024 0 1).bind (fun g3 => (wl (u2 fun (l2_4 : Int32) (w5 : Nat → Int32) => (rdA f3 n3 40).bind (fun v7 => (if ((1 : Int32) <<< (v7 &&& 31)) ≤ l2_4 then some (Sum.inr w5) else (wl (u2 fun (l3_8 : Int32) (l4_9 : Int32) => (rdA f3 n3 40).bind (fun v11 => (if v11 ≤ l4_9 then some (Sum.inr l3_8) else (jn (u1 fun (s12 : Int32) => some (Sum.inl ((l3_8 + s12), (l4_9 + 1)))) (fun K13 => jn (u0 (K13 0)) (fun K14 => (if ((l2_4 >>> (l4_9 &&& 31)) &&& 1) = 1 then (f_X5_isLast l4_9 l2_4 o2 n3 f3).bind (u1 fun (r15 : Int32) => (if r15 = 0 then K14 () else (rdA w5 1024 (l2_4 &&& (((1 : Int32) <<< (l4_9 &&& 31)) ^^^ (-1)))).bind (fun v16 => K13 v16))) else K14 ()))))))) 9999 (0, 0)).bind (u1 fun (l3_10 : Int32) => (wrA w5 1024 l2_4 l3_10).bind (fun g17 => some (Sum.inl ((l2_4 + 1), g17))))))) 9999 (1, g3)).bind (u1 fun (w6 : Nat → Int32) => some (o2, w6))))
theorem in_X5_lays_X5 : ∀ w ∈ wsX50, w ∈ wsX5_lays := by decide +kernel
theorem fl_X5_lays_28 : Cond.fieldLink RX5 28 "ColophonHuntModel" "ways" "[I" ∈ wsX5_lays := by decide +kernel
theorem hd_X5_lays : yX5_lays.cls = RX5 ∧ yX5_lays.cls ≠ "java/lang/invoke/MethodHandle" ∧ yX5_lays.cls ≠ "java/lang/invoke/VarHandle" ∧ (parseMethodDescriptor yX5_lays.desc).map (fun d => d.parameters.length) = some 1 := by decide +kernel
set_option maxRecDepth 100000 in
set_option maxHeartbeats 4000000 in
theorem c_X5_lays (l : Launch) (D : va_G) (cI cS cL : ClassId) (a0 : Nat) (a1 : Nat) (a2 : Nat) (a3 : Nat) (b0_0 : Nat) (b0_1 : Nat) (b0_2 : Nat) (b0_4 : Nat) (b0_10 : Nat) (b0_14 : Nat) (x0_kept : Int32) (x0_typed : Int32) (x0_thrown : Int32) (x0_at : Int32) (x0_isFault : Int32) (x0_value : Int32) (x0_tolds : Int32) (f1 : Nat → Int32) (f2 : Nat → Int32) (n3 : Nat) (f3 : Nat → Int32) (y0 : Nat → Int32) (y1 : Nat → Int32) (hc : f_X5_lays f1 f2 n3 f3 = some (y0, y1)) : KM l yX5_lays wsX5_lays { frames := 3, cells := 0, slots := 0, locals := 69 } D (tyS cI cS cL) [.ref a0, .ref a3] [(a0, .inr (5, [.ref b0_0, .ref b0_1, .ref b0_2, .int x0_kept, .ref b0_4, .int x0_typed, .int x0_thrown, .int x0_at, .int x0_isFault, .int x0_value, .ref b0_10, .int x0_tolds, .ref a1, .ref a2, .ref b0_14])), (a1, .inl (cI, 10, .inl f1)), (a2, .inl (cI, 1024, .inl f2)), (a3, .inl (cI, n3, .inl f3))] none (fun w => w = [(a0, .inr (5, [.ref b0_0, .ref b0_1, .ref b0_2, .int x0_kept, .ref b0_4, .int x0_typed, .int x0_thrown, .int x0_at, .int x0_isFault, .int x0_value, .ref b0_10, .int x0_tolds, .ref a1, .ref a2, .ref b0_14])), (a1, .inl (cI, 10, .inl y0)), (a2, .inl (cI, 1024, .inl y1)), (a3, .inl (cI, n3, .inl f3))]) 0 0 := by
  refine g_entry (cc := cX5_lays) (nL := 5) (rt := none) (by decide) rfl (Nat.le_of_ble_eq_true rfl) ?_
  intro p e s m args below meth c A (X : GC p s m args c cX5_lays 5 RX5 wsX5_lays D (tyS cI cS cL) A) hr hlk _ _
  have h := hc
  unfold f_X5_lays at h
  refine g_lv (lv' := [(0, .ref a0), (1, .ref a3)]) [0, 1] rfl ?_
  refine g_aload_n X (j := 0) dX5_lays_0 rfl ?_
  refine g_aload_n X (j := 1) dX5_lays_1 rfl ?_
  obtain ⟨o2, hc, h⟩ := bd1 h
  refine g_callV (q0 := 0) (ci := 5) (is := [0, 1, 3]) (As := [.ref a3]) (ws' := [(a0, .inr (5, [.ref b0_0, .ref b0_1, .ref b0_2, .int x0_kept, .ref b0_4, .int x0_typed, .int x0_thrown, .int x0_at, .int x0_isFault, .int x0_value, .ref b0_10, .int x0_tolds, .ref a1, .ref a2, .ref b0_14])), (a1, .inl (cI, 10, .inl o2)), (a2, .inl (cI, 1024, .inl f2)), (a3, .inl (cI, n3, .inl f3))]) (st := []) X (c_X5_laysAhead l D cI cS cL a0 a1 a3 b0_0 b0_1 b0_2 b0_4 b0_10 a2 b0_14 x0_kept x0_typed x0_thrown x0_at x0_isFault x0_value x0_tolds f1 n3 f3 o2 hc) gX5_lays_X5_laysAhead rfl ⟨rfl, rfl⟩ hd_X5_laysAhead ⟨Nat.le_of_ble_eq_true rfl, Nat.le_of_ble_eq_true rfl⟩ ⟨Nat.zero_le _, Nat.zero_le _⟩ rfl rfl rfl rfl rfl rfl rfl (Nat.le_of_ble_eq_true rfl) rfl dX5_lays_2 ?_
  refine g_aload_n X (j := 0) dX5_lays_5 rfl ?_
  refine g_get (q0 := 0) (k := 13) (ci := 5) X in_X5_lays_X5 fl_X5_lays_28 rfl rfl (Nat.le_of_ble_eq_true rfl) rfl dX5_lays_6 ?_
  refine g_iconst (v := 0) X dX5_lays_9 (by decide) ?_
  refine g_iconst (v := 1) X dX5_lays_10 (by decide) ?_
  refine g_iast (q0 := 2) (t0 := 0) (ws1 := fun g3 => [(a0, .inr (5, [.ref b0_0, .ref b0_1, .ref b0_2, .int x0_kept, .ref b0_4, .int x0_typed, .int x0_thrown, .int x0_at, .int x0_isFault, .int x0_value, .ref b0_10, .int x0_tolds, .ref a1, .ref a2, .ref b0_14])), (a1, .inl (cI, 10, .inl o2)), (a2, .inl (cI, 1024, .inl g3)), (a3, .inl (cI, n3, .inl f3))]) X h rfl rfl dX5_lays_11 (fun _ => rfl) (fun g3 h => ?_)
  refine g_iconst (v := 1) X dX5_lays_12 (by decide) ?_
  refine g_istore_n (lv' := [(2, .int 1), (0, .ref a0), (1, .ref a3)]) X dX5_lays_13 rfl (by decide) rfl ?_
  refine g_lv (lv' := [(0, .ref a0), (1, .ref a3), (2, .int 1)]) [1, 2, 0] rfl ?_
  refine wl_g1 h (u2 fun l2_4 w5 => [(a0, .inr (5, [.ref b0_0, .ref b0_1, .ref b0_2, .int x0_kept, .ref b0_4, .int x0_typed, .int x0_thrown, .int x0_at, .int x0_isFault, .int x0_value, .ref b0_10, .int x0_tolds, .ref a1, .ref a2, .ref b0_14])), (a1, .inl (cI, 10, .inl o2)), (a2, .inl (cI, 1024, .inl w5)), (a3, .inl (cI, n3, .inl f3))]) (u2 fun l2_4 w5 => [(0, .ref a0), (1, .ref a3), (2, .int l2_4)]) rfl rfl (u1 fun w6 => [(a0, .inr (5, [.ref b0_0, .ref b0_1, .ref b0_2, .int x0_kept, .ref b0_4, .int x0_typed, .int x0_thrown, .int x0_at, .int x0_isFault, .int x0_value, .ref b0_10, .int x0_tolds, .ref a1, .ref a2, .ref b0_14])), (a1, .inl (cI, 10, .inl o2)), (a2, .inl (cI, 1024, .inl w6)), (a3, .inl (cI, n3, .inl f3))]) (u1 fun w6 => []) 98 ?_ ?_
  · rintro w6 h
    dsimp only [u1] at h ⊢
    have h := Option.some.inj h
    simp only [Prod.mk.injEq] at h
    obtain ⟨rfl, rfl⟩ := h
    exact g_vret X hr hlk dX5_lays_98 rfl
  · rintro ⟨l2_4, w5⟩ o h hI hE
    dsimp only [u2] at h ⊢
    refine g_iload_n X (j := 2) dX5_lays_14 rfl ?_
    refine g_iconst (v := 1) X dX5_lays_15 (by decide) ?_
    refine g_aload_n X (j := 1) dX5_lays_16 rfl ?_
    refine g_bipush (v := 40) X dX5_lays_17 (by decide) ?_
    refine g_iald (q0 := 3) (t0 := 0) X h rfl rfl dX5_lays_19 (fun v7 h => ?_)
    refine g_ishl X dX5_lays_20 ?_
    refine g_icmp_ge (tgt := 98) X h dX5_lays_21 (by decide) (fun h => ?_) (fun h => ?_)
    · refine g_lv (lv' := []) [] rfl ?_
      exact hE w5 (Option.some.inj h).symm
    · refine g_iconst (v := 0) X dX5_lays_24 (by decide) ?_
      refine g_istore_n (lv' := [(3, .int 0), (0, .ref a0), (1, .ref a3), (2, .int l2_4)]) X dX5_lays_25 rfl (by decide) rfl ?_
      refine g_iconst (v := 0) X dX5_lays_26 (by decide) ?_
      refine g_istore (lv' := [(4, .int 0), (3, .int 0), (0, .ref a0), (1, .ref a3), (2, .int l2_4)]) X dX5_lays_27 (by decide) rfl ?_
      refine g_lv (lv' := [(0, .ref a0), (1, .ref a3), (2, .int l2_4), (3, .int 0), (4, .int 0)]) [2, 3, 4, 1, 0] rfl ?_
      refine wl_g1 h (u2 fun l3_8 l4_9 => [(a0, .inr (5, [.ref b0_0, .ref b0_1, .ref b0_2, .int x0_kept, .ref b0_4, .int x0_typed, .int x0_thrown, .int x0_at, .int x0_isFault, .int x0_value, .ref b0_10, .int x0_tolds, .ref a1, .ref a2, .ref b0_14])), (a1, .inl (cI, 10, .inl o2)), (a2, .inl (cI, 1024, .inl w5)), (a3, .inl (cI, n3, .inl f3))]) (u2 fun l3_8 l4_9 => [(0, .ref a0), (1, .ref a3), (2, .int l2_4), (3, .int l3_8), (4, .int l4_9)]) rfl rfl (u1 fun l3_10 => [(a0, .inr (5, [.ref b0_0, .ref b0_1, .ref b0_2, .int x0_kept, .ref b0_4, .int x0_typed, .int x0_thrown, .int x0_at, .int x0_isFault, .int x0_value, .ref b0_10, .int x0_tolds, .ref a1, .ref a2, .ref b0_14])), (a1, .inl (cI, 10, .inl o2)), (a2, .inl (cI, 1024, .inl w5)), (a3, .inl (cI, n3, .inl f3))]) (u1 fun l3_10 => [(0, .ref a0), (1, .ref a3), (2, .int l2_4), (3, .int l3_10)]) 85 ?_ ?_
      · rintro l3_10 h
        dsimp only [u1] at h ⊢
        refine g_aload_n X (j := 0) dX5_lays_85 rfl ?_
        refine g_get (q0 := 0) (k := 13) (ci := 5) X in_X5_lays_X5 fl_X5_lays_28 rfl rfl (Nat.le_of_ble_eq_true rfl) rfl dX5_lays_86 ?_
        refine g_iload_n X (j := 2) dX5_lays_89 rfl ?_
        refine g_iload_n X (j := 3) dX5_lays_90 rfl ?_
        refine g_iast (q0 := 2) (t0 := 0) (ws1 := fun g17 => [(a0, .inr (5, [.ref b0_0, .ref b0_1, .ref b0_2, .int x0_kept, .ref b0_4, .int x0_typed, .int x0_thrown, .int x0_at, .int x0_isFault, .int x0_value, .ref b0_10, .int x0_tolds, .ref a1, .ref a2, .ref b0_14])), (a1, .inl (cI, 10, .inl o2)), (a2, .inl (cI, 1024, .inl g17)), (a3, .inl (cI, n3, .inl f3))]) X h rfl rfl dX5_lays_91 (fun _ => rfl) (fun g17 h => ?_)
        refine g_iinc (j := 2) (lv' := [(2, .int (l2_4 + 1)), (0, .ref a0), (1, .ref a3), (3, .int l3_10)]) X (l2_4 + 1) dX5_lays_92 rfl rfl (by decide) rfl ?_
        refine g_goto (tgt := 14) X dX5_lays_95 (by decide) ?_
        refine g_lv (lv' := [(0, .ref a0), (1, .ref a3), (2, .int (l2_4 + 1))]) [1, 2, 0] rfl ?_
        exact hI ((l2_4 + 1), g17) (Option.some.inj h).symm
      · rintro ⟨l3_8, l4_9⟩ o h hI hE
        dsimp only [u2] at h ⊢
        refine g_iload X (j := 4) dX5_lays_29 rfl ?_
        refine g_aload_n X (j := 1) dX5_lays_31 rfl ?_
        refine g_bipush (v := 40) X dX5_lays_32 (by decide) ?_
        refine g_iald (q0 := 3) (t0 := 0) X h rfl rfl dX5_lays_34 (fun v11 h => ?_)
        refine g_icmp_ge (tgt := 85) X h dX5_lays_35 (by decide) (fun h => ?_) (fun h => ?_)
        · refine g_lv (lv' := [(0, .ref a0), (1, .ref a3), (2, .int l2_4), (3, .int l3_8)]) [0, 1, 2, 3] rfl ?_
          exact hE l3_8 (Option.some.inj h).symm
        · refine g_iload_n X (j := 3) dX5_lays_38 rfl ?_
          refine g_iload_n X (j := 2) dX5_lays_39 rfl ?_
          refine g_iload X (j := 4) dX5_lays_40 rfl ?_
          refine g_ishr X dX5_lays_42 ?_
          refine g_iconst (v := 1) X dX5_lays_43 (by decide) ?_
          refine g_iand X dX5_lays_44 ?_
          refine g_iconst (v := 1) X dX5_lays_45 (by decide) ?_
          refine jn_g h (u1 fun s12 => [(a0, .inr (5, [.ref b0_0, .ref b0_1, .ref b0_2, .int x0_kept, .ref b0_4, .int x0_typed, .int x0_thrown, .int x0_at, .int x0_isFault, .int x0_value, .ref b0_10, .int x0_tolds, .ref a1, .ref a2, .ref b0_14])), (a1, .inl (cI, 10, .inl o2)), (a2, .inl (cI, 1024, .inl w5)), (a3, .inl (cI, n3, .inl f3))]) (u1 fun s12 => [(0, .ref a0), (1, .ref a3), (2, .int l2_4), (4, .int l4_9)]) (u1 fun s12 => [.int s12, .int l3_8]) 77 ?_ ?_
          · rintro s12 h
            dsimp only [u1] at h ⊢
            refine g_iadd X dX5_lays_77 ?_
            refine g_istore_n (lv' := [(3, .int (l3_8 + s12)), (0, .ref a0), (1, .ref a3), (2, .int l2_4), (4, .int l4_9)]) X dX5_lays_78 rfl (by decide) rfl ?_
            refine g_iinc (j := 4) (lv' := [(4, .int (l4_9 + 1)), (3, .int (l3_8 + s12)), (0, .ref a0), (1, .ref a3), (2, .int l2_4)]) X (l4_9 + 1) dX5_lays_79 rfl rfl (by decide) rfl ?_
            refine g_goto (tgt := 29) X dX5_lays_82 (by decide) ?_
            refine g_lv (lv' := [(0, .ref a0), (1, .ref a3), (2, .int l2_4), (3, .int (l3_8 + s12)), (4, .int (l4_9 + 1))]) [2, 3, 4, 1, 0] rfl ?_
            exact hI ((l3_8 + s12), (l4_9 + 1)) (Option.some.inj h).symm
          · intro K13 hK13 h
            refine jn_g h (u0 ([(a0, .inr (5, [.ref b0_0, .ref b0_1, .ref b0_2, .int x0_kept, .ref b0_4, .int x0_typed, .int x0_thrown, .int x0_at, .int x0_isFault, .int x0_value, .ref b0_10, .int x0_tolds, .ref a1, .ref a2, .ref b0_14])), (a1, .inl (cI, 10, .inl o2)), (a2, .inl (cI, 1024, .inl w5)), (a3, .inl (cI, n3, .inl f3))])) (u0 ([(0, .ref a0), (1, .ref a3), (2, .int l2_4), (4, .int l4_9)])) (u0 ([.int l3_8])) 76 ?_ ?_
            · rintro ⟨⟩ h
              dsimp only [u0] at h ⊢
              refine g_iconst (v := 0) X dX5_lays_76 (by decide) ?_
              exact hK13 0 h
            · intro K14 hK14 h
              refine g_icmp_ne (tgt := 76) X h dX5_lays_46 (by decide) (fun h => ?_) (fun h => ?_)
              · refine g_lv (lv' := [(0, .ref a0), (1, .ref a3), (2, .int l2_4), (4, .int l4_9)]) [0, 1, 2, 4] rfl ?_
                exact hK14 () h
              · refine g_aload_n X (j := 0) dX5_lays_49 rfl ?_
                refine g_aload_n X (j := 1) dX5_lays_50 rfl ?_
                refine g_iload X (j := 4) dX5_lays_51 rfl ?_
                refine g_iload_n X (j := 2) dX5_lays_53 rfl ?_
                obtain ⟨r15, hc, h⟩ := bd1 h
                refine g_callV (q0 := 0) (ci := 5) (is := [0, 1, 3]) (As := [.ref a3, .int l4_9, .int l2_4]) (ws' := [(a0, .inr (5, [.ref b0_0, .ref b0_1, .ref b0_2, .int x0_kept, .ref b0_4, .int x0_typed, .int x0_thrown, .int x0_at, .int x0_isFault, .int x0_value, .ref b0_10, .int x0_tolds, .ref a1, .ref a2, .ref b0_14])), (a1, .inl (cI, 10, .inl o2)), (a2, .inl (cI, 1024, .inl w5)), (a3, .inl (cI, n3, .inl f3))]) (st := [.int l3_8]) X (c_X5_isLast l D cI cS cL a0 a1 a3 b0_0 b0_1 b0_2 b0_4 b0_10 a2 b0_14 l4_9 l2_4 x0_kept x0_typed x0_thrown x0_at x0_isFault x0_value x0_tolds o2 n3 f3 r15 hc) gX5_lays_X5_isLast rfl ⟨rfl, rfl⟩ hd_X5_isLast ⟨Nat.le_of_ble_eq_true rfl, Nat.le_of_ble_eq_true rfl⟩ ⟨Nat.zero_le _, Nat.zero_le _⟩ rfl rfl rfl rfl rfl rfl rfl (Nat.le_of_ble_eq_true rfl) rfl dX5_lays_54 ?_
                refine g_if_eq (tgt := 76) X h dX5_lays_57 (by decide) (fun h => ?_) (fun h => ?_)
                · refine g_lv (lv' := [(0, .ref a0), (1, .ref a3), (2, .int l2_4), (4, .int l4_9)]) [0, 1, 2, 4] rfl ?_
                  exact hK14 () h
                · refine g_aload_n X (j := 0) dX5_lays_60 rfl ?_
                  refine g_get (q0 := 0) (k := 13) (ci := 5) X in_X5_lays_X5 fl_X5_lays_28 rfl rfl (Nat.le_of_ble_eq_true rfl) rfl dX5_lays_61 ?_
                  refine g_iload_n X (j := 2) dX5_lays_64 rfl ?_
                  refine g_iconst (v := 1) X dX5_lays_65 (by decide) ?_
                  refine g_iload X (j := 4) dX5_lays_66 rfl ?_
                  refine g_ishl X dX5_lays_68 ?_
                  refine g_iconst (v := (-1)) X dX5_lays_69 (by decide) ?_
                  refine g_ixor X dX5_lays_70 ?_
                  refine g_iand X dX5_lays_71 ?_
                  refine g_iald (q0 := 2) (t0 := 0) X h rfl rfl dX5_lays_72 (fun v16 h => ?_)
                  refine g_goto (tgt := 77) X dX5_lays_73 (by decide) ?_
                  refine g_lv (lv' := [(0, .ref a0), (1, .ref a3), (2, .int l2_4), (4, .int l4_9)]) [0, 1, 2, 4] rfl ?_
                  exact hK13 v16 h
def f_X5_fits (f1 : Nat → Int32) (f2 : Nat → Int32) (n3 : Nat) (f3 : Nat → Int32) : Option (Int32 × (Nat → Int32) × (Nat → Int32)) := (f_X5_lays f1 f2 n3 f3).bind (u2 fun (o2 : Nat → Int32) (o3 : Nat → Int32) => (rdA f3 n3 40).bind (fun v4 => (rdA o3 1024 (((1 : Int32) <<< (v4 &&& 31)) - 1)).bind (fun v5 => some (v5, o2, o3))))
theorem in_X5_fits_X5 : ∀ w ∈ wsX50, w ∈ wsX5_fits := by decide +kernel
theorem fl_X5_fits_28 : Cond.fieldLink RX5 28 "ColophonHuntModel" "ways" "[I" ∈ wsX5_fits := by decide +kernel
theorem hd_X5_fits : yX5_fits.cls = RX5 ∧ yX5_fits.cls ≠ "java/lang/invoke/MethodHandle" ∧ yX5_fits.cls ≠ "java/lang/invoke/VarHandle" ∧ (parseMethodDescriptor yX5_fits.desc).map (fun d => d.parameters.length) = some 1 := by decide +kernel
set_option maxRecDepth 100000 in
set_option maxHeartbeats 4000000 in
theorem c_X5_fits (l : Launch) (D : va_G) (cI cS cL : ClassId) (a0 : Nat) (a1 : Nat) (a2 : Nat) (a3 : Nat) (b0_0 : Nat) (b0_1 : Nat) (b0_2 : Nat) (b0_4 : Nat) (b0_10 : Nat) (b0_14 : Nat) (x0_kept : Int32) (x0_typed : Int32) (x0_thrown : Int32) (x0_at : Int32) (x0_isFault : Int32) (x0_value : Int32) (x0_tolds : Int32) (f1 : Nat → Int32) (f2 : Nat → Int32) (n3 : Nat) (f3 : Nat → Int32) (rr : Int32) (y0 : Nat → Int32) (y1 : Nat → Int32) (hc : f_X5_fits f1 f2 n3 f3 = some (rr, y0, y1)) : KM l yX5_fits wsX5_fits { frames := 4, cells := 0, slots := 0, locals := 93 } D (tyS cI cS cL) [.ref a0, .ref a3] [(a0, .inr (5, [.ref b0_0, .ref b0_1, .ref b0_2, .int x0_kept, .ref b0_4, .int x0_typed, .int x0_thrown, .int x0_at, .int x0_isFault, .int x0_value, .ref b0_10, .int x0_tolds, .ref a1, .ref a2, .ref b0_14])), (a1, .inl (cI, 10, .inl f1)), (a2, .inl (cI, 1024, .inl f2)), (a3, .inl (cI, n3, .inl f3))] (some (.int rr)) (fun w => w = [(a0, .inr (5, [.ref b0_0, .ref b0_1, .ref b0_2, .int x0_kept, .ref b0_4, .int x0_typed, .int x0_thrown, .int x0_at, .int x0_isFault, .int x0_value, .ref b0_10, .int x0_tolds, .ref a1, .ref a2, .ref b0_14])), (a1, .inl (cI, 10, .inl y0)), (a2, .inl (cI, 1024, .inl y1)), (a3, .inl (cI, n3, .inl f3))]) 0 0 := by
  refine g_entry (cc := cX5_fits) (nL := 2) (rt := (some .int)) (by decide) rfl (Nat.le_of_ble_eq_true rfl) ?_
  intro p e s m args below meth c A (X : GC p s m args c cX5_fits 2 RX5 wsX5_fits D (tyS cI cS cL) A) hr hlk _ _
  have h := hc
  unfold f_X5_fits at h
  refine g_lv (lv' := [(0, .ref a0), (1, .ref a3)]) [0, 1] rfl ?_
  refine g_aload_n X (j := 0) dX5_fits_0 rfl ?_
  refine g_aload_n X (j := 1) dX5_fits_1 rfl ?_
  obtain ⟨o2, o3, hc, h⟩ := bd2 h
  refine g_callV (q0 := 0) (ci := 5) (is := [0, 1, 2, 3]) (As := [.ref a3]) (ws' := [(a0, .inr (5, [.ref b0_0, .ref b0_1, .ref b0_2, .int x0_kept, .ref b0_4, .int x0_typed, .int x0_thrown, .int x0_at, .int x0_isFault, .int x0_value, .ref b0_10, .int x0_tolds, .ref a1, .ref a2, .ref b0_14])), (a1, .inl (cI, 10, .inl o2)), (a2, .inl (cI, 1024, .inl o3)), (a3, .inl (cI, n3, .inl f3))]) (st := []) X (c_X5_lays l D cI cS cL a0 a1 a2 a3 b0_0 b0_1 b0_2 b0_4 b0_10 b0_14 x0_kept x0_typed x0_thrown x0_at x0_isFault x0_value x0_tolds f1 f2 n3 f3 o2 o3 hc) gX5_fits_X5_lays rfl ⟨rfl, rfl⟩ hd_X5_lays ⟨Nat.le_of_ble_eq_true rfl, Nat.le_of_ble_eq_true rfl⟩ ⟨Nat.zero_le _, Nat.zero_le _⟩ rfl rfl rfl rfl rfl rfl rfl (Nat.le_of_ble_eq_true rfl) rfl dX5_fits_2 ?_
  refine g_aload_n X (j := 0) dX5_fits_5 rfl ?_
  refine g_get (q0 := 0) (k := 13) (ci := 5) X in_X5_fits_X5 fl_X5_fits_28 rfl rfl (Nat.le_of_ble_eq_true rfl) rfl dX5_fits_6 ?_
  refine g_iconst (v := 1) X dX5_fits_9 (by decide) ?_
  refine g_aload_n X (j := 1) dX5_fits_10 rfl ?_
  refine g_bipush (v := 40) X dX5_fits_11 (by decide) ?_
  refine g_iald (q0 := 3) (t0 := 0) X h rfl rfl dX5_fits_13 (fun v4 h => ?_)
  refine g_ishl X dX5_fits_14 ?_
  refine g_iconst (v := 1) X dX5_fits_15 (by decide) ?_
  refine g_isub X dX5_fits_16 ?_
  refine g_iald (q0 := 2) (t0 := 0) X h rfl rfl dX5_fits_17 (fun v5 h => ?_)
  have h := Option.some.inj h
  simp only [Prod.mk.injEq] at h
  obtain ⟨rfl, rfl, rfl⟩ := h
  exact g_iret X hr hlk dX5_fits_18 rfl rfl
def f_X5_dates (f1 : Nat → Int32) (f2 : Nat → Int32) (n3 : Nat) (f3 : Nat → Int32) : Option ((Nat → Int32) × (Nat → Int32)) := (f_X5_laysAhead f1 n3 f3).bind (u1 fun (o2 : Nat → Int32) => (wl (u2 fun (l2_3 : Int32) (w4 : Nat → Int32) => (rdA f3 n3 40).bind (fun v6 => (if v6 ≤ l2_3 then some (Sum.inr w4) else (f_X5_of l2_3 3 n3 f3).bind (u1 fun (r7 : Int32) => (jn (u1 fun (s8 : Int32) => (wrA w4 20 ((2 : Int32) * l2_3) s8).bind (fun g10 => (jn (u1 fun (s11 : Int32) => (wrA g10 20 (((2 : Int32) * l2_3) + 1) s11).bind (fun g13 => some (Sum.inl ((l2_3 + 1), g13)))) (fun K12 => (if r7 = (-1) then K12 1999 else K12 r7))))) (fun K9 => (if r7 = (-1) then K9 1450 else K9 r7))))))) 9999 (0, f2)).bind (u1 fun (w5 : Nat → Int32) => (wl (u2 fun (l2_14 : Int32) (w15 : Nat → Int32) => (rdA f3 n3 40).bind (fun v17 => (if v17 ≤ l2_14 then some (Sum.inr w15) else (wl (u2 fun (l3_18 : Int32) (w19 : Nat → Int32) => (rdA f3 n3 40).bind (fun v21 => (rdA f3 n3 40).bind (fun v22 => (if (v21 * v22) ≤ l3_18 then some (Sum.inr w19) else (rdA f3 n3 40).bind (fun v23 => gZ v23 ((rdA f3 n3 40).bind (fun v24 => gZ v24 ((rdA o2 10 (l3_18 - l3_18 / v24 * v24)).bind (fun v25 => (jn (u1 fun (w26 : Nat → Int32) => some (Sum.inl ((l3_18 + 1), w26))) (fun K27 => (if ((v25 >>> ((l3_18 / v23) &&& 31)) &&& 1) = 1 then (rdA w19 20 ((2 : Int32) * (l3_18 / v23))).bind (fun v28 => (rdA w19 20 ((2 : Int32) * (l3_18 - l3_18 / v24 * v24))).bind (fun v29 => (jn (u1 fun (s30 : Int32) => (wrA w19 20 ((2 : Int32) * (l3_18 - l3_18 / v24 * v24)) s30).bind (fun g32 => (rdA g32 20 (((2 : Int32) * (l3_18 - l3_18 / v24 * v24)) + 1)).bind (fun v33 => (rdA g32 20 (((2 : Int32) * (l3_18 / v23)) + 1)).bind (fun v34 => (jn (u1 fun (s35 : Int32) => (wrA g32 20 (((2 : Int32) * (l3_18 / v23)) + 1) s35).bind (fun g37 => K27 g37)) (fun K36 => (if v34 ≤ v33 then (rdA g32 20 (((2 : Int32) * (l3_18 / v23)) + 1)).bind (fun v38 => K36 v38) else (rdA g32 20 (((2 : Int32) * (l3_18 - l3_18 / v24 * v24)) + 1)).bind (fun v39 => K36 v39)))))))) (fun K31 => (if v28 ≤ v29 then (rdA w19 20 ((2 : Int32) * (l3_18 - l3_18 / v24 * v24))).bind (fun v40 => K31 v40) else (rdA w19 20 ((2 : Int32) * (l3_18 / v23))).bind (fun v41 => K31 v41)))))) else K27 w19)))))))))))) 9999 (0, w15)).bind (u1 fun (w20 : Nat → Int32) => some (Sum.inl ((l2_14 + 1), w20)))))) 9999 (0, w5)).bind (u1 fun (w16 : Nat → Int32) => some (o2, w16))))
theorem in_X5_dates_X5 : ∀ w ∈ wsX50, w ∈ wsX5_dates := by decide +kernel
theorem fl_X5_dates_31 : Cond.fieldLink RX5 31 "ColophonHuntModel" "years" "[I" ∈ wsX5_dates := by decide +kernel
theorem fl_X5_dates_25 : Cond.fieldLink RX5 25 "ColophonHuntModel" "before" "[I" ∈ wsX5_dates := by decide +kernel
theorem hd_X5_dates : yX5_dates.cls = RX5 ∧ yX5_dates.cls ≠ "java/lang/invoke/MethodHandle" ∧ yX5_dates.cls ≠ "java/lang/invoke/VarHandle" ∧ (parseMethodDescriptor yX5_dates.desc).map (fun d => d.parameters.length) = some 1 := by decide +kernel
set_option maxRecDepth 100000 in
set_option maxHeartbeats 4000000 in
theorem c_X5_dates (l : Launch) (D : va_G) (cI cS cL : ClassId) (a0 : Nat) (a1 : Nat) (a2 : Nat) (a3 : Nat) (b0_0 : Nat) (b0_1 : Nat) (b0_2 : Nat) (b0_4 : Nat) (b0_10 : Nat) (b0_13 : Nat) (x0_kept : Int32) (x0_typed : Int32) (x0_thrown : Int32) (x0_at : Int32) (x0_isFault : Int32) (x0_value : Int32) (x0_tolds : Int32) (f1 : Nat → Int32) (f2 : Nat → Int32) (n3 : Nat) (f3 : Nat → Int32) (y0 : Nat → Int32) (y1 : Nat → Int32) (hc : f_X5_dates f1 f2 n3 f3 = some (y0, y1)) : KM l yX5_dates wsX5_dates { frames := 3, cells := 0, slots := 0, locals := 69 } D (tyS cI cS cL) [.ref a0, .ref a3] [(a0, .inr (5, [.ref b0_0, .ref b0_1, .ref b0_2, .int x0_kept, .ref b0_4, .int x0_typed, .int x0_thrown, .int x0_at, .int x0_isFault, .int x0_value, .ref b0_10, .int x0_tolds, .ref a1, .ref b0_13, .ref a2])), (a1, .inl (cI, 10, .inl f1)), (a2, .inl (cI, 20, .inl f2)), (a3, .inl (cI, n3, .inl f3))] none (fun w => w = [(a0, .inr (5, [.ref b0_0, .ref b0_1, .ref b0_2, .int x0_kept, .ref b0_4, .int x0_typed, .int x0_thrown, .int x0_at, .int x0_isFault, .int x0_value, .ref b0_10, .int x0_tolds, .ref a1, .ref b0_13, .ref a2])), (a1, .inl (cI, 10, .inl y0)), (a2, .inl (cI, 20, .inl y1)), (a3, .inl (cI, n3, .inl f3))]) 0 0 := by
  refine g_entry (cc := cX5_dates) (nL := 6) (rt := none) (by decide) rfl (Nat.le_of_ble_eq_true rfl) ?_
  intro p e s m args below meth c A (X : GC p s m args c cX5_dates 6 RX5 wsX5_dates D (tyS cI cS cL) A) hr hlk _ _
  have h := hc
  unfold f_X5_dates at h
  refine g_lv (lv' := [(0, .ref a0), (1, .ref a3)]) [0, 1] rfl ?_
  refine g_aload_n X (j := 0) dX5_dates_0 rfl ?_
  refine g_aload_n X (j := 1) dX5_dates_1 rfl ?_
  obtain ⟨o2, hc, h⟩ := bd1 h
  refine g_callV (q0 := 0) (ci := 5) (is := [0, 1, 3]) (As := [.ref a3]) (ws' := [(a0, .inr (5, [.ref b0_0, .ref b0_1, .ref b0_2, .int x0_kept, .ref b0_4, .int x0_typed, .int x0_thrown, .int x0_at, .int x0_isFault, .int x0_value, .ref b0_10, .int x0_tolds, .ref a1, .ref b0_13, .ref a2])), (a1, .inl (cI, 10, .inl o2)), (a2, .inl (cI, 20, .inl f2)), (a3, .inl (cI, n3, .inl f3))]) (st := []) X (c_X5_laysAhead l D cI cS cL a0 a1 a3 b0_0 b0_1 b0_2 b0_4 b0_10 b0_13 a2 x0_kept x0_typed x0_thrown x0_at x0_isFault x0_value x0_tolds f1 n3 f3 o2 hc) gX5_dates_X5_laysAhead rfl ⟨rfl, rfl⟩ hd_X5_laysAhead ⟨Nat.le_of_ble_eq_true rfl, Nat.le_of_ble_eq_true rfl⟩ ⟨Nat.zero_le _, Nat.zero_le _⟩ rfl rfl rfl rfl rfl rfl rfl (Nat.le_of_ble_eq_true rfl) rfl dX5_dates_2 ?_
  refine g_iconst (v := 0) X dX5_dates_5 (by decide) ?_
  refine g_istore_n (lv' := [(2, .int 0), (0, .ref a0), (1, .ref a3)]) X dX5_dates_6 rfl (by decide) rfl ?_
  refine g_lv (lv' := [(0, .ref a0), (1, .ref a3), (2, .int 0)]) [1, 2, 0] rfl ?_
  refine wl_g1 h (u2 fun l2_3 w4 => [(a0, .inr (5, [.ref b0_0, .ref b0_1, .ref b0_2, .int x0_kept, .ref b0_4, .int x0_typed, .int x0_thrown, .int x0_at, .int x0_isFault, .int x0_value, .ref b0_10, .int x0_tolds, .ref a1, .ref b0_13, .ref a2])), (a1, .inl (cI, 10, .inl o2)), (a2, .inl (cI, 20, .inl w4)), (a3, .inl (cI, n3, .inl f3))]) (u2 fun l2_3 w4 => [(0, .ref a0), (1, .ref a3), (2, .int l2_3)]) rfl rfl (u1 fun w5 => [(a0, .inr (5, [.ref b0_0, .ref b0_1, .ref b0_2, .int x0_kept, .ref b0_4, .int x0_typed, .int x0_thrown, .int x0_at, .int x0_isFault, .int x0_value, .ref b0_10, .int x0_tolds, .ref a1, .ref b0_13, .ref a2])), (a1, .inl (cI, 10, .inl o2)), (a2, .inl (cI, 20, .inl w5)), (a3, .inl (cI, n3, .inl f3))]) (u1 fun w5 => [(0, .ref a0), (1, .ref a3)]) 70 ?_ ?_
  · rintro w5 h
    dsimp only [u1] at h ⊢
    refine g_iconst (v := 0) X dX5_dates_70 (by decide) ?_
    refine g_istore_n (lv' := [(2, .int 0), (0, .ref a0), (1, .ref a3)]) X dX5_dates_71 rfl (by decide) rfl ?_
    refine g_lv (lv' := [(0, .ref a0), (1, .ref a3), (2, .int 0)]) [1, 2, 0] rfl ?_
    refine wl_g1 h (u2 fun l2_14 w15 => [(a0, .inr (5, [.ref b0_0, .ref b0_1, .ref b0_2, .int x0_kept, .ref b0_4, .int x0_typed, .int x0_thrown, .int x0_at, .int x0_isFault, .int x0_value, .ref b0_10, .int x0_tolds, .ref a1, .ref b0_13, .ref a2])), (a1, .inl (cI, 10, .inl o2)), (a2, .inl (cI, 20, .inl w15)), (a3, .inl (cI, n3, .inl f3))]) (u2 fun l2_14 w15 => [(0, .ref a0), (1, .ref a3), (2, .int l2_14)]) rfl rfl (u1 fun w16 => [(a0, .inr (5, [.ref b0_0, .ref b0_1, .ref b0_2, .int x0_kept, .ref b0_4, .int x0_typed, .int x0_thrown, .int x0_at, .int x0_isFault, .int x0_value, .ref b0_10, .int x0_tolds, .ref a1, .ref b0_13, .ref a2])), (a1, .inl (cI, 10, .inl o2)), (a2, .inl (cI, 20, .inl w16)), (a3, .inl (cI, n3, .inl f3))]) (u1 fun w16 => []) 251 ?_ ?_
    · rintro w16 h
      dsimp only [u1] at h ⊢
      have h := Option.some.inj h
      simp only [Prod.mk.injEq] at h
      obtain ⟨rfl, rfl⟩ := h
      exact g_vret X hr hlk dX5_dates_251 rfl
    · rintro ⟨l2_14, w15⟩ o h hI hE
      dsimp only [u2] at h ⊢
      refine g_iload_n X (j := 2) dX5_dates_72 rfl ?_
      refine g_aload_n X (j := 1) dX5_dates_73 rfl ?_
      refine g_bipush (v := 40) X dX5_dates_74 (by decide) ?_
      refine g_iald (q0 := 3) (t0 := 0) X h rfl rfl dX5_dates_76 (fun v17 h => ?_)
      refine g_icmp_ge (tgt := 251) X h dX5_dates_77 (by decide) (fun h => ?_) (fun h => ?_)
      · refine g_lv (lv' := []) [] rfl ?_
        exact hE w15 (Option.some.inj h).symm
      · refine g_iconst (v := 0) X dX5_dates_80 (by decide) ?_
        refine g_istore_n (lv' := [(3, .int 0), (0, .ref a0), (1, .ref a3), (2, .int l2_14)]) X dX5_dates_81 rfl (by decide) rfl ?_
        refine g_lv (lv' := [(0, .ref a0), (1, .ref a3), (2, .int l2_14), (3, .int 0)]) [1, 2, 3, 0] rfl ?_
        refine wl_g1 h (u2 fun l3_18 w19 => [(a0, .inr (5, [.ref b0_0, .ref b0_1, .ref b0_2, .int x0_kept, .ref b0_4, .int x0_typed, .int x0_thrown, .int x0_at, .int x0_isFault, .int x0_value, .ref b0_10, .int x0_tolds, .ref a1, .ref b0_13, .ref a2])), (a1, .inl (cI, 10, .inl o2)), (a2, .inl (cI, 20, .inl w19)), (a3, .inl (cI, n3, .inl f3))]) (u2 fun l3_18 w19 => [(0, .ref a0), (1, .ref a3), (2, .int l2_14), (3, .int l3_18)]) rfl rfl (u1 fun w20 => [(a0, .inr (5, [.ref b0_0, .ref b0_1, .ref b0_2, .int x0_kept, .ref b0_4, .int x0_typed, .int x0_thrown, .int x0_at, .int x0_isFault, .int x0_value, .ref b0_10, .int x0_tolds, .ref a1, .ref b0_13, .ref a2])), (a1, .inl (cI, 10, .inl o2)), (a2, .inl (cI, 20, .inl w20)), (a3, .inl (cI, n3, .inl f3))]) (u1 fun w20 => [(0, .ref a0), (1, .ref a3), (2, .int l2_14)]) 245 ?_ ?_
        · rintro w20 h
          dsimp only [u1] at h ⊢
          refine g_iinc (j := 2) (lv' := [(2, .int (l2_14 + 1)), (0, .ref a0), (1, .ref a3)]) X (l2_14 + 1) dX5_dates_245 rfl rfl (by decide) rfl ?_
          refine g_goto (tgt := 72) X dX5_dates_248 (by decide) ?_
          refine g_lv (lv' := [(0, .ref a0), (1, .ref a3), (2, .int (l2_14 + 1))]) [1, 2, 0] rfl ?_
          exact hI ((l2_14 + 1), w20) (Option.some.inj h).symm
        · rintro ⟨l3_18, w19⟩ o h hI hE
          dsimp only [u2] at h ⊢
          refine g_iload_n X (j := 3) dX5_dates_82 rfl ?_
          refine g_aload_n X (j := 1) dX5_dates_83 rfl ?_
          refine g_bipush (v := 40) X dX5_dates_84 (by decide) ?_
          refine g_iald (q0 := 3) (t0 := 0) X h rfl rfl dX5_dates_86 (fun v21 h => ?_)
          refine g_aload_n X (j := 1) dX5_dates_87 rfl ?_
          refine g_bipush (v := 40) X dX5_dates_88 (by decide) ?_
          refine g_iald (q0 := 3) (t0 := 0) X h rfl rfl dX5_dates_90 (fun v22 h => ?_)
          refine g_imul X dX5_dates_91 ?_
          refine g_icmp_ge (tgt := 245) X h dX5_dates_92 (by decide) (fun h => ?_) (fun h => ?_)
          · refine g_lv (lv' := [(0, .ref a0), (1, .ref a3), (2, .int l2_14)]) [0, 1, 2] rfl ?_
            exact hE w19 (Option.some.inj h).symm
          · refine g_iload_n X (j := 3) dX5_dates_95 rfl ?_
            refine g_aload_n X (j := 1) dX5_dates_96 rfl ?_
            refine g_bipush (v := 40) X dX5_dates_97 (by decide) ?_
            refine g_iald (q0 := 3) (t0 := 0) X h rfl rfl dX5_dates_99 (fun v23 h => ?_)
            refine g_idiv X h dX5_dates_100 (fun h => ?_)
            refine g_istore (lv' := [(4, .int (l3_18 / v23)), (0, .ref a0), (1, .ref a3), (2, .int l2_14), (3, .int l3_18)]) X dX5_dates_101 (by decide) rfl ?_
            refine g_iload_n X (j := 4) dX5_dates_103 rfl ?_
            refine g_aload_n X (j := 2) dX5_dates_104 rfl ?_
            refine g_bipush (v := 40) X dX5_dates_105 (by decide) ?_
            refine g_iald (q0 := 3) (t0 := 0) X h rfl rfl dX5_dates_107 (fun v24 h => ?_)
            refine g_irem X h dX5_dates_108 (fun h => ?_)
            refine g_istore (lv' := [(5, .int (l3_18 - l3_18 / v24 * v24)), (4, .int (l3_18 / v23)), (0, .ref a0), (1, .ref a3), (2, .int l2_14), (3, .int l3_18)]) X dX5_dates_109 (by decide) rfl ?_
            refine g_aload_n X (j := 2) dX5_dates_111 rfl ?_
            refine g_get (q0 := 0) (k := 12) (ci := 5) X in_X5_dates_X5 fl_X5_dates_25 rfl rfl (Nat.le_of_ble_eq_true rfl) rfl dX5_dates_112 ?_
            refine g_iload X (j := 0) dX5_dates_115 rfl ?_
            refine g_iald (q0 := 1) (t0 := 0) X h rfl rfl dX5_dates_117 (fun v25 h => ?_)
            refine g_iload X (j := 1) dX5_dates_118 rfl ?_
            refine g_ishr X dX5_dates_120 ?_
            refine g_iconst (v := 1) X dX5_dates_121 (by decide) ?_
            refine g_iand X dX5_dates_122 ?_
            refine g_iconst (v := 1) X dX5_dates_123 (by decide) ?_
            refine jn_g h (u1 fun w26 => [(a0, .inr (5, [.ref b0_0, .ref b0_1, .ref b0_2, .int x0_kept, .ref b0_4, .int x0_typed, .int x0_thrown, .int x0_at, .int x0_isFault, .int x0_value, .ref b0_10, .int x0_tolds, .ref a1, .ref b0_13, .ref a2])), (a1, .inl (cI, 10, .inl o2)), (a2, .inl (cI, 20, .inl w26)), (a3, .inl (cI, n3, .inl f3))]) (u1 fun w26 => [(0, .ref a0), (1, .ref a3), (2, .int l2_14), (3, .int l3_18)]) (u1 fun w26 => []) 239 ?_ ?_
            · rintro w26 h
              dsimp only [u1] at h ⊢
              refine g_iinc (j := 3) (lv' := [(3, .int (l3_18 + 1)), (0, .ref a0), (1, .ref a3), (2, .int l2_14)]) X (l3_18 + 1) dX5_dates_239 rfl rfl (by decide) rfl ?_
              refine g_goto (tgt := 82) X dX5_dates_242 (by decide) ?_
              refine g_lv (lv' := [(0, .ref a0), (1, .ref a3), (2, .int l2_14), (3, .int (l3_18 + 1))]) [1, 2, 3, 0] rfl ?_
              exact hI ((l3_18 + 1), w26) (Option.some.inj h).symm
            · intro K27 hK27 h
              refine g_icmp_ne (tgt := 239) X h dX5_dates_124 (by decide) (fun h => ?_) (fun h => ?_)
              · refine g_lv (lv' := [(0, .ref a0), (1, .ref a3), (2, .int l2_14), (3, .int l3_18)]) [2, 3, 4, 5] rfl ?_
                exact hK27 w19 h
              · refine g_aload_n X (j := 2) dX5_dates_127 rfl ?_
                refine g_get (q0 := 0) (k := 14) (ci := 5) X in_X5_dates_X5 fl_X5_dates_31 rfl rfl (Nat.le_of_ble_eq_true rfl) rfl dX5_dates_128 ?_
                refine g_iconst (v := 2) X dX5_dates_131 (by decide) ?_
                refine g_iload X (j := 0) dX5_dates_132 rfl ?_
                refine g_imul X dX5_dates_134 ?_
                refine g_aload_n X (j := 2) dX5_dates_135 rfl ?_
                refine g_get (q0 := 0) (k := 14) (ci := 5) X in_X5_dates_X5 fl_X5_dates_31 rfl rfl (Nat.le_of_ble_eq_true rfl) rfl dX5_dates_136 ?_
                refine g_iconst (v := 2) X dX5_dates_139 (by decide) ?_
                refine g_iload X (j := 1) dX5_dates_140 rfl ?_
                refine g_imul X dX5_dates_142 ?_
                refine g_iald (q0 := 2) (t0 := 0) X h rfl rfl dX5_dates_143 (fun v28 h => ?_)
                refine g_aload_n X (j := 2) dX5_dates_144 rfl ?_
                refine g_get (q0 := 0) (k := 14) (ci := 5) X in_X5_dates_X5 fl_X5_dates_31 rfl rfl (Nat.le_of_ble_eq_true rfl) rfl dX5_dates_145 ?_
                refine g_iconst (v := 2) X dX5_dates_148 (by decide) ?_
                refine g_iload X (j := 0) dX5_dates_149 rfl ?_
                refine g_imul X dX5_dates_151 ?_
                refine g_iald (q0 := 2) (t0 := 0) X h rfl rfl dX5_dates_152 (fun v29 h => ?_)
                refine jn_g h (u1 fun s30 => [(a0, .inr (5, [.ref b0_0, .ref b0_1, .ref b0_2, .int x0_kept, .ref b0_4, .int x0_typed, .int x0_thrown, .int x0_at, .int x0_isFault, .int x0_value, .ref b0_10, .int x0_tolds, .ref a1, .ref b0_13, .ref a2])), (a1, .inl (cI, 10, .inl o2)), (a2, .inl (cI, 20, .inl w19)), (a3, .inl (cI, n3, .inl f3))]) (u1 fun s30 => [(0, .ref a0), (1, .ref a3), (2, .int l2_14), (3, .int l3_18), (4, .int (l3_18 / v23)), (5, .int (l3_18 - l3_18 / v24 * v24))]) (u1 fun s30 => [.int s30, .int ((2 : Int32) * (l3_18 - l3_18 / v24 * v24)), .ref a2]) 177 ?_ ?_
                · rintro s30 h
                  dsimp only [u1] at h ⊢
                  refine g_iast (q0 := 2) (t0 := 0) (ws1 := fun g32 => [(a0, .inr (5, [.ref b0_0, .ref b0_1, .ref b0_2, .int x0_kept, .ref b0_4, .int x0_typed, .int x0_thrown, .int x0_at, .int x0_isFault, .int x0_value, .ref b0_10, .int x0_tolds, .ref a1, .ref b0_13, .ref a2])), (a1, .inl (cI, 10, .inl o2)), (a2, .inl (cI, 20, .inl g32)), (a3, .inl (cI, n3, .inl f3))]) X h rfl rfl dX5_dates_177 (fun _ => rfl) (fun g32 h => ?_)
                  refine g_aload_n X (j := 0) dX5_dates_178 rfl ?_
                  refine g_get (q0 := 0) (k := 14) (ci := 5) X in_X5_dates_X5 fl_X5_dates_31 rfl rfl (Nat.le_of_ble_eq_true rfl) rfl dX5_dates_179 ?_
                  refine g_iconst (v := 2) X dX5_dates_182 (by decide) ?_
                  refine g_iload X (j := 4) dX5_dates_183 rfl ?_
                  refine g_imul X dX5_dates_185 ?_
                  refine g_iconst (v := 1) X dX5_dates_186 (by decide) ?_
                  refine g_iadd X dX5_dates_187 ?_
                  refine g_aload_n X (j := 0) dX5_dates_188 rfl ?_
                  refine g_get (q0 := 0) (k := 14) (ci := 5) X in_X5_dates_X5 fl_X5_dates_31 rfl rfl (Nat.le_of_ble_eq_true rfl) rfl dX5_dates_189 ?_
                  refine g_iconst (v := 2) X dX5_dates_192 (by decide) ?_
                  refine g_iload X (j := 5) dX5_dates_193 rfl ?_
                  refine g_imul X dX5_dates_195 ?_
                  refine g_iconst (v := 1) X dX5_dates_196 (by decide) ?_
                  refine g_iadd X dX5_dates_197 ?_
                  refine g_iald (q0 := 2) (t0 := 0) X h rfl rfl dX5_dates_198 (fun v33 h => ?_)
                  refine g_aload_n X (j := 0) dX5_dates_199 rfl ?_
                  refine g_get (q0 := 0) (k := 14) (ci := 5) X in_X5_dates_X5 fl_X5_dates_31 rfl rfl (Nat.le_of_ble_eq_true rfl) rfl dX5_dates_200 ?_
                  refine g_iconst (v := 2) X dX5_dates_203 (by decide) ?_
                  refine g_iload X (j := 4) dX5_dates_204 rfl ?_
                  refine g_imul X dX5_dates_206 ?_
                  refine g_iconst (v := 1) X dX5_dates_207 (by decide) ?_
                  refine g_iadd X dX5_dates_208 ?_
                  refine g_iald (q0 := 2) (t0 := 0) X h rfl rfl dX5_dates_209 (fun v34 h => ?_)
                  refine jn_g h (u1 fun s35 => [(a0, .inr (5, [.ref b0_0, .ref b0_1, .ref b0_2, .int x0_kept, .ref b0_4, .int x0_typed, .int x0_thrown, .int x0_at, .int x0_isFault, .int x0_value, .ref b0_10, .int x0_tolds, .ref a1, .ref b0_13, .ref a2])), (a1, .inl (cI, 10, .inl o2)), (a2, .inl (cI, 20, .inl g32)), (a3, .inl (cI, n3, .inl f3))]) (u1 fun s35 => [(0, .ref a0), (1, .ref a3), (2, .int l2_14), (3, .int l3_18)]) (u1 fun s35 => [.int s35, .int (((2 : Int32) * (l3_18 / v23)) + 1), .ref a2]) 238 ?_ ?_
                  · rintro s35 h
                    dsimp only [u1] at h ⊢
                    refine g_iast (q0 := 2) (t0 := 0) (ws1 := fun g37 => [(a0, .inr (5, [.ref b0_0, .ref b0_1, .ref b0_2, .int x0_kept, .ref b0_4, .int x0_typed, .int x0_thrown, .int x0_at, .int x0_isFault, .int x0_value, .ref b0_10, .int x0_tolds, .ref a1, .ref b0_13, .ref a2])), (a1, .inl (cI, 10, .inl o2)), (a2, .inl (cI, 20, .inl g37)), (a3, .inl (cI, n3, .inl f3))]) X h rfl rfl dX5_dates_238 (fun _ => rfl) (fun g37 h => ?_)
                    exact hK27 g37 h
                  · intro K36 hK36 h
                    refine g_icmp_ge (tgt := 227) X h dX5_dates_210 (by decide) (fun h => ?_) (fun h => ?_)
                    · refine g_aload_n X (j := 0) dX5_dates_227 rfl ?_
                      refine g_get (q0 := 0) (k := 14) (ci := 5) X in_X5_dates_X5 fl_X5_dates_31 rfl rfl (Nat.le_of_ble_eq_true rfl) rfl dX5_dates_228 ?_
                      refine g_iconst (v := 2) X dX5_dates_231 (by decide) ?_
                      refine g_iload X (j := 4) dX5_dates_232 rfl ?_
                      refine g_imul X dX5_dates_234 ?_
                      refine g_iconst (v := 1) X dX5_dates_235 (by decide) ?_
                      refine g_iadd X dX5_dates_236 ?_
                      refine g_iald (q0 := 2) (t0 := 0) X h rfl rfl dX5_dates_237 (fun v38 h => ?_)
                      refine g_lv (lv' := [(0, .ref a0), (1, .ref a3), (2, .int l2_14), (3, .int l3_18)]) [0, 1, 2, 3] rfl ?_
                      exact hK36 v38 h
                    · refine g_aload_n X (j := 0) dX5_dates_213 rfl ?_
                      refine g_get (q0 := 0) (k := 14) (ci := 5) X in_X5_dates_X5 fl_X5_dates_31 rfl rfl (Nat.le_of_ble_eq_true rfl) rfl dX5_dates_214 ?_
                      refine g_iconst (v := 2) X dX5_dates_217 (by decide) ?_
                      refine g_iload X (j := 5) dX5_dates_218 rfl ?_
                      refine g_imul X dX5_dates_220 ?_
                      refine g_iconst (v := 1) X dX5_dates_221 (by decide) ?_
                      refine g_iadd X dX5_dates_222 ?_
                      refine g_iald (q0 := 2) (t0 := 0) X h rfl rfl dX5_dates_223 (fun v39 h => ?_)
                      refine g_goto (tgt := 238) X dX5_dates_224 (by decide) ?_
                      refine g_lv (lv' := [(0, .ref a0), (1, .ref a3), (2, .int l2_14), (3, .int l3_18)]) [0, 1, 2, 3] rfl ?_
                      exact hK36 v39 h
                · intro K31 hK31 h
                  refine g_icmp_le (tgt := 168) X h dX5_dates_153 (by decide) (fun h => ?_) (fun h => ?_)
                  · refine g_aload_n X (j := 2) dX5_dates_168 rfl ?_
                    refine g_get (q0 := 0) (k := 14) (ci := 5) X in_X5_dates_X5 fl_X5_dates_31 rfl rfl (Nat.le_of_ble_eq_true rfl) rfl dX5_dates_169 ?_
                    refine g_iconst (v := 2) X dX5_dates_172 (by decide) ?_
                    refine g_iload X (j := 0) dX5_dates_173 rfl ?_
                    refine g_imul X dX5_dates_175 ?_
                    refine g_iald (q0 := 2) (t0 := 0) X h rfl rfl dX5_dates_176 (fun v40 h => ?_)
                    refine g_lv (lv' := [(0, .ref a0), (1, .ref a3), (2, .int l2_14), (3, .int l3_18), (4, .int (l3_18 / v23)), (5, .int (l3_18 - l3_18 / v24 * v24))]) [2, 3, 4, 5, 1, 0] rfl ?_
                    exact hK31 v40 h
                  · refine g_aload_n X (j := 2) dX5_dates_156 rfl ?_
                    refine g_get (q0 := 0) (k := 14) (ci := 5) X in_X5_dates_X5 fl_X5_dates_31 rfl rfl (Nat.le_of_ble_eq_true rfl) rfl dX5_dates_157 ?_
                    refine g_iconst (v := 2) X dX5_dates_160 (by decide) ?_
                    refine g_iload X (j := 1) dX5_dates_161 rfl ?_
                    refine g_imul X dX5_dates_163 ?_
                    refine g_iald (q0 := 2) (t0 := 0) X h rfl rfl dX5_dates_164 (fun v41 h => ?_)
                    refine g_goto (tgt := 177) X dX5_dates_165 (by decide) ?_
                    refine g_lv (lv' := [(0, .ref a0), (1, .ref a3), (2, .int l2_14), (3, .int l3_18), (4, .int (l3_18 / v23)), (5, .int (l3_18 - l3_18 / v24 * v24))]) [2, 3, 4, 5, 1, 0] rfl ?_
                    exact hK31 v41 h
  · rintro ⟨l2_3, w4⟩ o h hI hE
    dsimp only [u2] at h ⊢
    refine g_iload_n X (j := 2) dX5_dates_7 rfl ?_
    refine g_aload_n X (j := 1) dX5_dates_8 rfl ?_
    refine g_bipush (v := 40) X dX5_dates_9 (by decide) ?_
    refine g_iald (q0 := 3) (t0 := 0) X h rfl rfl dX5_dates_11 (fun v6 h => ?_)
    refine g_icmp_ge (tgt := 70) X h dX5_dates_12 (by decide) (fun h => ?_) (fun h => ?_)
    · refine g_lv (lv' := [(0, .ref a0), (1, .ref a3)]) [0, 1] rfl ?_
      exact hE w4 (Option.some.inj h).symm
    · refine g_aload_n X (j := 1) dX5_dates_15 rfl ?_
      refine g_iload_n X (j := 2) dX5_dates_16 rfl ?_
      refine g_iconst (v := 3) X dX5_dates_17 (by decide) ?_
      obtain ⟨r7, hc, h⟩ := bd1 h
      refine g_callS (is := [3]) (As := [.ref a3, .int l2_3, .int 3]) (ws' := [(a0, .inr (5, [.ref b0_0, .ref b0_1, .ref b0_2, .int x0_kept, .ref b0_4, .int x0_typed, .int x0_thrown, .int x0_at, .int x0_isFault, .int x0_value, .ref b0_10, .int x0_tolds, .ref a1, .ref b0_13, .ref a2])), (a1, .inl (cI, 10, .inl o2)), (a2, .inl (cI, 20, .inl w4)), (a3, .inl (cI, n3, .inl f3))]) (st := []) X (c_X5_of l D cI cS cL a3 l2_3 3 n3 f3 r7 hc) gX5_dates_X5_of rfl ⟨rfl, rfl⟩ hd_X5_of.2 ⟨Nat.le_of_ble_eq_true rfl, Nat.le_of_ble_eq_true rfl⟩ ⟨Nat.zero_le _, Nat.zero_le _⟩ rfl rfl rfl rfl rfl (Nat.le_of_ble_eq_true rfl) rfl dX5_dates_18 ?_
      refine g_istore_n (lv' := [(3, .int r7), (0, .ref a0), (1, .ref a3), (2, .int l2_3)]) X dX5_dates_21 rfl (by decide) rfl ?_
      refine g_aload_n X (j := 1) dX5_dates_22 rfl ?_
      refine g_get (q0 := 0) (k := 14) (ci := 5) X in_X5_dates_X5 fl_X5_dates_31 rfl rfl (Nat.le_of_ble_eq_true rfl) rfl dX5_dates_23 ?_
      refine g_iconst (v := 2) X dX5_dates_26 (by decide) ?_
      refine g_iload_n X (j := 3) dX5_dates_27 rfl ?_
      refine g_imul X dX5_dates_28 ?_
      refine g_iload_n X (j := 0) dX5_dates_29 rfl ?_
      refine g_iconst (v := (-1)) X dX5_dates_30 (by decide) ?_
      refine jn_g h (u1 fun s8 => [(a0, .inr (5, [.ref b0_0, .ref b0_1, .ref b0_2, .int x0_kept, .ref b0_4, .int x0_typed, .int x0_thrown, .int x0_at, .int x0_isFault, .int x0_value, .ref b0_10, .int x0_tolds, .ref a1, .ref b0_13, .ref a2])), (a1, .inl (cI, 10, .inl o2)), (a2, .inl (cI, 20, .inl w4)), (a3, .inl (cI, n3, .inl f3))]) (u1 fun s8 => [(0, .ref a0), (1, .ref a3), (2, .int l2_3), (3, .int r7)]) (u1 fun s8 => [.int s8, .int ((2 : Int32) * l2_3), .ref a2]) 41 ?_ ?_
      · rintro s8 h
        dsimp only [u1] at h ⊢
        refine g_iast (q0 := 2) (t0 := 0) (ws1 := fun g10 => [(a0, .inr (5, [.ref b0_0, .ref b0_1, .ref b0_2, .int x0_kept, .ref b0_4, .int x0_typed, .int x0_thrown, .int x0_at, .int x0_isFault, .int x0_value, .ref b0_10, .int x0_tolds, .ref a1, .ref b0_13, .ref a2])), (a1, .inl (cI, 10, .inl o2)), (a2, .inl (cI, 20, .inl g10)), (a3, .inl (cI, n3, .inl f3))]) X h rfl rfl dX5_dates_41 (fun _ => rfl) (fun g10 h => ?_)
        refine g_aload_n X (j := 0) dX5_dates_42 rfl ?_
        refine g_get (q0 := 0) (k := 14) (ci := 5) X in_X5_dates_X5 fl_X5_dates_31 rfl rfl (Nat.le_of_ble_eq_true rfl) rfl dX5_dates_43 ?_
        refine g_iconst (v := 2) X dX5_dates_46 (by decide) ?_
        refine g_iload_n X (j := 2) dX5_dates_47 rfl ?_
        refine g_imul X dX5_dates_48 ?_
        refine g_iconst (v := 1) X dX5_dates_49 (by decide) ?_
        refine g_iadd X dX5_dates_50 ?_
        refine g_iload_n X (j := 3) dX5_dates_51 rfl ?_
        refine g_iconst (v := (-1)) X dX5_dates_52 (by decide) ?_
        refine jn_g h (u1 fun s11 => [(a0, .inr (5, [.ref b0_0, .ref b0_1, .ref b0_2, .int x0_kept, .ref b0_4, .int x0_typed, .int x0_thrown, .int x0_at, .int x0_isFault, .int x0_value, .ref b0_10, .int x0_tolds, .ref a1, .ref b0_13, .ref a2])), (a1, .inl (cI, 10, .inl o2)), (a2, .inl (cI, 20, .inl g10)), (a3, .inl (cI, n3, .inl f3))]) (u1 fun s11 => [(0, .ref a0), (1, .ref a3), (2, .int l2_3)]) (u1 fun s11 => [.int s11, .int (((2 : Int32) * l2_3) + 1), .ref a2]) 63 ?_ ?_
        · rintro s11 h
          dsimp only [u1] at h ⊢
          refine g_iast (q0 := 2) (t0 := 0) (ws1 := fun g13 => [(a0, .inr (5, [.ref b0_0, .ref b0_1, .ref b0_2, .int x0_kept, .ref b0_4, .int x0_typed, .int x0_thrown, .int x0_at, .int x0_isFault, .int x0_value, .ref b0_10, .int x0_tolds, .ref a1, .ref b0_13, .ref a2])), (a1, .inl (cI, 10, .inl o2)), (a2, .inl (cI, 20, .inl g13)), (a3, .inl (cI, n3, .inl f3))]) X h rfl rfl dX5_dates_63 (fun _ => rfl) (fun g13 h => ?_)
          refine g_iinc (j := 2) (lv' := [(2, .int (l2_3 + 1)), (0, .ref a0), (1, .ref a3)]) X (l2_3 + 1) dX5_dates_64 rfl rfl (by decide) rfl ?_
          refine g_goto (tgt := 7) X dX5_dates_67 (by decide) ?_
          refine g_lv (lv' := [(0, .ref a0), (1, .ref a3), (2, .int (l2_3 + 1))]) [1, 2, 0] rfl ?_
          exact hI ((l2_3 + 1), g13) (Option.some.inj h).symm
        · intro K12 hK12 h
          refine g_icmp_ne (tgt := 62) X h dX5_dates_53 (by decide) (fun h => ?_) (fun h => ?_)
          · refine g_iload_n X (j := 3) dX5_dates_62 rfl ?_
            refine g_lv (lv' := [(0, .ref a0), (1, .ref a3), (2, .int l2_3)]) [0, 1, 2] rfl ?_
            exact hK12 r7 h
          · refine g_sipush (v := 1999) X dX5_dates_56 (by decide) ?_
            refine g_goto (tgt := 63) X dX5_dates_59 (by decide) ?_
            refine g_lv (lv' := [(0, .ref a0), (1, .ref a3), (2, .int l2_3)]) [0, 1, 2] rfl ?_
            exact hK12 1999 h
      · intro K9 hK9 h
        refine g_icmp_ne (tgt := 40) X h dX5_dates_31 (by decide) (fun h => ?_) (fun h => ?_)
        · refine g_iload_n X (j := 0) dX5_dates_40 rfl ?_
          refine g_lv (lv' := [(0, .ref a0), (1, .ref a3), (2, .int l2_3), (3, .int r7)]) [1, 2, 3, 0] rfl ?_
          exact hK9 r7 h
        · refine g_sipush (v := 1450) X dX5_dates_34 (by decide) ?_
          refine g_goto (tgt := 41) X dX5_dates_37 (by decide) ?_
          refine g_lv (lv' := [(0, .ref a0), (1, .ref a3), (2, .int l2_3), (3, .int r7)]) [1, 2, 3, 0] rfl ?_
          exact hK9 1450 h
