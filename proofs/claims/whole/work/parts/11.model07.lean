set_option maxRecDepth 20000 in
theorem ggX5_ahead_X5_isBook : GoodIn wsX5_ahead wsX5_isBook := goodIn_r _ [7, 2, 8, 9, 6, 10, 24, 25, 26, 27, 28, 29, 30, 31, 32, 33, 34, 35, 36, 37, 38] (by decide +kernel) (by decide +kernel)
set_option maxRecDepth 20000 in
theorem gX5_ahead_X5_isBook : GoodIn wsX5_ahead (wsV RX5 95 RX5 yX5_isBook wsX5_isBook) := goodIn_app (goodIn_of _ (by decide +kernel)) ggX5_ahead_X5_isBook
set_option maxRecDepth 20000 in
theorem ggX5_ahead_X5_fails : GoodIn wsX5_ahead wsX5_fails := goodIn_r _ [14, 1, 24, 25, 26, 27, 28, 29, 30, 31, 32, 33, 34, 35, 36, 37, 38] (by decide +kernel) (by decide +kernel)
set_option maxRecDepth 20000 in
theorem gX5_ahead_X5_fails : GoodIn wsX5_ahead (wsV RX5 49 RX5 yX5_fails wsX5_fails) := goodIn_app (goodIn_of _ (by decide +kernel)) ggX5_ahead_X5_fails
set_option maxRecDepth 20000 in
theorem ggX5_ahead_X5_by : GoodIn wsX5_ahead wsX5_by := goodIn_r _ [17, 18, 19, 6, 20, 21, 22, 23] (by decide +kernel) (by decide +kernel)
set_option maxRecDepth 20000 in
theorem gX5_ahead_X5_by : GoodIn wsX5_ahead (va_wsS RX5 61 yX5_by wsX5_by) := goodIn_app (goodIn_of _ (by decide +kernel)) ggX5_ahead_X5_by
theorem dX5_ahead_0 : decode cX5_ahead 0 = .ok (.aload_n 0, 1) := by decide +kernel
theorem dX5_ahead_1 : decode cX5_ahead 1 = .ok (.iconst 0, 1) := by decide +kernel
theorem dX5_ahead_2 : decode cX5_ahead 2 = .ok (.putfield 38, 3) := by decide +kernel
theorem dX5_ahead_5 : decode cX5_ahead 5 = .ok (.aload_n 0, 1) := by decide +kernel
theorem dX5_ahead_6 : decode cX5_ahead 6 = .ok (.iload_n 1, 1) := by decide +kernel
theorem dX5_ahead_7 : decode cX5_ahead 7 = .ok (.invokevirtual 95, 3) := by decide +kernel
theorem dX5_ahead_10 : decode cX5_ahead 10 = .ok (.ifCond .eq 11, 3) := by decide +kernel
theorem dX5_ahead_13 : decode cX5_ahead 13 = .ok (.aload_n 0, 1) := by decide +kernel
theorem dX5_ahead_14 : decode cX5_ahead 14 = .ok (.iload_n 2, 1) := by decide +kernel
theorem dX5_ahead_15 : decode cX5_ahead 15 = .ok (.invokevirtual 95, 3) := by decide +kernel
theorem dX5_ahead_18 : decode cX5_ahead 18 = .ok (.ifCond .ne 9, 3) := by decide +kernel
theorem dX5_ahead_21 : decode cX5_ahead 21 = .ok (.aload_n 0, 1) := by decide +kernel
theorem dX5_ahead_22 : decode cX5_ahead 22 = .ok (.iconst 1, 1) := by decide +kernel
theorem dX5_ahead_23 : decode cX5_ahead 23 = .ok (.invokevirtual 49, 3) := by decide +kernel
theorem dX5_ahead_26 : decode cX5_ahead 26 = .ok (.ireturn, 1) := by decide +kernel
theorem dX5_ahead_27 : decode cX5_ahead 27 = .ok (.iload_n 1, 1) := by decide +kernel
theorem dX5_ahead_28 : decode cX5_ahead 28 = .ok (.iload_n 2, 1) := by decide +kernel
theorem dX5_ahead_29 : decode cX5_ahead 29 = .ok (.if_icmp .ne 11, 3) := by decide +kernel
theorem dX5_ahead_32 : decode cX5_ahead 32 = .ok (.aload_n 0, 1) := by decide +kernel
theorem dX5_ahead_33 : decode cX5_ahead 33 = .ok (.iconst 2, 1) := by decide +kernel
theorem dX5_ahead_34 : decode cX5_ahead 34 = .ok (.invokevirtual 49, 3) := by decide +kernel
theorem dX5_ahead_37 : decode cX5_ahead 37 = .ok (.goto 12, 3) := by decide +kernel
theorem dX5_ahead_40 : decode cX5_ahead 40 = .ok (.aload_n 0, 1) := by decide +kernel
theorem dX5_ahead_41 : decode cX5_ahead 41 = .ok (.getfield 7, 3) := by decide +kernel
theorem dX5_ahead_44 : decode cX5_ahead 44 = .ok (.iload_n 1, 1) := by decide +kernel
theorem dX5_ahead_45 : decode cX5_ahead 45 = .ok (.iload_n 2, 1) := by decide +kernel
theorem dX5_ahead_46 : decode cX5_ahead 46 = .ok (.invokestatic 61, 3) := by decide +kernel
theorem dX5_ahead_49 : decode cX5_ahead 49 = .ok (.ireturn, 1) := by decide +kernel
set_option maxRecDepth 20000 in
theorem ggX5_having_X5_of : GoodIn wsX5_having wsX5_of := goodIn_r _ [5] (by decide +kernel) (by decide +kernel)
set_option maxRecDepth 20000 in
theorem gX5_having_X5_of : GoodIn wsX5_having (va_wsS RX5 53 yX5_of wsX5_of) := goodIn_app (goodIn_of _ (by decide +kernel)) ggX5_having_X5_of
theorem dX5_having_0 : decode cX5_having 0 = .ok (.iconst 0, 1) := by decide +kernel
theorem dX5_having_1 : decode cX5_having 1 = .ok (.istore_n 2, 1) := by decide +kernel
theorem dX5_having_2 : decode cX5_having 2 = .ok (.iconst 0, 1) := by decide +kernel
theorem dX5_having_3 : decode cX5_having 3 = .ok (.istore_n 3, 1) := by decide +kernel
theorem dX5_having_4 : decode cX5_having 4 = .ok (.iload_n 3, 1) := by decide +kernel
theorem dX5_having_5 : decode cX5_having 5 = .ok (.aload_n 0, 1) := by decide +kernel
theorem dX5_having_6 : decode cX5_having 6 = .ok (.getfield 7, 3) := by decide +kernel
theorem dX5_having_9 : decode cX5_having 9 = .ok (.bipush 40, 2) := by decide +kernel
theorem dX5_having_11 : decode cX5_having 11 = .ok (.iaload, 1) := by decide +kernel
theorem dX5_having_12 : decode cX5_having 12 = .ok (.if_icmp .ge 54, 3) := by decide +kernel
theorem dX5_having_15 : decode cX5_having 15 = .ok (.iload_n 2, 1) := by decide +kernel
theorem dX5_having_16 : decode cX5_having 16 = .ok (.iload_n 1, 1) := by decide +kernel
theorem dX5_having_17 : decode cX5_having 17 = .ok (.iconst 2, 1) := by decide +kernel
theorem dX5_having_18 : decode cX5_having 18 = .ok (.if_icmp .ne 19, 3) := by decide +kernel
theorem dX5_having_21 : decode cX5_having 21 = .ok (.aload_n 0, 1) := by decide +kernel
theorem dX5_having_22 : decode cX5_having 22 = .ok (.getfield 7, 3) := by decide +kernel
theorem dX5_having_25 : decode cX5_having 25 = .ok (.iload_n 3, 1) := by decide +kernel
theorem dX5_having_26 : decode cX5_having 26 = .ok (.iconst 3, 1) := by decide +kernel
theorem dX5_having_27 : decode cX5_having 27 = .ok (.invokestatic 53, 3) := by decide +kernel
theorem dX5_having_30 : decode cX5_having 30 = .ok (.iconst (-1), 1) := by decide +kernel
theorem dX5_having_31 : decode cX5_having 31 = .ok (.if_icmp .eq 26, 3) := by decide +kernel
theorem dX5_having_34 : decode cX5_having 34 = .ok (.goto 19, 3) := by decide +kernel
theorem dX5_having_37 : decode cX5_having 37 = .ok (.aload_n 0, 1) := by decide +kernel
theorem dX5_having_38 : decode cX5_having 38 = .ok (.getfield 7, 3) := by decide +kernel
theorem dX5_having_41 : decode cX5_having 41 = .ok (.iload_n 3, 1) := by decide +kernel
theorem dX5_having_42 : decode cX5_having 42 = .ok (.iconst 0, 1) := by decide +kernel
theorem dX5_having_43 : decode cX5_having 43 = .ok (.invokestatic 53, 3) := by decide +kernel
theorem dX5_having_46 : decode cX5_having 46 = .ok (.iload_n 1, 1) := by decide +kernel
theorem dX5_having_47 : decode cX5_having 47 = .ok (.bipush 7, 2) := by decide +kernel
theorem dX5_having_49 : decode cX5_having 49 = .ok (.isub, 1) := by decide +kernel
theorem dX5_having_50 : decode cX5_having 50 = .ok (.if_icmp .ne 7, 3) := by decide +kernel
theorem dX5_having_53 : decode cX5_having 53 = .ok (.iconst 1, 1) := by decide +kernel
theorem dX5_having_54 : decode cX5_having 54 = .ok (.goto 4, 3) := by decide +kernel
theorem dX5_having_57 : decode cX5_having 57 = .ok (.iconst 0, 1) := by decide +kernel
theorem dX5_having_58 : decode cX5_having 58 = .ok (.iadd, 1) := by decide +kernel
theorem dX5_having_59 : decode cX5_having 59 = .ok (.istore_n 2, 1) := by decide +kernel
theorem dX5_having_60 : decode cX5_having 60 = .ok (.iinc 3 1, 3) := by decide +kernel
theorem dX5_having_63 : decode cX5_having 63 = .ok (.goto (-59), 3) := by decide +kernel
theorem dX5_having_66 : decode cX5_having 66 = .ok (.iload_n 2, 1) := by decide +kernel
theorem dX5_having_67 : decode cX5_having 67 = .ok (.ireturn, 1) := by decide +kernel
set_option maxRecDepth 20000 in
theorem ggX5_pairs_X5_by : GoodIn wsX5_pairs wsX5_by := goodIn_r _ [5, 6, 7, 4, 8, 9, 10, 11] (by decide +kernel) (by decide +kernel)
set_option maxRecDepth 20000 in
theorem gX5_pairs_X5_by : GoodIn wsX5_pairs (va_wsS RX5 61 yX5_by wsX5_by) := goodIn_app (goodIn_of _ (by decide +kernel)) ggX5_pairs_X5_by
theorem dX5_pairs_0 : decode cX5_pairs 0 = .ok (.iconst 0, 1) := by decide +kernel
theorem dX5_pairs_1 : decode cX5_pairs 1 = .ok (.istore_n 2, 1) := by decide +kernel
theorem dX5_pairs_2 : decode cX5_pairs 2 = .ok (.iconst 0, 1) := by decide +kernel
theorem dX5_pairs_3 : decode cX5_pairs 3 = .ok (.istore_n 3, 1) := by decide +kernel
theorem dX5_pairs_4 : decode cX5_pairs 4 = .ok (.iload_n 3, 1) := by decide +kernel
theorem dX5_pairs_5 : decode cX5_pairs 5 = .ok (.aload_n 0, 1) := by decide +kernel
theorem dX5_pairs_6 : decode cX5_pairs 6 = .ok (.getfield 7, 3) := by decide +kernel
theorem dX5_pairs_9 : decode cX5_pairs 9 = .ok (.bipush 40, 2) := by decide +kernel
theorem dX5_pairs_11 : decode cX5_pairs 11 = .ok (.iaload, 1) := by decide +kernel
theorem dX5_pairs_12 : decode cX5_pairs 12 = .ok (.if_icmp .ge 101, 3) := by decide +kernel
theorem dX5_pairs_15 : decode cX5_pairs 15 = .ok (.iconst 0, 1) := by decide +kernel
theorem dX5_pairs_16 : decode cX5_pairs 16 = .ok (.istore 4, 2) := by decide +kernel
theorem dX5_pairs_18 : decode cX5_pairs 18 = .ok (.iload 4, 2) := by decide +kernel
theorem dX5_pairs_20 : decode cX5_pairs 20 = .ok (.iload_n 3, 1) := by decide +kernel
theorem dX5_pairs_21 : decode cX5_pairs 21 = .ok (.if_icmp .ge 86, 3) := by decide +kernel
theorem dX5_pairs_24 : decode cX5_pairs 24 = .ok (.aload_n 0, 1) := by decide +kernel
theorem dX5_pairs_25 : decode cX5_pairs 25 = .ok (.getfield 7, 3) := by decide +kernel
theorem dX5_pairs_28 : decode cX5_pairs 28 = .ok (.iload 4, 2) := by decide +kernel
theorem dX5_pairs_30 : decode cX5_pairs 30 = .ok (.iload_n 3, 1) := by decide +kernel
theorem dX5_pairs_31 : decode cX5_pairs 31 = .ok (.invokestatic 61, 3) := by decide +kernel
theorem dX5_pairs_34 : decode cX5_pairs 34 = .ok (.ifCond .eq 7, 3) := by decide +kernel
theorem dX5_pairs_37 : decode cX5_pairs 37 = .ok (.iconst 1, 1) := by decide +kernel
theorem dX5_pairs_38 : decode cX5_pairs 38 = .ok (.goto 4, 3) := by decide +kernel
theorem dX5_pairs_41 : decode cX5_pairs 41 = .ok (.iconst 0, 1) := by decide +kernel
theorem dX5_pairs_42 : decode cX5_pairs 42 = .ok (.istore 5, 2) := by decide +kernel
theorem dX5_pairs_44 : decode cX5_pairs 44 = .ok (.aload_n 0, 1) := by decide +kernel
theorem dX5_pairs_45 : decode cX5_pairs 45 = .ok (.getfield 7, 3) := by decide +kernel
theorem dX5_pairs_48 : decode cX5_pairs 48 = .ok (.iload_n 3, 1) := by decide +kernel
theorem dX5_pairs_49 : decode cX5_pairs 49 = .ok (.iload 4, 2) := by decide +kernel
theorem dX5_pairs_51 : decode cX5_pairs 51 = .ok (.invokestatic 61, 3) := by decide +kernel
theorem dX5_pairs_54 : decode cX5_pairs 54 = .ok (.ifCond .eq 7, 3) := by decide +kernel
theorem dX5_pairs_57 : decode cX5_pairs 57 = .ok (.iconst 1, 1) := by decide +kernel
theorem dX5_pairs_58 : decode cX5_pairs 58 = .ok (.goto 4, 3) := by decide +kernel
theorem dX5_pairs_61 : decode cX5_pairs 61 = .ok (.iconst 0, 1) := by decide +kernel
theorem dX5_pairs_62 : decode cX5_pairs 62 = .ok (.istore 6, 2) := by decide +kernel
theorem dX5_pairs_64 : decode cX5_pairs 64 = .ok (.iload_n 2, 1) := by decide +kernel
theorem dX5_pairs_65 : decode cX5_pairs 65 = .ok (.iload_n 1, 1) := by decide +kernel
theorem dX5_pairs_66 : decode cX5_pairs 66 = .ok (.ifCond .eq 21, 3) := by decide +kernel
theorem dX5_pairs_69 : decode cX5_pairs 69 = .ok (.iload 5, 2) := by decide +kernel
theorem dX5_pairs_71 : decode cX5_pairs 71 = .ok (.ifCond .eq 12, 3) := by decide +kernel
theorem dX5_pairs_74 : decode cX5_pairs 74 = .ok (.iload 6, 2) := by decide +kernel
theorem dX5_pairs_76 : decode cX5_pairs 76 = .ok (.ifCond .eq 7, 3) := by decide +kernel
theorem dX5_pairs_79 : decode cX5_pairs 79 = .ok (.iconst 1, 1) := by decide +kernel
theorem dX5_pairs_80 : decode cX5_pairs 80 = .ok (.goto 19, 3) := by decide +kernel
theorem dX5_pairs_83 : decode cX5_pairs 83 = .ok (.iconst 0, 1) := by decide +kernel
theorem dX5_pairs_84 : decode cX5_pairs 84 = .ok (.goto 15, 3) := by decide +kernel
theorem dX5_pairs_87 : decode cX5_pairs 87 = .ok (.iload 5, 2) := by decide +kernel
theorem dX5_pairs_89 : decode cX5_pairs 89 = .ok (.iload 6, 2) := by decide +kernel
theorem dX5_pairs_91 : decode cX5_pairs 91 = .ok (.if_icmp .eq 7, 3) := by decide +kernel
theorem dX5_pairs_94 : decode cX5_pairs 94 = .ok (.iconst 1, 1) := by decide +kernel
theorem dX5_pairs_95 : decode cX5_pairs 95 = .ok (.goto 4, 3) := by decide +kernel
theorem dX5_pairs_98 : decode cX5_pairs 98 = .ok (.iconst 0, 1) := by decide +kernel
theorem dX5_pairs_99 : decode cX5_pairs 99 = .ok (.iadd, 1) := by decide +kernel
theorem dX5_pairs_100 : decode cX5_pairs 100 = .ok (.istore_n 2, 1) := by decide +kernel
theorem dX5_pairs_101 : decode cX5_pairs 101 = .ok (.iinc 4 1, 3) := by decide +kernel
theorem dX5_pairs_104 : decode cX5_pairs 104 = .ok (.goto (-86), 3) := by decide +kernel
theorem dX5_pairs_107 : decode cX5_pairs 107 = .ok (.iinc 3 1, 3) := by decide +kernel
theorem dX5_pairs_110 : decode cX5_pairs 110 = .ok (.goto (-106), 3) := by decide +kernel
theorem dX5_pairs_113 : decode cX5_pairs 113 = .ok (.iload_n 2, 1) := by decide +kernel
theorem dX5_pairs_114 : decode cX5_pairs 114 = .ok (.ireturn, 1) := by decide +kernel
set_option maxRecDepth 20000 in
theorem ggX5_counted_X5_dated : GoodIn wsX5_counted wsX5_dated := goodIn_r _ [7, 8, 9, 10, 6, 11, 12, 13, 14, 15, 16, 17, 18, 19, 20, 21, 22, 23, 24, 25, 26, 27, 28, 29, 30, 52, 53, 54, 55, 56, 57, 58, 59, 60, 61, 62, 63, 64, 65, 66] (by decide +kernel) (by decide +kernel)
set_option maxRecDepth 20000 in
theorem gX5_counted_X5_dated : GoodIn wsX5_counted (wsV RX5 152 RX5 yX5_dated wsX5_dated) := goodIn_app (goodIn_of _ (by decide +kernel)) ggX5_counted_X5_dated
set_option maxRecDepth 20000 in
theorem ggX5_counted_X5_pairs : GoodIn wsX5_counted wsX5_pairs := goodIn_r _ [34, 1, 18, 19, 6, 20, 21, 22, 23, 24, 25, 26, 52, 53, 54, 55, 56, 57, 58, 59, 60, 61, 62, 63, 64, 65, 66] (by decide +kernel) (by decide +kernel)
set_option maxRecDepth 20000 in
theorem gX5_counted_X5_pairs : GoodIn wsX5_counted (wsV RX5 156 RX5 yX5_pairs wsX5_pairs) := goodIn_app (goodIn_of _ (by decide +kernel)) ggX5_counted_X5_pairs
set_option maxRecDepth 20000 in
theorem ggX5_counted_X5_fits : GoodIn wsX5_counted wsX5_fits := goodIn_r _ [38, 39, 40, 41, 42, 6, 43, 14, 15, 16, 17, 13, 18, 19, 20, 21, 22, 23, 24, 25, 26, 44, 45, 46, 47, 52, 53, 54, 55, 56, 57, 58, 59, 60, 61, 62, 63, 64, 65, 66] (by decide +kernel) (by decide +kernel)
set_option maxRecDepth 20000 in
theorem gX5_counted_X5_fits : GoodIn wsX5_counted (wsV RX5 160 RX5 yX5_fits wsX5_fits) := goodIn_app (goodIn_of _ (by decide +kernel)) ggX5_counted_X5_fits
set_option maxRecDepth 20000 in
theorem ggX5_counted_X5_having : GoodIn wsX5_counted wsX5_having := goodIn_r _ [51, 1, 21, 22, 6, 23, 52, 53, 54, 55, 56, 57, 58, 59, 60, 61, 62, 63, 64, 65, 66] (by decide +kernel) (by decide +kernel)
set_option maxRecDepth 20000 in
theorem gX5_counted_X5_having : GoodIn wsX5_counted (wsV RX5 163 RX5 yX5_having wsX5_having) := goodIn_app (goodIn_of _ (by decide +kernel)) ggX5_counted_X5_having
theorem dX5_counted_0 : decode cX5_counted 0 = .ok (.iload_n 1, 1) := by decide +kernel
theorem dX5_counted_1 : decode cX5_counted 1 = .ok (.tableswitch 89 0 6 #[43, 51, 89, 60, 75, 60, 84], 43) := by decide +kernel
theorem dX5_counted_44 : decode cX5_counted 44 = .ok (.aload_n 0, 1) := by decide +kernel
theorem dX5_counted_45 : decode cX5_counted 45 = .ok (.getfield 7, 3) := by decide +kernel
theorem dX5_counted_48 : decode cX5_counted 48 = .ok (.bipush 40, 2) := by decide +kernel
theorem dX5_counted_50 : decode cX5_counted 50 = .ok (.iaload, 1) := by decide +kernel
theorem dX5_counted_51 : decode cX5_counted 51 = .ok (.ireturn, 1) := by decide +kernel
theorem dX5_counted_52 : decode cX5_counted 52 = .ok (.aload_n 0, 1) := by decide +kernel
theorem dX5_counted_53 : decode cX5_counted 53 = .ok (.aload_n 0, 1) := by decide +kernel
theorem dX5_counted_54 : decode cX5_counted 54 = .ok (.getfield 7, 3) := by decide +kernel
theorem dX5_counted_57 : decode cX5_counted 57 = .ok (.invokevirtual 152, 3) := by decide +kernel
theorem dX5_counted_60 : decode cX5_counted 60 = .ok (.ireturn, 1) := by decide +kernel
theorem dX5_counted_61 : decode cX5_counted 61 = .ok (.aload_n 0, 1) := by decide +kernel
theorem dX5_counted_62 : decode cX5_counted 62 = .ok (.iload_n 1, 1) := by decide +kernel
theorem dX5_counted_63 : decode cX5_counted 63 = .ok (.iconst 3, 1) := by decide +kernel
theorem dX5_counted_64 : decode cX5_counted 64 = .ok (.if_icmp .ne 7, 3) := by decide +kernel
theorem dX5_counted_67 : decode cX5_counted 67 = .ok (.iconst 1, 1) := by decide +kernel
theorem dX5_counted_68 : decode cX5_counted 68 = .ok (.goto 4, 3) := by decide +kernel
theorem dX5_counted_71 : decode cX5_counted 71 = .ok (.iconst 0, 1) := by decide +kernel
theorem dX5_counted_72 : decode cX5_counted 72 = .ok (.invokevirtual 156, 3) := by decide +kernel
theorem dX5_counted_75 : decode cX5_counted 75 = .ok (.ireturn, 1) := by decide +kernel
theorem dX5_counted_76 : decode cX5_counted 76 = .ok (.aload_n 0, 1) := by decide +kernel
theorem dX5_counted_77 : decode cX5_counted 77 = .ok (.aload_n 0, 1) := by decide +kernel
theorem dX5_counted_78 : decode cX5_counted 78 = .ok (.getfield 7, 3) := by decide +kernel
theorem dX5_counted_81 : decode cX5_counted 81 = .ok (.invokevirtual 160, 3) := by decide +kernel
theorem dX5_counted_84 : decode cX5_counted 84 = .ok (.ireturn, 1) := by decide +kernel
theorem dX5_counted_85 : decode cX5_counted 85 = .ok (.aload_n 0, 1) := by decide +kernel
theorem dX5_counted_86 : decode cX5_counted 86 = .ok (.getfield 34, 3) := by decide +kernel
theorem dX5_counted_89 : decode cX5_counted 89 = .ok (.ireturn, 1) := by decide +kernel
theorem dX5_counted_90 : decode cX5_counted 90 = .ok (.aload_n 0, 1) := by decide +kernel
theorem dX5_counted_91 : decode cX5_counted 91 = .ok (.iload_n 1, 1) := by decide +kernel
theorem dX5_counted_92 : decode cX5_counted 92 = .ok (.invokevirtual 163, 3) := by decide +kernel
theorem dX5_counted_95 : decode cX5_counted 95 = .ok (.ireturn, 1) := by decide +kernel
set_option maxRecDepth 20000 in
theorem ggX5_count_X5_in : GoodIn wsX5_count wsX5_in := goodIn_r _ [5] (by decide +kernel) (by decide +kernel)
set_option maxRecDepth 20000 in
theorem gX5_count_X5_in : GoodIn wsX5_count (va_wsS RX5 41 yX5_in wsX5_in) := goodIn_app (goodIn_of _ (by decide +kernel)) ggX5_count_X5_in
set_option maxRecDepth 20000 in
theorem ggX5_count_X5_counted : GoodIn wsX5_count wsX5_counted := goodIn_r _ [9, 10, 11, 12, 13, 14, 4, 15, 16, 17, 18, 19, 20, 21, 22, 23, 24, 25, 26, 27, 28, 29, 30, 31, 32, 33, 34, 35, 36, 37, 38, 39, 40, 41, 42, 43, 44, 45, 46, 47, 48, 49, 50, 51, 52, 53, 54, 55, 56, 57, 58, 59, 64, 65, 66, 67, 68, 69, 70, 71, 72, 73, 74, 75, 76, 77, 78] (by decide +kernel) (by decide +kernel)
set_option maxRecDepth 20000 in
theorem gX5_count_X5_counted : GoodIn wsX5_count (wsV RX5 166 RX5 yX5_counted wsX5_counted) := goodIn_app (goodIn_of _ (by decide +kernel)) ggX5_count_X5_counted
set_option maxRecDepth 20000 in
theorem ggX5_count_X5_fails : GoodIn wsX5_count wsX5_fails := goodIn_r _ [63, 1, 64, 65, 66, 67, 68, 69, 70, 71, 72, 73, 74, 75, 76, 77, 78] (by decide +kernel) (by decide +kernel)
set_option maxRecDepth 20000 in
theorem gX5_count_X5_fails : GoodIn wsX5_count (wsV RX5 49 RX5 yX5_fails wsX5_fails) := goodIn_app (goodIn_of _ (by decide +kernel)) ggX5_count_X5_fails
theorem dX5_count_0 : decode cX5_count 0 = .ok (.aload_n 0, 1) := by decide +kernel
theorem dX5_count_1 : decode cX5_count 1 = .ok (.iconst 0, 1) := by decide +kernel
theorem dX5_count_2 : decode cX5_count 2 = .ok (.putfield 38, 3) := by decide +kernel
theorem dX5_count_5 : decode cX5_count 5 = .ok (.iload_n 1, 1) := by decide +kernel
theorem dX5_count_6 : decode cX5_count 6 = .ok (.iconst 0, 1) := by decide +kernel
theorem dX5_count_7 : decode cX5_count 7 = .ok (.bipush 9, 2) := by decide +kernel
theorem dX5_count_9 : decode cX5_count 9 = .ok (.invokestatic 41, 3) := by decide +kernel
theorem dX5_count_12 : decode cX5_count 12 = .ok (.ifCond .eq 11, 3) := by decide +kernel
theorem dX5_count_15 : decode cX5_count 15 = .ok (.aload_n 0, 1) := by decide +kernel
theorem dX5_count_16 : decode cX5_count 16 = .ok (.iload_n 1, 1) := by decide +kernel
theorem dX5_count_17 : decode cX5_count 17 = .ok (.invokevirtual 166, 3) := by decide +kernel
theorem dX5_count_20 : decode cX5_count 20 = .ok (.goto 8, 3) := by decide +kernel
theorem dX5_count_23 : decode cX5_count 23 = .ok (.aload_n 0, 1) := by decide +kernel
theorem dX5_count_24 : decode cX5_count 24 = .ok (.iconst 1, 1) := by decide +kernel
theorem dX5_count_25 : decode cX5_count 25 = .ok (.invokevirtual 49, 3) := by decide +kernel
theorem dX5_count_28 : decode cX5_count 28 = .ok (.ireturn, 1) := by decide +kernel
set_option maxRecDepth 20000 in
theorem ggX5_ordered_X5_fits : GoodIn wsX5_ordered wsX5_fits := goodIn_r _ [7, 8, 9, 10, 11, 6, 12, 13, 14, 15, 16, 2, 17, 18, 19, 20, 21, 22, 23, 24, 25, 26, 27, 28, 29, 30, 31, 32, 33, 34, 35, 36, 37, 38, 39, 40, 41, 42, 43, 44] (by decide +kernel) (by decide +kernel)
set_option maxRecDepth 20000 in
theorem gX5_ordered_X5_fits : GoodIn wsX5_ordered (wsV RX5 160 RX5 yX5_fits wsX5_fits) := goodIn_app (goodIn_of _ (by decide +kernel)) ggX5_ordered_X5_fits
theorem dX5_ordered_0 : decode cX5_ordered 0 = .ok (.iload_n 1, 1) := by decide +kernel
theorem dX5_ordered_1 : decode cX5_ordered 1 = .ok (.aload_n 0, 1) := by decide +kernel
theorem dX5_ordered_2 : decode cX5_ordered 2 = .ok (.getfield 7, 3) := by decide +kernel
theorem dX5_ordered_5 : decode cX5_ordered 5 = .ok (.bipush 40, 2) := by decide +kernel
theorem dX5_ordered_7 : decode cX5_ordered 7 = .ok (.iaload, 1) := by decide +kernel
theorem dX5_ordered_8 : decode cX5_ordered 8 = .ok (.if_icmp .ge 14, 3) := by decide +kernel
theorem dX5_ordered_11 : decode cX5_ordered 11 = .ok (.aload_n 0, 1) := by decide +kernel
theorem dX5_ordered_12 : decode cX5_ordered 12 = .ok (.aload_n 0, 1) := by decide +kernel
theorem dX5_ordered_13 : decode cX5_ordered 13 = .ok (.getfield 7, 3) := by decide +kernel
theorem dX5_ordered_16 : decode cX5_ordered 16 = .ok (.invokevirtual 160, 3) := by decide +kernel
theorem dX5_ordered_19 : decode cX5_ordered 19 = .ok (.ifCond .ne 5, 3) := by decide +kernel
theorem dX5_ordered_22 : decode cX5_ordered 22 = .ok (.iconst (-1), 1) := by decide +kernel
theorem dX5_ordered_23 : decode cX5_ordered 23 = .ok (.ireturn, 1) := by decide +kernel
theorem dX5_ordered_24 : decode cX5_ordered 24 = .ok (.iconst 0, 1) := by decide +kernel
theorem dX5_ordered_25 : decode cX5_ordered 25 = .ok (.istore_n 2, 1) := by decide +kernel
theorem dX5_ordered_26 : decode cX5_ordered 26 = .ok (.iconst (-1), 1) := by decide +kernel
theorem dX5_ordered_27 : decode cX5_ordered 27 = .ok (.istore_n 3, 1) := by decide +kernel
theorem dX5_ordered_28 : decode cX5_ordered 28 = .ok (.iconst 0, 1) := by decide +kernel
theorem dX5_ordered_29 : decode cX5_ordered 29 = .ok (.istore 4, 2) := by decide +kernel
theorem dX5_ordered_31 : decode cX5_ordered 31 = .ok (.iload 4, 2) := by decide +kernel
theorem dX5_ordered_33 : decode cX5_ordered 33 = .ok (.iload_n 1, 1) := by decide +kernel
theorem dX5_ordered_34 : decode cX5_ordered 34 = .ok (.if_icmp .gt 69, 3) := by decide +kernel
theorem dX5_ordered_37 : decode cX5_ordered 37 = .ok (.iconst (-1), 1) := by decide +kernel
theorem dX5_ordered_38 : decode cX5_ordered 38 = .ok (.istore_n 3, 1) := by decide +kernel
theorem dX5_ordered_39 : decode cX5_ordered 39 = .ok (.aload_n 0, 1) := by decide +kernel
theorem dX5_ordered_40 : decode cX5_ordered 40 = .ok (.getfield 7, 3) := by decide +kernel
theorem dX5_ordered_43 : decode cX5_ordered 43 = .ok (.bipush 40, 2) := by decide +kernel
theorem dX5_ordered_45 : decode cX5_ordered 45 = .ok (.iaload, 1) := by decide +kernel
theorem dX5_ordered_46 : decode cX5_ordered 46 = .ok (.iconst 1, 1) := by decide +kernel
theorem dX5_ordered_47 : decode cX5_ordered 47 = .ok (.isub, 1) := by decide +kernel
theorem dX5_ordered_48 : decode cX5_ordered 48 = .ok (.istore 5, 2) := by decide +kernel
theorem dX5_ordered_50 : decode cX5_ordered 50 = .ok (.iload 5, 2) := by decide +kernel
theorem dX5_ordered_52 : decode cX5_ordered 52 = .ok (.ifCond .lt 39, 3) := by decide +kernel
theorem dX5_ordered_55 : decode cX5_ordered 55 = .ok (.iload_n 2, 1) := by decide +kernel
theorem dX5_ordered_56 : decode cX5_ordered 56 = .ok (.iload 5, 2) := by decide +kernel
theorem dX5_ordered_58 : decode cX5_ordered 58 = .ok (.ishr, 1) := by decide +kernel
theorem dX5_ordered_59 : decode cX5_ordered 59 = .ok (.iconst 1, 1) := by decide +kernel
theorem dX5_ordered_60 : decode cX5_ordered 60 = .ok (.iand, 1) := by decide +kernel
theorem dX5_ordered_61 : decode cX5_ordered 61 = .ok (.ifCond .ne 22, 3) := by decide +kernel
theorem dX5_ordered_64 : decode cX5_ordered 64 = .ok (.aload_n 0, 1) := by decide +kernel
theorem dX5_ordered_65 : decode cX5_ordered 65 = .ok (.getfield 25, 3) := by decide +kernel
theorem dX5_ordered_68 : decode cX5_ordered 68 = .ok (.iload 5, 2) := by decide +kernel
theorem dX5_ordered_70 : decode cX5_ordered 70 = .ok (.iaload, 1) := by decide +kernel
theorem dX5_ordered_71 : decode cX5_ordered 71 = .ok (.iload_n 2, 1) := by decide +kernel
theorem dX5_ordered_72 : decode cX5_ordered 72 = .ok (.iconst (-1), 1) := by decide +kernel
theorem dX5_ordered_73 : decode cX5_ordered 73 = .ok (.ixor, 1) := by decide +kernel
theorem dX5_ordered_74 : decode cX5_ordered 74 = .ok (.iand, 1) := by decide +kernel
theorem dX5_ordered_75 : decode cX5_ordered 75 = .ok (.ifCond .ne 8, 3) := by decide +kernel
theorem dX5_ordered_78 : decode cX5_ordered 78 = .ok (.iload 5, 2) := by decide +kernel
theorem dX5_ordered_80 : decode cX5_ordered 80 = .ok (.goto 4, 3) := by decide +kernel
theorem dX5_ordered_83 : decode cX5_ordered 83 = .ok (.iload_n 3, 1) := by decide +kernel
theorem dX5_ordered_84 : decode cX5_ordered 84 = .ok (.istore_n 3, 1) := by decide +kernel
theorem dX5_ordered_85 : decode cX5_ordered 85 = .ok (.iinc 5 (-1), 3) := by decide +kernel
theorem dX5_ordered_88 : decode cX5_ordered 88 = .ok (.goto (-38), 3) := by decide +kernel
theorem dX5_ordered_91 : decode cX5_ordered 91 = .ok (.iload_n 2, 1) := by decide +kernel
theorem dX5_ordered_92 : decode cX5_ordered 92 = .ok (.iconst 1, 1) := by decide +kernel
theorem dX5_ordered_93 : decode cX5_ordered 93 = .ok (.iload_n 3, 1) := by decide +kernel
theorem dX5_ordered_94 : decode cX5_ordered 94 = .ok (.ishl, 1) := by decide +kernel
theorem dX5_ordered_95 : decode cX5_ordered 95 = .ok (.ior, 1) := by decide +kernel
theorem dX5_ordered_96 : decode cX5_ordered 96 = .ok (.istore_n 2, 1) := by decide +kernel
theorem dX5_ordered_97 : decode cX5_ordered 97 = .ok (.iinc 4 1, 3) := by decide +kernel
theorem dX5_ordered_100 : decode cX5_ordered 100 = .ok (.goto (-69), 3) := by decide +kernel
theorem dX5_ordered_103 : decode cX5_ordered 103 = .ok (.iload_n 3, 1) := by decide +kernel
theorem dX5_ordered_104 : decode cX5_ordered 104 = .ok (.ireturn, 1) := by decide +kernel
def f_X5_ahead (p1 : Int32) (p2 : Int32) (x0_thrown : Int32) (f1 : Nat → Int32) : Option (Int32 × Int32) := (f_X5_isBook p1 f1).bind (u1 fun (r1 : Int32) => (jn (u0 ((f_X5_fails 1 0).bind (u2 fun (r3 : Int32) (o4 : Int32) => some (r3, o4)))) (fun K2 => (if r1 = 0 then K2 () else (f_X5_isBook p2 f1).bind (u1 fun (r5 : Int32) => (if r5 = 0 then K2 () else (jn (u2 fun (w6 : Int32) (s7 : Int32) => some (s7, w6)) (fun K8 => (if p1 = p2 then (f_X5_fails 2 0).bind (u2 fun (r10 : Int32) (o11 : Int32) => K8 (o11, r10)) else (f_X5_by p1 p2 41 f1).bind (u1 fun (r9 : Int32) => K8 (0, r9)))))))))))
theorem in_X5_ahead_X5 : ∀ w ∈ wsX50, w ∈ wsX5_ahead := by decide +kernel
theorem fl_X5_ahead_38 : Cond.fieldLink RX5 38 "ColophonHuntModel" "thrown" "I" ∈ wsX5_ahead := by decide +kernel
theorem fl_X5_ahead_7 : Cond.fieldLink RX5 7 "ColophonHuntModel" "now" "[I" ∈ wsX5_ahead := by decide +kernel
theorem hd_X5_ahead : yX5_ahead.cls = RX5 ∧ yX5_ahead.cls ≠ "java/lang/invoke/MethodHandle" ∧ yX5_ahead.cls ≠ "java/lang/invoke/VarHandle" ∧ (parseMethodDescriptor yX5_ahead.desc).map (fun d => d.parameters.length) = some 2 := by decide +kernel
set_option maxRecDepth 100000 in
set_option maxHeartbeats 4000000 in
theorem c_X5_ahead (l : Launch) (D : va_G) (cI cS cL : ClassId) (a0 : Nat) (a1 : Nat) (b0_1 : Nat) (b0_2 : Nat) (b0_4 : Nat) (b0_10 : Nat) (b0_12 : Nat) (b0_13 : Nat) (b0_14 : Nat) (p1 : Int32) (p2 : Int32) (x0_kept : Int32) (x0_typed : Int32) (x0_thrown : Int32) (x0_at : Int32) (x0_isFault : Int32) (x0_value : Int32) (x0_tolds : Int32) (f1 : Nat → Int32) (rr : Int32) (y0 : Int32) (hc : f_X5_ahead p1 p2 x0_thrown f1 = some (rr, y0)) : KM l yX5_ahead wsX5_ahead { frames := 2, cells := 0, slots := 0, locals := 46 } D (tyS cI cS cL) [.ref a0, .int p1, .int p2] [(a0, .inr (5, [.ref a1, .ref b0_1, .ref b0_2, .int x0_kept, .ref b0_4, .int x0_typed, .int x0_thrown, .int x0_at, .int x0_isFault, .int x0_value, .ref b0_10, .int x0_tolds, .ref b0_12, .ref b0_13, .ref b0_14])), (a1, .inl (cI, 41, .inl f1))] (some (.int rr)) (fun w => w = [(a0, .inr (5, [.ref a1, .ref b0_1, .ref b0_2, .int x0_kept, .ref b0_4, .int x0_typed, .int y0, .int x0_at, .int x0_isFault, .int x0_value, .ref b0_10, .int x0_tolds, .ref b0_12, .ref b0_13, .ref b0_14])), (a1, .inl (cI, 41, .inl f1))]) 0 0 := by
  refine g_entry (cc := cX5_ahead) (nL := 3) (rt := (some .int)) (by decide) rfl (Nat.le_of_ble_eq_true rfl) ?_
  intro p e s m args below meth c A (X : GC p s m args c cX5_ahead 3 RX5 wsX5_ahead D (tyS cI cS cL) A) hr hlk _ _
  have h := hc
  unfold f_X5_ahead at h
  refine g_lv (lv' := [(0, .ref a0), (1, .int p1), (2, .int p2)]) [0, 1, 2] rfl ?_
  refine g_aload_n X (j := 0) dX5_ahead_0 rfl ?_
  refine g_iconst (v := 0) X dX5_ahead_1 (by decide) ?_
  refine g_put (q0 := 0) (k := 6) (ci := 5) (ws' := [(a0, .inr (5, [.ref a1, .ref b0_1, .ref b0_2, .int x0_kept, .ref b0_4, .int x0_typed, .int 0, .int x0_at, .int x0_isFault, .int x0_value, .ref b0_10, .int x0_tolds, .ref b0_12, .ref b0_13, .ref b0_14])), (a1, .inl (cI, 41, .inl f1))]) X tyX5_ok nmX5 in_X5_ahead_X5 fl_X5_ahead_38 rfl rfl (Nat.le_of_ble_eq_true rfl) rfl rfl rfl (Nat.le_of_ble_eq_true rfl) dX5_ahead_2 rfl ?_
  refine g_aload_n X (j := 0) dX5_ahead_5 rfl ?_
  refine g_iload_n X (j := 1) dX5_ahead_6 rfl ?_
  obtain ⟨r1, hc, h⟩ := bd1 h
  refine g_callV (q0 := 0) (ci := 5) (is := [0, 1]) (As := [.int p1]) (ws' := [(a0, .inr (5, [.ref a1, .ref b0_1, .ref b0_2, .int x0_kept, .ref b0_4, .int x0_typed, .int 0, .int x0_at, .int x0_isFault, .int x0_value, .ref b0_10, .int x0_tolds, .ref b0_12, .ref b0_13, .ref b0_14])), (a1, .inl (cI, 41, .inl f1))]) (st := []) X (c_X5_isBook l D cI cS cL a0 a1 b0_1 b0_2 b0_4 b0_10 b0_12 b0_13 b0_14 p1 x0_kept x0_typed 0 x0_at x0_isFault x0_value x0_tolds f1 r1 hc) gX5_ahead_X5_isBook rfl ⟨rfl, rfl⟩ hd_X5_isBook ⟨Nat.le_of_ble_eq_true rfl, Nat.le_of_ble_eq_true rfl⟩ ⟨Nat.zero_le _, Nat.zero_le _⟩ rfl rfl rfl rfl rfl rfl rfl (Nat.le_of_ble_eq_true rfl) rfl dX5_ahead_7 ?_
  refine jn_g h (u0 ([(a0, .inr (5, [.ref a1, .ref b0_1, .ref b0_2, .int x0_kept, .ref b0_4, .int x0_typed, .int 0, .int x0_at, .int x0_isFault, .int x0_value, .ref b0_10, .int x0_tolds, .ref b0_12, .ref b0_13, .ref b0_14])), (a1, .inl (cI, 41, .inl f1))])) (u0 ([(0, .ref a0)])) (u0 ([])) 21 ?_ ?_
  · rintro ⟨⟩ h
    dsimp only [u0] at h ⊢
    refine g_aload_n X (j := 0) dX5_ahead_21 rfl ?_
    refine g_iconst (v := 1) X dX5_ahead_22 (by decide) ?_
    obtain ⟨r3, o4, hc, h⟩ := bd2 h
    refine g_callV (q0 := 0) (ci := 5) (is := [0]) (As := [.int 1]) (ws' := [(a0, .inr (5, [.ref a1, .ref b0_1, .ref b0_2, .int x0_kept, .ref b0_4, .int x0_typed, .int o4, .int x0_at, .int x0_isFault, .int x0_value, .ref b0_10, .int x0_tolds, .ref b0_12, .ref b0_13, .ref b0_14])), (a1, .inl (cI, 41, .inl f1))]) (st := []) X (c_X5_fails l D cI cS cL a0 a1 b0_1 b0_2 b0_4 b0_10 b0_12 b0_13 b0_14 1 x0_kept x0_typed 0 x0_at x0_isFault x0_value x0_tolds r3 o4 hc) gX5_ahead_X5_fails rfl ⟨rfl, rfl⟩ hd_X5_fails ⟨Nat.le_of_ble_eq_true rfl, Nat.le_of_ble_eq_true rfl⟩ ⟨Nat.zero_le _, Nat.zero_le _⟩ rfl rfl rfl rfl rfl rfl rfl (Nat.le_of_ble_eq_true rfl) rfl dX5_ahead_23 ?_
    have h := Option.some.inj h
    simp only [Prod.mk.injEq] at h
    obtain ⟨rfl, rfl⟩ := h
    exact g_iret X hr hlk dX5_ahead_26 rfl rfl
  · intro K2 hK2 h
    refine g_if_eq (tgt := 21) X h dX5_ahead_10 (by decide) (fun h => ?_) (fun h => ?_)
    · refine g_lv (lv' := [(0, .ref a0)]) [0] rfl ?_
      exact hK2 () h
    · refine g_aload_n X (j := 0) dX5_ahead_13 rfl ?_
      refine g_iload_n X (j := 2) dX5_ahead_14 rfl ?_
      obtain ⟨r5, hc, h⟩ := bd1 h
      refine g_callV (q0 := 0) (ci := 5) (is := [0, 1]) (As := [.int p2]) (ws' := [(a0, .inr (5, [.ref a1, .ref b0_1, .ref b0_2, .int x0_kept, .ref b0_4, .int x0_typed, .int 0, .int x0_at, .int x0_isFault, .int x0_value, .ref b0_10, .int x0_tolds, .ref b0_12, .ref b0_13, .ref b0_14])), (a1, .inl (cI, 41, .inl f1))]) (st := []) X (c_X5_isBook l D cI cS cL a0 a1 b0_1 b0_2 b0_4 b0_10 b0_12 b0_13 b0_14 p2 x0_kept x0_typed 0 x0_at x0_isFault x0_value x0_tolds f1 r5 hc) gX5_ahead_X5_isBook rfl ⟨rfl, rfl⟩ hd_X5_isBook ⟨Nat.le_of_ble_eq_true rfl, Nat.le_of_ble_eq_true rfl⟩ ⟨Nat.zero_le _, Nat.zero_le _⟩ rfl rfl rfl rfl rfl rfl rfl (Nat.le_of_ble_eq_true rfl) rfl dX5_ahead_15 ?_
      refine g_if_ne (tgt := 27) X h dX5_ahead_18 (by decide) (fun h => ?_) (fun h => ?_)
      · refine g_iload_n X (j := 1) dX5_ahead_27 rfl ?_
        refine g_iload_n X (j := 2) dX5_ahead_28 rfl ?_
        refine jn_g h (u2 fun w6 s7 => [(a0, .inr (5, [.ref a1, .ref b0_1, .ref b0_2, .int x0_kept, .ref b0_4, .int x0_typed, .int w6, .int x0_at, .int x0_isFault, .int x0_value, .ref b0_10, .int x0_tolds, .ref b0_12, .ref b0_13, .ref b0_14])), (a1, .inl (cI, 41, .inl f1))]) (u2 fun w6 s7 => []) (u2 fun w6 s7 => [.int s7]) 49 ?_ ?_
        · rintro ⟨w6, s7⟩ h
          dsimp only [u2] at h ⊢
          have h := Option.some.inj h
          simp only [Prod.mk.injEq] at h
          obtain ⟨rfl, rfl⟩ := h
          exact g_iret X hr hlk dX5_ahead_49 rfl rfl
        · intro K8 hK8 h
          refine g_icmp_ne (tgt := 40) X h dX5_ahead_29 (by decide) (fun h => ?_) (fun h => ?_)
          · refine g_aload_n X (j := 0) dX5_ahead_40 rfl ?_
            refine g_get (q0 := 0) (k := 0) (ci := 5) X in_X5_ahead_X5 fl_X5_ahead_7 rfl rfl (Nat.le_of_ble_eq_true rfl) rfl dX5_ahead_41 ?_
            refine g_iload_n X (j := 1) dX5_ahead_44 rfl ?_
            refine g_iload_n X (j := 2) dX5_ahead_45 rfl ?_
            obtain ⟨r9, hc, h⟩ := bd1 h
            refine g_callS (is := [1]) (As := [.ref a1, .int p1, .int p2]) (ws' := [(a0, .inr (5, [.ref a1, .ref b0_1, .ref b0_2, .int x0_kept, .ref b0_4, .int x0_typed, .int 0, .int x0_at, .int x0_isFault, .int x0_value, .ref b0_10, .int x0_tolds, .ref b0_12, .ref b0_13, .ref b0_14])), (a1, .inl (cI, 41, .inl f1))]) (st := []) X (c_X5_by l D cI cS cL a1 p1 p2 41 f1 r9 hc) gX5_ahead_X5_by rfl ⟨rfl, rfl⟩ hd_X5_by.2 ⟨Nat.le_of_ble_eq_true rfl, Nat.le_of_ble_eq_true rfl⟩ ⟨Nat.zero_le _, Nat.zero_le _⟩ rfl rfl rfl rfl rfl (Nat.le_of_ble_eq_true rfl) rfl dX5_ahead_46 ?_
            refine g_lv (lv' := []) [] rfl ?_
            exact hK8 (0, r9) h
          · refine g_aload_n X (j := 0) dX5_ahead_32 rfl ?_
            refine g_iconst (v := 2) X dX5_ahead_33 (by decide) ?_
            obtain ⟨r10, o11, hc, h⟩ := bd2 h
            refine g_callV (q0 := 0) (ci := 5) (is := [0]) (As := [.int 2]) (ws' := [(a0, .inr (5, [.ref a1, .ref b0_1, .ref b0_2, .int x0_kept, .ref b0_4, .int x0_typed, .int o11, .int x0_at, .int x0_isFault, .int x0_value, .ref b0_10, .int x0_tolds, .ref b0_12, .ref b0_13, .ref b0_14])), (a1, .inl (cI, 41, .inl f1))]) (st := []) X (c_X5_fails l D cI cS cL a0 a1 b0_1 b0_2 b0_4 b0_10 b0_12 b0_13 b0_14 2 x0_kept x0_typed 0 x0_at x0_isFault x0_value x0_tolds r10 o11 hc) gX5_ahead_X5_fails rfl ⟨rfl, rfl⟩ hd_X5_fails ⟨Nat.le_of_ble_eq_true rfl, Nat.le_of_ble_eq_true rfl⟩ ⟨Nat.zero_le _, Nat.zero_le _⟩ rfl rfl rfl rfl rfl rfl rfl (Nat.le_of_ble_eq_true rfl) rfl dX5_ahead_34 ?_
            refine g_goto (tgt := 49) X dX5_ahead_37 (by decide) ?_
            refine g_lv (lv' := []) [] rfl ?_
            exact hK8 (o11, r10) h
      · refine g_lv (lv' := [(0, .ref a0)]) [0] rfl ?_
        exact hK2 () h
def f_X5_having (p1 : Int32) (f1 : Nat → Int32) : Option (Int32) := (wl (u2 fun (l2_1 : Int32) (l3_2 : Int32) => (rdA f1 41 40).bind (fun v4 => (if v4 ≤ l3_2 then some (Sum.inr l2_1) else (jn (u1 fun (s5 : Int32) => some (Sum.inl ((l2_1 + s5), (l3_2 + 1)))) (fun K6 => jn (u0 (K6 0)) (fun K7 => jn (u0 (K6 1)) (fun K8 => (if p1 = 2 then (f_X5_of l3_2 3 41 f1).bind (u1 fun (r10 : Int32) => (if r10 = (-1) then K7 () else K8 ())) else (f_X5_of l3_2 0 41 f1).bind (u1 fun (r9 : Int32) => (if r9 = (p1 - 7) then K8 () else K7 ())))))))))) 9999 (0, 0)).bind (u1 fun (l2_3 : Int32) => some l2_3)
theorem in_X5_having_X5 : ∀ w ∈ wsX50, w ∈ wsX5_having := by decide +kernel
theorem fl_X5_having_7 : Cond.fieldLink RX5 7 "ColophonHuntModel" "now" "[I" ∈ wsX5_having := by decide +kernel
theorem hd_X5_having : yX5_having.cls = RX5 ∧ yX5_having.cls ≠ "java/lang/invoke/MethodHandle" ∧ yX5_having.cls ≠ "java/lang/invoke/VarHandle" ∧ (parseMethodDescriptor yX5_having.desc).map (fun d => d.parameters.length) = some 1 := by decide +kernel
set_option maxRecDepth 100000 in
set_option maxHeartbeats 4000000 in
theorem c_X5_having (l : Launch) (D : va_G) (cI cS cL : ClassId) (a0 : Nat) (a1 : Nat) (b0_1 : Nat) (b0_2 : Nat) (b0_4 : Nat) (b0_10 : Nat) (b0_12 : Nat) (b0_13 : Nat) (b0_14 : Nat) (p1 : Int32) (x0_kept : Int32) (x0_typed : Int32) (x0_thrown : Int32) (x0_at : Int32) (x0_isFault : Int32) (x0_value : Int32) (x0_tolds : Int32) (f1 : Nat → Int32) (rr : Int32) (hc : f_X5_having p1 f1 = some rr) : KM l yX5_having wsX5_having { frames := 1, cells := 0, slots := 0, locals := 22 } D (tyS cI cS cL) [.ref a0, .int p1] [(a0, .inr (5, [.ref a1, .ref b0_1, .ref b0_2, .int x0_kept, .ref b0_4, .int x0_typed, .int x0_thrown, .int x0_at, .int x0_isFault, .int x0_value, .ref b0_10, .int x0_tolds, .ref b0_12, .ref b0_13, .ref b0_14])), (a1, .inl (cI, 41, .inl f1))] (some (.int rr)) (fun w => w = [(a0, .inr (5, [.ref a1, .ref b0_1, .ref b0_2, .int x0_kept, .ref b0_4, .int x0_typed, .int x0_thrown, .int x0_at, .int x0_isFault, .int x0_value, .ref b0_10, .int x0_tolds, .ref b0_12, .ref b0_13, .ref b0_14])), (a1, .inl (cI, 41, .inl f1))]) 0 0 := by
  refine g_entry (cc := cX5_having) (nL := 4) (rt := (some .int)) (by decide) rfl (Nat.le_of_ble_eq_true rfl) ?_
  intro p e s m args below meth c A (X : GC p s m args c cX5_having 4 RX5 wsX5_having D (tyS cI cS cL) A) hr hlk _ _
  have h := hc
  unfold f_X5_having at h
  refine g_lv (lv' := [(0, .ref a0), (1, .int p1)]) [0, 1] rfl ?_
  refine g_iconst (v := 0) X dX5_having_0 (by decide) ?_
  refine g_istore_n (lv' := [(2, .int 0), (0, .ref a0), (1, .int p1)]) X dX5_having_1 rfl (by decide) rfl ?_
  refine g_iconst (v := 0) X dX5_having_2 (by decide) ?_
  refine g_istore_n (lv' := [(3, .int 0), (2, .int 0), (0, .ref a0), (1, .int p1)]) X dX5_having_3 rfl (by decide) rfl ?_
  refine g_lv (lv' := [(0, .ref a0), (1, .int p1), (2, .int 0), (3, .int 0)]) [2, 3, 1, 0] rfl ?_
  refine wl_g1 h (u2 fun l2_1 l3_2 => [(a0, .inr (5, [.ref a1, .ref b0_1, .ref b0_2, .int x0_kept, .ref b0_4, .int x0_typed, .int x0_thrown, .int x0_at, .int x0_isFault, .int x0_value, .ref b0_10, .int x0_tolds, .ref b0_12, .ref b0_13, .ref b0_14])), (a1, .inl (cI, 41, .inl f1))]) (u2 fun l2_1 l3_2 => [(0, .ref a0), (1, .int p1), (2, .int l2_1), (3, .int l3_2)]) rfl rfl (u1 fun l2_3 => [(a0, .inr (5, [.ref a1, .ref b0_1, .ref b0_2, .int x0_kept, .ref b0_4, .int x0_typed, .int x0_thrown, .int x0_at, .int x0_isFault, .int x0_value, .ref b0_10, .int x0_tolds, .ref b0_12, .ref b0_13, .ref b0_14])), (a1, .inl (cI, 41, .inl f1))]) (u1 fun l2_3 => [(2, .int l2_3)]) 66 ?_ ?_
  · rintro l2_3 h
    dsimp only [u1] at h ⊢
    refine g_iload_n X (j := 0) dX5_having_66 rfl ?_
    have h := Option.some.inj h
    subst h
    exact g_iret X hr hlk dX5_having_67 rfl rfl
  · rintro ⟨l2_1, l3_2⟩ o h hI hE
    dsimp only [u2] at h ⊢
    refine g_iload_n X (j := 3) dX5_having_4 rfl ?_
    refine g_aload_n X (j := 0) dX5_having_5 rfl ?_
    refine g_get (q0 := 0) (k := 0) (ci := 5) X in_X5_having_X5 fl_X5_having_7 rfl rfl (Nat.le_of_ble_eq_true rfl) rfl dX5_having_6 ?_
    refine g_bipush (v := 40) X dX5_having_9 (by decide) ?_
    refine g_iald (q0 := 1) (t0 := 0) X h rfl rfl dX5_having_11 (fun v4 h => ?_)
    refine g_icmp_ge (tgt := 66) X h dX5_having_12 (by decide) (fun h => ?_) (fun h => ?_)
    · refine g_lv (lv' := [(2, .int l2_1)]) [2] rfl ?_
      exact hE l2_1 (Option.some.inj h).symm
    · refine g_iload_n X (j := 2) dX5_having_15 rfl ?_
      refine g_iload_n X (j := 1) dX5_having_16 rfl ?_
      refine g_iconst (v := 2) X dX5_having_17 (by decide) ?_
      refine jn_g h (u1 fun s5 => [(a0, .inr (5, [.ref a1, .ref b0_1, .ref b0_2, .int x0_kept, .ref b0_4, .int x0_typed, .int x0_thrown, .int x0_at, .int x0_isFault, .int x0_value, .ref b0_10, .int x0_tolds, .ref b0_12, .ref b0_13, .ref b0_14])), (a1, .inl (cI, 41, .inl f1))]) (u1 fun s5 => [(0, .ref a0), (1, .int p1), (3, .int l3_2)]) (u1 fun s5 => [.int s5, .int l2_1]) 58 ?_ ?_
      · rintro s5 h
        dsimp only [u1] at h ⊢
        refine g_iadd X dX5_having_58 ?_
        refine g_istore_n (lv' := [(2, .int (l2_1 + s5)), (0, .ref a0), (1, .int p1), (3, .int l3_2)]) X dX5_having_59 rfl (by decide) rfl ?_
        refine g_iinc (j := 3) (lv' := [(3, .int (l3_2 + 1)), (2, .int (l2_1 + s5)), (0, .ref a0), (1, .int p1)]) X (l3_2 + 1) dX5_having_60 rfl rfl (by decide) rfl ?_
        refine g_goto (tgt := 4) X dX5_having_63 (by decide) ?_
        refine g_lv (lv' := [(0, .ref a0), (1, .int p1), (2, .int (l2_1 + s5)), (3, .int (l3_2 + 1))]) [2, 3, 1, 0] rfl ?_
        exact hI ((l2_1 + s5), (l3_2 + 1)) (Option.some.inj h).symm
      · intro K6 hK6 h
        refine jn_g h (u0 ([(a0, .inr (5, [.ref a1, .ref b0_1, .ref b0_2, .int x0_kept, .ref b0_4, .int x0_typed, .int x0_thrown, .int x0_at, .int x0_isFault, .int x0_value, .ref b0_10, .int x0_tolds, .ref b0_12, .ref b0_13, .ref b0_14])), (a1, .inl (cI, 41, .inl f1))])) (u0 ([(0, .ref a0), (1, .int p1), (3, .int l3_2)])) (u0 ([.int l2_1])) 57 ?_ ?_
        · rintro ⟨⟩ h
          dsimp only [u0] at h ⊢
          refine g_iconst (v := 0) X dX5_having_57 (by decide) ?_
          exact hK6 0 h
        · intro K7 hK7 h
          refine jn_g h (u0 ([(a0, .inr (5, [.ref a1, .ref b0_1, .ref b0_2, .int x0_kept, .ref b0_4, .int x0_typed, .int x0_thrown, .int x0_at, .int x0_isFault, .int x0_value, .ref b0_10, .int x0_tolds, .ref b0_12, .ref b0_13, .ref b0_14])), (a1, .inl (cI, 41, .inl f1))])) (u0 ([(0, .ref a0), (1, .int p1), (3, .int l3_2)])) (u0 ([.int l2_1])) 53 ?_ ?_
          · rintro ⟨⟩ h
            dsimp only [u0] at h ⊢
            refine g_iconst (v := 1) X dX5_having_53 (by decide) ?_
            refine g_goto (tgt := 58) X dX5_having_54 (by decide) ?_
            exact hK6 1 h
          · intro K8 hK8 h
            refine g_icmp_ne (tgt := 37) X h dX5_having_18 (by decide) (fun h => ?_) (fun h => ?_)
            · refine g_aload_n X (j := 0) dX5_having_37 rfl ?_
              refine g_get (q0 := 0) (k := 0) (ci := 5) X in_X5_having_X5 fl_X5_having_7 rfl rfl (Nat.le_of_ble_eq_true rfl) rfl dX5_having_38 ?_
              refine g_iload_n X (j := 3) dX5_having_41 rfl ?_
              refine g_iconst (v := 0) X dX5_having_42 (by decide) ?_
              obtain ⟨r9, hc, h⟩ := bd1 h
              refine g_callS (is := [1]) (As := [.ref a1, .int l3_2, .int 0]) (ws' := [(a0, .inr (5, [.ref a1, .ref b0_1, .ref b0_2, .int x0_kept, .ref b0_4, .int x0_typed, .int x0_thrown, .int x0_at, .int x0_isFault, .int x0_value, .ref b0_10, .int x0_tolds, .ref b0_12, .ref b0_13, .ref b0_14])), (a1, .inl (cI, 41, .inl f1))]) (st := [.int l2_1]) X (c_X5_of l D cI cS cL a1 l3_2 0 41 f1 r9 hc) gX5_having_X5_of rfl ⟨rfl, rfl⟩ hd_X5_of.2 ⟨Nat.le_of_ble_eq_true rfl, Nat.le_of_ble_eq_true rfl⟩ ⟨Nat.zero_le _, Nat.zero_le _⟩ rfl rfl rfl rfl rfl (Nat.le_of_ble_eq_true rfl) rfl dX5_having_43 ?_
              refine g_iload_n X (j := 1) dX5_having_46 rfl ?_
              refine g_bipush (v := 7) X dX5_having_47 (by decide) ?_
              refine g_isub X dX5_having_49 ?_
              refine g_icmp_ne (tgt := 57) X h dX5_having_50 (by decide) (fun h => ?_) (fun h => ?_)
              · refine g_lv (lv' := [(0, .ref a0), (1, .int p1), (3, .int l3_2)]) [0, 1, 3] rfl ?_
                exact hK7 () h
              · refine g_lv (lv' := [(0, .ref a0), (1, .int p1), (3, .int l3_2)]) [0, 1, 3] rfl ?_
                exact hK8 () h
            · refine g_aload_n X (j := 0) dX5_having_21 rfl ?_
              refine g_get (q0 := 0) (k := 0) (ci := 5) X in_X5_having_X5 fl_X5_having_7 rfl rfl (Nat.le_of_ble_eq_true rfl) rfl dX5_having_22 ?_
              refine g_iload_n X (j := 3) dX5_having_25 rfl ?_
              refine g_iconst (v := 3) X dX5_having_26 (by decide) ?_
              obtain ⟨r10, hc, h⟩ := bd1 h
              refine g_callS (is := [1]) (As := [.ref a1, .int l3_2, .int 3]) (ws' := [(a0, .inr (5, [.ref a1, .ref b0_1, .ref b0_2, .int x0_kept, .ref b0_4, .int x0_typed, .int x0_thrown, .int x0_at, .int x0_isFault, .int x0_value, .ref b0_10, .int x0_tolds, .ref b0_12, .ref b0_13, .ref b0_14])), (a1, .inl (cI, 41, .inl f1))]) (st := [.int l2_1]) X (c_X5_of l D cI cS cL a1 l3_2 3 41 f1 r10 hc) gX5_having_X5_of rfl ⟨rfl, rfl⟩ hd_X5_of.2 ⟨Nat.le_of_ble_eq_true rfl, Nat.le_of_ble_eq_true rfl⟩ ⟨Nat.zero_le _, Nat.zero_le _⟩ rfl rfl rfl rfl rfl (Nat.le_of_ble_eq_true rfl) rfl dX5_having_27 ?_
              refine g_iconst (v := (-1)) X dX5_having_30 (by decide) ?_
              refine g_icmp_eq (tgt := 57) X h dX5_having_31 (by decide) (fun h => ?_) (fun h => ?_)
              · refine g_lv (lv' := [(0, .ref a0), (1, .int p1), (3, .int l3_2)]) [0, 1, 3] rfl ?_
                exact hK7 () h
              · refine g_goto (tgt := 53) X dX5_having_34 (by decide) ?_
                refine g_lv (lv' := [(0, .ref a0), (1, .int p1), (3, .int l3_2)]) [0, 1, 3] rfl ?_
                exact hK8 () h
def f_X5_pairs (p1 : Int32) (f1 : Nat → Int32) : Option (Int32) := (wl (u2 fun (l2_1 : Int32) (l3_2 : Int32) => (rdA f1 41 40).bind (fun v4 => (if v4 ≤ l3_2 then some (Sum.inr l2_1) else (wl (u2 fun (l2_5 : Int32) (l4_6 : Int32) => (if l3_2 ≤ l4_6 then some (Sum.inr l2_5) else (f_X5_by l4_6 l3_2 41 f1).bind (u1 fun (r8 : Int32) => (jn (u1 fun (s9 : Int32) => (f_X5_by l3_2 l4_6 41 f1).bind (u1 fun (r11 : Int32) => (jn (u1 fun (s12 : Int32) => (jn (u1 fun (s14 : Int32) => some (Sum.inl ((l2_5 + s14), (l4_6 + 1)))) (fun K15 => (if p1 = 0 then (if s9 = s12 then K15 0 else K15 1) else (jn (u0 (K15 0)) (fun K16 => (if s9 = 0 then K16 () else (if s12 = 0 then K16 () else K15 1)))))))) (fun K13 => (if r11 = 0 then K13 0 else K13 1))))) (fun K10 => (if r8 = 0 then K10 0 else K10 1)))))) 9999 (l2_1, 0)).bind (u1 fun (l2_7 : Int32) => some (Sum.inl (l2_7, (l3_2 + 1))))))) 9999 (0, 0)).bind (u1 fun (l2_3 : Int32) => some l2_3)
theorem in_X5_pairs_X5 : ∀ w ∈ wsX50, w ∈ wsX5_pairs := by decide +kernel
theorem fl_X5_pairs_7 : Cond.fieldLink RX5 7 "ColophonHuntModel" "now" "[I" ∈ wsX5_pairs := by decide +kernel
theorem hd_X5_pairs : yX5_pairs.cls = RX5 ∧ yX5_pairs.cls ≠ "java/lang/invoke/MethodHandle" ∧ yX5_pairs.cls ≠ "java/lang/invoke/VarHandle" ∧ (parseMethodDescriptor yX5_pairs.desc).map (fun d => d.parameters.length) = some 1 := by decide +kernel
set_option maxRecDepth 100000 in
set_option maxHeartbeats 4000000 in
theorem c_X5_pairs (l : Launch) (D : va_G) (cI cS cL : ClassId) (a0 : Nat) (a1 : Nat) (b0_1 : Nat) (b0_2 : Nat) (b0_4 : Nat) (b0_10 : Nat) (b0_12 : Nat) (b0_13 : Nat) (b0_14 : Nat) (p1 : Int32) (x0_kept : Int32) (x0_typed : Int32) (x0_thrown : Int32) (x0_at : Int32) (x0_isFault : Int32) (x0_value : Int32) (x0_tolds : Int32) (f1 : Nat → Int32) (rr : Int32) (hc : f_X5_pairs p1 f1 = some rr) : KM l yX5_pairs wsX5_pairs { frames := 2, cells := 0, slots := 0, locals := 46 } D (tyS cI cS cL) [.ref a0, .int p1] [(a0, .inr (5, [.ref a1, .ref b0_1, .ref b0_2, .int x0_kept, .ref b0_4, .int x0_typed, .int x0_thrown, .int x0_at, .int x0_isFault, .int x0_value, .ref b0_10, .int x0_tolds, .ref b0_12, .ref b0_13, .ref b0_14])), (a1, .inl (cI, 41, .inl f1))] (some (.int rr)) (fun w => w = [(a0, .inr (5, [.ref a1, .ref b0_1, .ref b0_2, .int x0_kept, .ref b0_4, .int x0_typed, .int x0_thrown, .int x0_at, .int x0_isFault, .int x0_value, .ref b0_10, .int x0_tolds, .ref b0_12, .ref b0_13, .ref b0_14])), (a1, .inl (cI, 41, .inl f1))]) 0 0 := by
  refine g_entry (cc := cX5_pairs) (nL := 7) (rt := (some .int)) (by decide) rfl (Nat.le_of_ble_eq_true rfl) ?_
  intro p e s m args below meth c A (X : GC p s m args c cX5_pairs 7 RX5 wsX5_pairs D (tyS cI cS cL) A) hr hlk _ _
  have h := hc
  unfold f_X5_pairs at h
  refine g_lv (lv' := [(0, .ref a0), (1, .int p1)]) [0, 1] rfl ?_
  refine g_iconst (v := 0) X dX5_pairs_0 (by decide) ?_
  refine g_istore_n (lv' := [(2, .int 0), (0, .ref a0), (1, .int p1)]) X dX5_pairs_1 rfl (by decide) rfl ?_
  refine g_iconst (v := 0) X dX5_pairs_2 (by decide) ?_
  refine g_istore_n (lv' := [(3, .int 0), (2, .int 0), (0, .ref a0), (1, .int p1)]) X dX5_pairs_3 rfl (by decide) rfl ?_
  refine g_lv (lv' := [(0, .ref a0), (1, .int p1), (2, .int 0), (3, .int 0)]) [2, 3, 1, 0] rfl ?_
  refine wl_g1 h (u2 fun l2_1 l3_2 => [(a0, .inr (5, [.ref a1, .ref b0_1, .ref b0_2, .int x0_kept, .ref b0_4, .int x0_typed, .int x0_thrown, .int x0_at, .int x0_isFault, .int x0_value, .ref b0_10, .int x0_tolds, .ref b0_12, .ref b0_13, .ref b0_14])), (a1, .inl (cI, 41, .inl f1))]) (u2 fun l2_1 l3_2 => [(0, .ref a0), (1, .int p1), (2, .int l2_1), (3, .int l3_2)]) rfl rfl (u1 fun l2_3 => [(a0, .inr (5, [.ref a1, .ref b0_1, .ref b0_2, .int x0_kept, .ref b0_4, .int x0_typed, .int x0_thrown, .int x0_at, .int x0_isFault, .int x0_value, .ref b0_10, .int x0_tolds, .ref b0_12, .ref b0_13, .ref b0_14])), (a1, .inl (cI, 41, .inl f1))]) (u1 fun l2_3 => [(2, .int l2_3)]) 113 ?_ ?_
  · rintro l2_3 h
    dsimp only [u1] at h ⊢
    refine g_iload_n X (j := 0) dX5_pairs_113 rfl ?_
    have h := Option.some.inj h
    subst h
    exact g_iret X hr hlk dX5_pairs_114 rfl rfl
  · rintro ⟨l2_1, l3_2⟩ o h hI hE
    dsimp only [u2] at h ⊢
    refine g_iload_n X (j := 3) dX5_pairs_4 rfl ?_
    refine g_aload_n X (j := 0) dX5_pairs_5 rfl ?_
    refine g_get (q0 := 0) (k := 0) (ci := 5) X in_X5_pairs_X5 fl_X5_pairs_7 rfl rfl (Nat.le_of_ble_eq_true rfl) rfl dX5_pairs_6 ?_
    refine g_bipush (v := 40) X dX5_pairs_9 (by decide) ?_
    refine g_iald (q0 := 1) (t0 := 0) X h rfl rfl dX5_pairs_11 (fun v4 h => ?_)
    refine g_icmp_ge (tgt := 113) X h dX5_pairs_12 (by decide) (fun h => ?_) (fun h => ?_)
    · refine g_lv (lv' := [(2, .int l2_1)]) [2] rfl ?_
      exact hE l2_1 (Option.some.inj h).symm
    · refine g_iconst (v := 0) X dX5_pairs_15 (by decide) ?_
      refine g_istore (lv' := [(4, .int 0), (0, .ref a0), (1, .int p1), (2, .int l2_1), (3, .int l3_2)]) X dX5_pairs_16 (by decide) rfl ?_
      refine g_lv (lv' := [(0, .ref a0), (1, .int p1), (2, .int l2_1), (3, .int l3_2), (4, .int 0)]) [1, 2, 3, 4, 0] rfl ?_
      refine wl_g1 h (u2 fun l2_5 l4_6 => [(a0, .inr (5, [.ref a1, .ref b0_1, .ref b0_2, .int x0_kept, .ref b0_4, .int x0_typed, .int x0_thrown, .int x0_at, .int x0_isFault, .int x0_value, .ref b0_10, .int x0_tolds, .ref b0_12, .ref b0_13, .ref b0_14])), (a1, .inl (cI, 41, .inl f1))]) (u2 fun l2_5 l4_6 => [(0, .ref a0), (1, .int p1), (2, .int l2_5), (3, .int l3_2), (4, .int l4_6)]) rfl rfl (u1 fun l2_7 => [(a0, .inr (5, [.ref a1, .ref b0_1, .ref b0_2, .int x0_kept, .ref b0_4, .int x0_typed, .int x0_thrown, .int x0_at, .int x0_isFault, .int x0_value, .ref b0_10, .int x0_tolds, .ref b0_12, .ref b0_13, .ref b0_14])), (a1, .inl (cI, 41, .inl f1))]) (u1 fun l2_7 => [(0, .ref a0), (1, .int p1), (2, .int l2_7), (3, .int l3_2)]) 107 ?_ ?_
      · rintro l2_7 h
        dsimp only [u1] at h ⊢
        refine g_iinc (j := 3) (lv' := [(3, .int (l3_2 + 1)), (0, .ref a0), (1, .int p1), (2, .int l2_7)]) X (l3_2 + 1) dX5_pairs_107 rfl rfl (by decide) rfl ?_
        refine g_goto (tgt := 4) X dX5_pairs_110 (by decide) ?_
        refine g_lv (lv' := [(0, .ref a0), (1, .int p1), (2, .int l2_7), (3, .int (l3_2 + 1))]) [1, 2, 3, 0] rfl ?_
        exact hI (l2_7, (l3_2 + 1)) (Option.some.inj h).symm
      · rintro ⟨l2_5, l4_6⟩ o h hI hE
        dsimp only [u2] at h ⊢
        refine g_iload X (j := 4) dX5_pairs_18 rfl ?_
        refine g_iload_n X (j := 3) dX5_pairs_20 rfl ?_
        refine g_icmp_ge (tgt := 107) X h dX5_pairs_21 (by decide) (fun h => ?_) (fun h => ?_)
        · refine g_lv (lv' := [(0, .ref a0), (1, .int p1), (2, .int l2_5), (3, .int l3_2)]) [0, 1, 2, 3] rfl ?_
          exact hE l2_5 (Option.some.inj h).symm
        · refine g_aload_n X (j := 0) dX5_pairs_24 rfl ?_
          refine g_get (q0 := 0) (k := 0) (ci := 5) X in_X5_pairs_X5 fl_X5_pairs_7 rfl rfl (Nat.le_of_ble_eq_true rfl) rfl dX5_pairs_25 ?_
          refine g_iload X (j := 4) dX5_pairs_28 rfl ?_
          refine g_iload_n X (j := 3) dX5_pairs_30 rfl ?_
          obtain ⟨r8, hc, h⟩ := bd1 h
          refine g_callS (is := [1]) (As := [.ref a1, .int l4_6, .int l3_2]) (ws' := [(a0, .inr (5, [.ref a1, .ref b0_1, .ref b0_2, .int x0_kept, .ref b0_4, .int x0_typed, .int x0_thrown, .int x0_at, .int x0_isFault, .int x0_value, .ref b0_10, .int x0_tolds, .ref b0_12, .ref b0_13, .ref b0_14])), (a1, .inl (cI, 41, .inl f1))]) (st := []) X (c_X5_by l D cI cS cL a1 l4_6 l3_2 41 f1 r8 hc) gX5_pairs_X5_by rfl ⟨rfl, rfl⟩ hd_X5_by.2 ⟨Nat.le_of_ble_eq_true rfl, Nat.le_of_ble_eq_true rfl⟩ ⟨Nat.zero_le _, Nat.zero_le _⟩ rfl rfl rfl rfl rfl (Nat.le_of_ble_eq_true rfl) rfl dX5_pairs_31 ?_
          refine jn_g h (u1 fun s9 => [(a0, .inr (5, [.ref a1, .ref b0_1, .ref b0_2, .int x0_kept, .ref b0_4, .int x0_typed, .int x0_thrown, .int x0_at, .int x0_isFault, .int x0_value, .ref b0_10, .int x0_tolds, .ref b0_12, .ref b0_13, .ref b0_14])), (a1, .inl (cI, 41, .inl f1))]) (u1 fun s9 => [(0, .ref a0), (1, .int p1), (2, .int l2_5), (3, .int l3_2), (4, .int l4_6)]) (u1 fun s9 => [.int s9]) 42 ?_ ?_
          · rintro s9 h
            dsimp only [u1] at h ⊢
            refine g_istore (lv' := [(5, .int s9), (0, .ref a0), (1, .int p1), (2, .int l2_5), (3, .int l3_2), (4, .int l4_6)]) X dX5_pairs_42 (by decide) rfl ?_
            refine g_aload_n X (j := 1) dX5_pairs_44 rfl ?_
            refine g_get (q0 := 0) (k := 0) (ci := 5) X in_X5_pairs_X5 fl_X5_pairs_7 rfl rfl (Nat.le_of_ble_eq_true rfl) rfl dX5_pairs_45 ?_
            refine g_iload_n X (j := 4) dX5_pairs_48 rfl ?_
            refine g_iload X (j := 5) dX5_pairs_49 rfl ?_
            obtain ⟨r11, hc, h⟩ := bd1 h
            refine g_callS (is := [1]) (As := [.ref a1, .int l3_2, .int l4_6]) (ws' := [(a0, .inr (5, [.ref a1, .ref b0_1, .ref b0_2, .int x0_kept, .ref b0_4, .int x0_typed, .int x0_thrown, .int x0_at, .int x0_isFault, .int x0_value, .ref b0_10, .int x0_tolds, .ref b0_12, .ref b0_13, .ref b0_14])), (a1, .inl (cI, 41, .inl f1))]) (st := []) X (c_X5_by l D cI cS cL a1 l3_2 l4_6 41 f1 r11 hc) gX5_pairs_X5_by rfl ⟨rfl, rfl⟩ hd_X5_by.2 ⟨Nat.le_of_ble_eq_true rfl, Nat.le_of_ble_eq_true rfl⟩ ⟨Nat.zero_le _, Nat.zero_le _⟩ rfl rfl rfl rfl rfl (Nat.le_of_ble_eq_true rfl) rfl dX5_pairs_51 ?_
            refine jn_g h (u1 fun s12 => [(a0, .inr (5, [.ref a1, .ref b0_1, .ref b0_2, .int x0_kept, .ref b0_4, .int x0_typed, .int x0_thrown, .int x0_at, .int x0_isFault, .int x0_value, .ref b0_10, .int x0_tolds, .ref b0_12, .ref b0_13, .ref b0_14])), (a1, .inl (cI, 41, .inl f1))]) (u1 fun s12 => [(0, .ref a0), (1, .int p1), (2, .int l2_5), (3, .int l3_2), (4, .int l4_6), (5, .int s9)]) (u1 fun s12 => [.int s12]) 62 ?_ ?_
            · rintro s12 h
              dsimp only [u1] at h ⊢
              refine g_istore (lv' := [(6, .int s12), (0, .ref a0), (1, .int p1), (2, .int l2_5), (3, .int l3_2), (4, .int l4_6), (5, .int s9)]) X dX5_pairs_62 (by decide) rfl ?_
              refine g_iload_n X (j := 3) dX5_pairs_64 rfl ?_
              refine g_iload_n X (j := 2) dX5_pairs_65 rfl ?_
              refine jn_g h (u1 fun s14 => [(a0, .inr (5, [.ref a1, .ref b0_1, .ref b0_2, .int x0_kept, .ref b0_4, .int x0_typed, .int x0_thrown, .int x0_at, .int x0_isFault, .int x0_value, .ref b0_10, .int x0_tolds, .ref b0_12, .ref b0_13, .ref b0_14])), (a1, .inl (cI, 41, .inl f1))]) (u1 fun s14 => [(0, .ref a0), (1, .int p1), (3, .int l3_2), (4, .int l4_6)]) (u1 fun s14 => [.int s14, .int l2_5]) 99 ?_ ?_
              · rintro s14 h
                dsimp only [u1] at h ⊢
                refine g_iadd X dX5_pairs_99 ?_
                refine g_istore_n (lv' := [(2, .int (l2_5 + s14)), (0, .ref a0), (1, .int p1), (3, .int l3_2), (4, .int l4_6)]) X dX5_pairs_100 rfl (by decide) rfl ?_
                refine g_iinc (j := 4) (lv' := [(4, .int (l4_6 + 1)), (2, .int (l2_5 + s14)), (0, .ref a0), (1, .int p1), (3, .int l3_2)]) X (l4_6 + 1) dX5_pairs_101 rfl rfl (by decide) rfl ?_
                refine g_goto (tgt := 18) X dX5_pairs_104 (by decide) ?_
                refine g_lv (lv' := [(0, .ref a0), (1, .int p1), (2, .int (l2_5 + s14)), (3, .int l3_2), (4, .int (l4_6 + 1))]) [2, 3, 1, 4, 0] rfl ?_
                exact hI ((l2_5 + s14), (l4_6 + 1)) (Option.some.inj h).symm
              · intro K15 hK15 h
                refine g_if_eq (tgt := 87) X h dX5_pairs_66 (by decide) (fun h => ?_) (fun h => ?_)
                · refine g_iload X (j := 6) dX5_pairs_87 rfl ?_
                  refine g_iload X (j := 0) dX5_pairs_89 rfl ?_
                  refine g_icmp_eq (tgt := 98) X h dX5_pairs_91 (by decide) (fun h => ?_) (fun h => ?_)
                  · refine g_iconst (v := 0) X dX5_pairs_98 (by decide) ?_
                    refine g_lv (lv' := [(0, .ref a0), (1, .int p1), (3, .int l3_2), (4, .int l4_6)]) [1, 2, 4, 5] rfl ?_
                    exact hK15 0 h
                  · refine g_iconst (v := 1) X dX5_pairs_94 (by decide) ?_
                    refine g_goto (tgt := 99) X dX5_pairs_95 (by decide) ?_
                    refine g_lv (lv' := [(0, .ref a0), (1, .int p1), (3, .int l3_2), (4, .int l4_6)]) [1, 2, 4, 5] rfl ?_
                    exact hK15 1 h
                · refine g_iload X (j := 6) dX5_pairs_69 rfl ?_
                  refine jn_g h (u0 ([(a0, .inr (5, [.ref a1, .ref b0_1, .ref b0_2, .int x0_kept, .ref b0_4, .int x0_typed, .int x0_thrown, .int x0_at, .int x0_isFault, .int x0_value, .ref b0_10, .int x0_tolds, .ref b0_12, .ref b0_13, .ref b0_14])), (a1, .inl (cI, 41, .inl f1))])) (u0 ([(0, .ref a0), (1, .int p1), (3, .int l3_2), (4, .int l4_6)])) (u0 ([.int l2_5])) 83 ?_ ?_
                  · rintro ⟨⟩ h
                    dsimp only [u0] at h ⊢
                    refine g_iconst (v := 0) X dX5_pairs_83 (by decide) ?_
                    refine g_goto (tgt := 99) X dX5_pairs_84 (by decide) ?_
                    exact hK15 0 h
                  · intro K16 hK16 h
                    refine g_if_eq (tgt := 83) X h dX5_pairs_71 (by decide) (fun h => ?_) (fun h => ?_)
                    · refine g_lv (lv' := [(0, .ref a0), (1, .int p1), (3, .int l3_2), (4, .int l4_6)]) [1, 2, 4, 5] rfl ?_
                      exact hK16 () h
                    · refine g_iload X (j := 0) dX5_pairs_74 rfl ?_
                      refine g_if_eq (tgt := 83) X h dX5_pairs_76 (by decide) (fun h => ?_) (fun h => ?_)
                      · refine g_lv (lv' := [(0, .ref a0), (1, .int p1), (3, .int l3_2), (4, .int l4_6)]) [1, 2, 4, 5] rfl ?_
                        exact hK16 () h
                      · refine g_iconst (v := 1) X dX5_pairs_79 (by decide) ?_
                        refine g_goto (tgt := 99) X dX5_pairs_80 (by decide) ?_
                        refine g_lv (lv' := [(0, .ref a0), (1, .int p1), (3, .int l3_2), (4, .int l4_6)]) [1, 2, 4, 5] rfl ?_
                        exact hK15 1 h
            · intro K13 hK13 h
              refine g_if_eq (tgt := 61) X h dX5_pairs_54 (by decide) (fun h => ?_) (fun h => ?_)
              · refine g_iconst (v := 0) X dX5_pairs_61 (by decide) ?_
                refine g_lv (lv' := [(0, .ref a0), (1, .int p1), (2, .int l2_5), (3, .int l3_2), (4, .int l4_6), (5, .int s9)]) [1, 2, 3, 4, 5, 0] rfl ?_
                exact hK13 0 h
              · refine g_iconst (v := 1) X dX5_pairs_57 (by decide) ?_
                refine g_goto (tgt := 62) X dX5_pairs_58 (by decide) ?_
                refine g_lv (lv' := [(0, .ref a0), (1, .int p1), (2, .int l2_5), (3, .int l3_2), (4, .int l4_6), (5, .int s9)]) [1, 2, 3, 4, 5, 0] rfl ?_
                exact hK13 1 h
          · intro K10 hK10 h
            refine g_if_eq (tgt := 41) X h dX5_pairs_34 (by decide) (fun h => ?_) (fun h => ?_)
            · refine g_iconst (v := 0) X dX5_pairs_41 (by decide) ?_
              exact hK10 0 h
            · refine g_iconst (v := 1) X dX5_pairs_37 (by decide) ?_
              refine g_goto (tgt := 42) X dX5_pairs_38 (by decide) ?_
              exact hK10 1 h
def f_X5_counted (p1 : Int32) (x0_kept : Int32) (f1 : Nat → Int32) (f2 : Nat → Int32) (f3 : Nat → Int32) (f4 : Nat → Int32) : Option (Int32 × (Nat → Int32) × (Nat → Int32) × (Nat → Int32)) := (if p1 < 0 ∨ 6 < p1 then (f_X5_having p1 f1).bind (u1 fun (r1 : Int32) => some (r1, f2, f3, f4)) else (if p1 = 0 then (rdA f1 41 40).bind (fun v2 => some (v2, f2, f3, f4)) else (if p1 = 1 then (f_X5_dated f2 f4 41 f1).bind (u3 fun (r3 : Int32) (o4 : Nat → Int32) (o5 : Nat → Int32) => some (r3, o4, f3, o5)) else (if p1 = 2 then (f_X5_having p1 f1).bind (u1 fun (r6 : Int32) => some (r6, f2, f3, f4)) else (if p1 = 3 then (jn (u1 fun (s7 : Int32) => (f_X5_pairs s7 f1).bind (u1 fun (r9 : Int32) => some (r9, f2, f3, f4))) (fun K8 => (if p1 = 3 then K8 1 else K8 0))) else (if p1 = 4 then (f_X5_fits f2 f3 41 f1).bind (u3 fun (r10 : Int32) (o11 : Nat → Int32) (o12 : Nat → Int32) => some (r10, o11, o12, f4)) else (if p1 = 5 then (jn (u1 fun (s13 : Int32) => (f_X5_pairs s13 f1).bind (u1 fun (r15 : Int32) => some (r15, f2, f3, f4))) (fun K14 => (if p1 = 3 then K14 1 else K14 0))) else (if p1 = 6 then some (x0_kept, f2, f3, f4) else none))))))))
theorem in_X5_counted_X5 : ∀ w ∈ wsX50, w ∈ wsX5_counted := by decide +kernel
theorem fl_X5_counted_7 : Cond.fieldLink RX5 7 "ColophonHuntModel" "now" "[I" ∈ wsX5_counted := by decide +kernel
theorem fl_X5_counted_34 : Cond.fieldLink RX5 34 "ColophonHuntModel" "kept" "I" ∈ wsX5_counted := by decide +kernel
theorem hd_X5_counted : yX5_counted.cls = RX5 ∧ yX5_counted.cls ≠ "java/lang/invoke/MethodHandle" ∧ yX5_counted.cls ≠ "java/lang/invoke/VarHandle" ∧ (parseMethodDescriptor yX5_counted.desc).map (fun d => d.parameters.length) = some 1 := by decide +kernel
set_option maxRecDepth 100000 in
set_option maxHeartbeats 4000000 in
theorem c_X5_counted (l : Launch) (D : va_G) (cI cS cL : ClassId) (a0 : Nat) (a1 : Nat) (a2 : Nat) (a3 : Nat) (a4 : Nat) (b0_1 : Nat) (b0_2 : Nat) (b0_4 : Nat) (b0_10 : Nat) (p1 : Int32) (x0_kept : Int32) (x0_typed : Int32) (x0_thrown : Int32) (x0_at : Int32) (x0_isFault : Int32) (x0_value : Int32) (x0_tolds : Int32) (f1 : Nat → Int32) (f2 : Nat → Int32) (f3 : Nat → Int32) (f4 : Nat → Int32) (rr : Int32) (y0 : Nat → Int32) (y1 : Nat → Int32) (y2 : Nat → Int32) (hc : f_X5_counted p1 x0_kept f1 f2 f3 f4 = some (rr, y0, y1, y2)) : KM l yX5_counted wsX5_counted { frames := 5, cells := 0, slots := 0, locals := 117 } D (tyS cI cS cL) [.ref a0, .int p1] [(a0, .inr (5, [.ref a1, .ref b0_1, .ref b0_2, .int x0_kept, .ref b0_4, .int x0_typed, .int x0_thrown, .int x0_at, .int x0_isFault, .int x0_value, .ref b0_10, .int x0_tolds, .ref a2, .ref a3, .ref a4])), (a1, .inl (cI, 41, .inl f1)), (a2, .inl (cI, 10, .inl f2)), (a3, .inl (cI, 1024, .inl f3)), (a4, .inl (cI, 20, .inl f4))] (some (.int rr)) (fun w => w = [(a0, .inr (5, [.ref a1, .ref b0_1, .ref b0_2, .int x0_kept, .ref b0_4, .int x0_typed, .int x0_thrown, .int x0_at, .int x0_isFault, .int x0_value, .ref b0_10, .int x0_tolds, .ref a2, .ref a3, .ref a4])), (a1, .inl (cI, 41, .inl f1)), (a2, .inl (cI, 10, .inl y0)), (a3, .inl (cI, 1024, .inl y1)), (a4, .inl (cI, 20, .inl y2))]) 0 0 := by
  refine g_entry (cc := cX5_counted) (nL := 2) (rt := (some .int)) (by decide) rfl (Nat.le_of_ble_eq_true rfl) ?_
  intro p e s m args below meth c A (X : GC p s m args c cX5_counted 2 RX5 wsX5_counted D (tyS cI cS cL) A) hr hlk _ _
  have h := hc
  unfold f_X5_counted at h
  refine g_lv (lv' := [(0, .ref a0), (1, .int p1)]) [0, 1] rfl ?_
  refine g_iload_n X (j := 1) dX5_counted_0 rfl ?_
  refine g_tabOut (tgt := 90) X 0 6 h (by decide) (by decide) dX5_counted_1 (by decide) (fun h => ?_) (fun h => ?_)
  · refine g_aload_n X (j := 0) dX5_counted_90 rfl ?_
    refine g_iload_n X (j := 1) dX5_counted_91 rfl ?_
    obtain ⟨r1, hc, h⟩ := bd1 h
    refine g_callV (q0 := 0) (ci := 5) (is := [0, 1]) (As := [.int p1]) (ws' := [(a0, .inr (5, [.ref a1, .ref b0_1, .ref b0_2, .int x0_kept, .ref b0_4, .int x0_typed, .int x0_thrown, .int x0_at, .int x0_isFault, .int x0_value, .ref b0_10, .int x0_tolds, .ref a2, .ref a3, .ref a4])), (a1, .inl (cI, 41, .inl f1)), (a2, .inl (cI, 10, .inl f2)), (a3, .inl (cI, 1024, .inl f3)), (a4, .inl (cI, 20, .inl f4))]) (st := []) X (c_X5_having l D cI cS cL a0 a1 b0_1 b0_2 b0_4 b0_10 a2 a3 a4 p1 x0_kept x0_typed x0_thrown x0_at x0_isFault x0_value x0_tolds f1 r1 hc) gX5_counted_X5_having rfl ⟨rfl, rfl⟩ hd_X5_having ⟨Nat.le_of_ble_eq_true rfl, Nat.le_of_ble_eq_true rfl⟩ ⟨Nat.zero_le _, Nat.zero_le _⟩ rfl rfl rfl rfl rfl rfl rfl (Nat.le_of_ble_eq_true rfl) rfl dX5_counted_92 ?_
    have h := Option.some.inj h
    simp only [Prod.mk.injEq] at h
    obtain ⟨rfl, rfl, rfl, rfl⟩ := h
    exact g_iret X hr hlk dX5_counted_95 rfl rfl
  refine g_tabIn (tgt := 44) X 0 h dX5_counted_1 (by decide) (by decide) rfl (by decide) (fun h => ?_) (fun h => ?_)
  · refine g_aload_n X (j := 0) dX5_counted_44 rfl ?_
    refine g_get (q0 := 0) (k := 0) (ci := 5) X in_X5_counted_X5 fl_X5_counted_7 rfl rfl (Nat.le_of_ble_eq_true rfl) rfl dX5_counted_45 ?_
    refine g_bipush (v := 40) X dX5_counted_48 (by decide) ?_
    refine g_iald (q0 := 1) (t0 := 0) X h rfl rfl dX5_counted_50 (fun v2 h => ?_)
    have h := Option.some.inj h
    simp only [Prod.mk.injEq] at h
    obtain ⟨rfl, rfl, rfl, rfl⟩ := h
    exact g_iret X hr hlk dX5_counted_51 rfl rfl
  refine g_tabIn (tgt := 52) X 1 h dX5_counted_1 (by decide) (by decide) rfl (by decide) (fun h => ?_) (fun h => ?_)
  · refine g_aload_n X (j := 0) dX5_counted_52 rfl ?_
    refine g_aload_n X (j := 0) dX5_counted_53 rfl ?_
    refine g_get (q0 := 0) (k := 0) (ci := 5) X in_X5_counted_X5 fl_X5_counted_7 rfl rfl (Nat.le_of_ble_eq_true rfl) rfl dX5_counted_54 ?_
    obtain ⟨r3, o4, o5, hc, h⟩ := bd3 h
    refine g_callV (q0 := 0) (ci := 5) (is := [0, 2, 4, 1]) (As := [.ref a1]) (ws' := [(a0, .inr (5, [.ref a1, .ref b0_1, .ref b0_2, .int x0_kept, .ref b0_4, .int x0_typed, .int x0_thrown, .int x0_at, .int x0_isFault, .int x0_value, .ref b0_10, .int x0_tolds, .ref a2, .ref a3, .ref a4])), (a1, .inl (cI, 41, .inl f1)), (a2, .inl (cI, 10, .inl o4)), (a3, .inl (cI, 1024, .inl f3)), (a4, .inl (cI, 20, .inl o5))]) (st := []) X (c_X5_dated l D cI cS cL a0 a2 a4 a1 a1 b0_1 b0_2 b0_4 b0_10 a3 x0_kept x0_typed x0_thrown x0_at x0_isFault x0_value x0_tolds f2 f4 41 f1 r3 o4 o5 hc) gX5_counted_X5_dated rfl ⟨rfl, rfl⟩ hd_X5_dated ⟨Nat.le_of_ble_eq_true rfl, Nat.le_of_ble_eq_true rfl⟩ ⟨Nat.zero_le _, Nat.zero_le _⟩ rfl rfl rfl rfl rfl rfl rfl (Nat.le_of_ble_eq_true rfl) rfl dX5_counted_57 ?_
    have h := Option.some.inj h
    simp only [Prod.mk.injEq] at h
    obtain ⟨rfl, rfl, rfl, rfl⟩ := h
    exact g_iret X hr hlk dX5_counted_60 rfl rfl
  refine g_tabIn (tgt := 90) X 2 h dX5_counted_1 (by decide) (by decide) rfl (by decide) (fun h => ?_) (fun h => ?_)
  · refine g_aload_n X (j := 0) dX5_counted_90 rfl ?_
    refine g_iload_n X (j := 1) dX5_counted_91 rfl ?_
    obtain ⟨r6, hc, h⟩ := bd1 h
    refine g_callV (q0 := 0) (ci := 5) (is := [0, 1]) (As := [.int p1]) (ws' := [(a0, .inr (5, [.ref a1, .ref b0_1, .ref b0_2, .int x0_kept, .ref b0_4, .int x0_typed, .int x0_thrown, .int x0_at, .int x0_isFault, .int x0_value, .ref b0_10, .int x0_tolds, .ref a2, .ref a3, .ref a4])), (a1, .inl (cI, 41, .inl f1)), (a2, .inl (cI, 10, .inl f2)), (a3, .inl (cI, 1024, .inl f3)), (a4, .inl (cI, 20, .inl f4))]) (st := []) X (c_X5_having l D cI cS cL a0 a1 b0_1 b0_2 b0_4 b0_10 a2 a3 a4 p1 x0_kept x0_typed x0_thrown x0_at x0_isFault x0_value x0_tolds f1 r6 hc) gX5_counted_X5_having rfl ⟨rfl, rfl⟩ hd_X5_having ⟨Nat.le_of_ble_eq_true rfl, Nat.le_of_ble_eq_true rfl⟩ ⟨Nat.zero_le _, Nat.zero_le _⟩ rfl rfl rfl rfl rfl rfl rfl (Nat.le_of_ble_eq_true rfl) rfl dX5_counted_92 ?_
    have h := Option.some.inj h
    simp only [Prod.mk.injEq] at h
    obtain ⟨rfl, rfl, rfl, rfl⟩ := h
    exact g_iret X hr hlk dX5_counted_95 rfl rfl
  refine g_tabIn (tgt := 61) X 3 h dX5_counted_1 (by decide) (by decide) rfl (by decide) (fun h => ?_) (fun h => ?_)
  · refine g_aload_n X (j := 0) dX5_counted_61 rfl ?_
    refine g_iload_n X (j := 1) dX5_counted_62 rfl ?_
    refine g_iconst (v := 3) X dX5_counted_63 (by decide) ?_
    refine jn_g h (u1 fun s7 => [(a0, .inr (5, [.ref a1, .ref b0_1, .ref b0_2, .int x0_kept, .ref b0_4, .int x0_typed, .int x0_thrown, .int x0_at, .int x0_isFault, .int x0_value, .ref b0_10, .int x0_tolds, .ref a2, .ref a3, .ref a4])), (a1, .inl (cI, 41, .inl f1)), (a2, .inl (cI, 10, .inl f2)), (a3, .inl (cI, 1024, .inl f3)), (a4, .inl (cI, 20, .inl f4))]) (u1 fun s7 => []) (u1 fun s7 => [.int s7, .ref a0]) 72 ?_ ?_
    · rintro s7 h
      dsimp only [u1] at h ⊢
      obtain ⟨r9, hc, h⟩ := bd1 h
      refine g_callV (q0 := 0) (ci := 5) (is := [0, 1]) (As := [.int s7]) (ws' := [(a0, .inr (5, [.ref a1, .ref b0_1, .ref b0_2, .int x0_kept, .ref b0_4, .int x0_typed, .int x0_thrown, .int x0_at, .int x0_isFault, .int x0_value, .ref b0_10, .int x0_tolds, .ref a2, .ref a3, .ref a4])), (a1, .inl (cI, 41, .inl f1)), (a2, .inl (cI, 10, .inl f2)), (a3, .inl (cI, 1024, .inl f3)), (a4, .inl (cI, 20, .inl f4))]) (st := []) X (c_X5_pairs l D cI cS cL a0 a1 b0_1 b0_2 b0_4 b0_10 a2 a3 a4 s7 x0_kept x0_typed x0_thrown x0_at x0_isFault x0_value x0_tolds f1 r9 hc) gX5_counted_X5_pairs rfl ⟨rfl, rfl⟩ hd_X5_pairs ⟨Nat.le_of_ble_eq_true rfl, Nat.le_of_ble_eq_true rfl⟩ ⟨Nat.zero_le _, Nat.zero_le _⟩ rfl rfl rfl rfl rfl rfl rfl (Nat.le_of_ble_eq_true rfl) rfl dX5_counted_72 ?_
      have h := Option.some.inj h
      simp only [Prod.mk.injEq] at h
      obtain ⟨rfl, rfl, rfl, rfl⟩ := h
      exact g_iret X hr hlk dX5_counted_75 rfl rfl
    · intro K8 hK8 h
      refine g_icmp_ne (tgt := 71) X h dX5_counted_64 (by decide) (fun h => ?_) (fun h => ?_)
      · refine g_iconst (v := 0) X dX5_counted_71 (by decide) ?_
        refine g_lv (lv' := []) [] rfl ?_
        exact hK8 0 h
      · refine g_iconst (v := 1) X dX5_counted_67 (by decide) ?_
        refine g_goto (tgt := 72) X dX5_counted_68 (by decide) ?_
        refine g_lv (lv' := []) [] rfl ?_
        exact hK8 1 h
  refine g_tabIn (tgt := 76) X 4 h dX5_counted_1 (by decide) (by decide) rfl (by decide) (fun h => ?_) (fun h => ?_)
  · refine g_aload_n X (j := 0) dX5_counted_76 rfl ?_
    refine g_aload_n X (j := 0) dX5_counted_77 rfl ?_
    refine g_get (q0 := 0) (k := 0) (ci := 5) X in_X5_counted_X5 fl_X5_counted_7 rfl rfl (Nat.le_of_ble_eq_true rfl) rfl dX5_counted_78 ?_
    obtain ⟨r10, o11, o12, hc, h⟩ := bd3 h
    refine g_callV (q0 := 0) (ci := 5) (is := [0, 2, 3, 1]) (As := [.ref a1]) (ws' := [(a0, .inr (5, [.ref a1, .ref b0_1, .ref b0_2, .int x0_kept, .ref b0_4, .int x0_typed, .int x0_thrown, .int x0_at, .int x0_isFault, .int x0_value, .ref b0_10, .int x0_tolds, .ref a2, .ref a3, .ref a4])), (a1, .inl (cI, 41, .inl f1)), (a2, .inl (cI, 10, .inl o11)), (a3, .inl (cI, 1024, .inl o12)), (a4, .inl (cI, 20, .inl f4))]) (st := []) X (c_X5_fits l D cI cS cL a0 a2 a3 a1 a1 b0_1 b0_2 b0_4 b0_10 a4 x0_kept x0_typed x0_thrown x0_at x0_isFault x0_value x0_tolds f2 f3 41 f1 r10 o11 o12 hc) gX5_counted_X5_fits rfl ⟨rfl, rfl⟩ hd_X5_fits ⟨Nat.le_of_ble_eq_true rfl, Nat.le_of_ble_eq_true rfl⟩ ⟨Nat.zero_le _, Nat.zero_le _⟩ rfl rfl rfl rfl rfl rfl rfl (Nat.le_of_ble_eq_true rfl) rfl dX5_counted_81 ?_
    have h := Option.some.inj h
    simp only [Prod.mk.injEq] at h
    obtain ⟨rfl, rfl, rfl, rfl⟩ := h
    exact g_iret X hr hlk dX5_counted_84 rfl rfl
  refine g_tabIn (tgt := 61) X 5 h dX5_counted_1 (by decide) (by decide) rfl (by decide) (fun h => ?_) (fun h => ?_)
  · refine g_aload_n X (j := 0) dX5_counted_61 rfl ?_
    refine g_iload_n X (j := 1) dX5_counted_62 rfl ?_
    refine g_iconst (v := 3) X dX5_counted_63 (by decide) ?_
    refine jn_g h (u1 fun s13 => [(a0, .inr (5, [.ref a1, .ref b0_1, .ref b0_2, .int x0_kept, .ref b0_4, .int x0_typed, .int x0_thrown, .int x0_at, .int x0_isFault, .int x0_value, .ref b0_10, .int x0_tolds, .ref a2, .ref a3, .ref a4])), (a1, .inl (cI, 41, .inl f1)), (a2, .inl (cI, 10, .inl f2)), (a3, .inl (cI, 1024, .inl f3)), (a4, .inl (cI, 20, .inl f4))]) (u1 fun s13 => []) (u1 fun s13 => [.int s13, .ref a0]) 72 ?_ ?_
    · rintro s13 h
      dsimp only [u1] at h ⊢
      obtain ⟨r15, hc, h⟩ := bd1 h
      refine g_callV (q0 := 0) (ci := 5) (is := [0, 1]) (As := [.int s13]) (ws' := [(a0, .inr (5, [.ref a1, .ref b0_1, .ref b0_2, .int x0_kept, .ref b0_4, .int x0_typed, .int x0_thrown, .int x0_at, .int x0_isFault, .int x0_value, .ref b0_10, .int x0_tolds, .ref a2, .ref a3, .ref a4])), (a1, .inl (cI, 41, .inl f1)), (a2, .inl (cI, 10, .inl f2)), (a3, .inl (cI, 1024, .inl f3)), (a4, .inl (cI, 20, .inl f4))]) (st := []) X (c_X5_pairs l D cI cS cL a0 a1 b0_1 b0_2 b0_4 b0_10 a2 a3 a4 s13 x0_kept x0_typed x0_thrown x0_at x0_isFault x0_value x0_tolds f1 r15 hc) gX5_counted_X5_pairs rfl ⟨rfl, rfl⟩ hd_X5_pairs ⟨Nat.le_of_ble_eq_true rfl, Nat.le_of_ble_eq_true rfl⟩ ⟨Nat.zero_le _, Nat.zero_le _⟩ rfl rfl rfl rfl rfl rfl rfl (Nat.le_of_ble_eq_true rfl) rfl dX5_counted_72 ?_
      have h := Option.some.inj h
      simp only [Prod.mk.injEq] at h
      obtain ⟨rfl, rfl, rfl, rfl⟩ := h
      exact g_iret X hr hlk dX5_counted_75 rfl rfl
    · intro K14 hK14 h
      refine g_icmp_ne (tgt := 71) X h dX5_counted_64 (by decide) (fun h => ?_) (fun h => ?_)
      · refine g_iconst (v := 0) X dX5_counted_71 (by decide) ?_
        refine g_lv (lv' := []) [] rfl ?_
        exact hK14 0 h
      · refine g_iconst (v := 1) X dX5_counted_67 (by decide) ?_
        refine g_goto (tgt := 72) X dX5_counted_68 (by decide) ?_
        refine g_lv (lv' := []) [] rfl ?_
        exact hK14 1 h
  refine g_tabIn (tgt := 85) X 6 h dX5_counted_1 (by decide) (by decide) rfl (by decide) (fun h => ?_) (fun h => ?_)
  · refine g_aload_n X (j := 0) dX5_counted_85 rfl ?_
    refine g_get (q0 := 0) (k := 3) (ci := 5) X in_X5_counted_X5 fl_X5_counted_34 rfl rfl (Nat.le_of_ble_eq_true rfl) rfl dX5_counted_86 ?_
    have h := Option.some.inj h
    simp only [Prod.mk.injEq] at h
    obtain ⟨rfl, rfl, rfl, rfl⟩ := h
    exact g_iret X hr hlk dX5_counted_89 rfl rfl
  cases h
def f_X5_count (p1 : Int32) (x0_kept : Int32) (x0_thrown : Int32) (f1 : Nat → Int32) (f2 : Nat → Int32) (f3 : Nat → Int32) (f4 : Nat → Int32) : Option (Int32 × Int32 × (Nat → Int32) × (Nat → Int32) × (Nat → Int32)) := (f_X5_in p1 0 9).bind (u1 fun (r1 : Int32) => (jn (u5 fun (w2 : Int32) (w3 : Nat → Int32) (w4 : Nat → Int32) (w5 : Nat → Int32) (s6 : Int32) => some (s6, w2, w3, w4, w5)) (fun K7 => (if r1 = 0 then (f_X5_fails 1 0).bind (u2 fun (r8 : Int32) (o9 : Int32) => K7 (o9, f2, f3, f4, r8)) else (f_X5_counted p1 x0_kept f1 f2 f3 f4).bind (u4 fun (r10 : Int32) (o11 : Nat → Int32) (o12 : Nat → Int32) (o13 : Nat → Int32) => K7 (0, o11, o12, o13, r10))))))
theorem in_X5_count_X5 : ∀ w ∈ wsX50, w ∈ wsX5_count := by decide +kernel
theorem fl_X5_count_38 : Cond.fieldLink RX5 38 "ColophonHuntModel" "thrown" "I" ∈ wsX5_count := by decide +kernel
theorem hd_X5_count : yX5_count.cls = RX5 ∧ yX5_count.cls ≠ "java/lang/invoke/MethodHandle" ∧ yX5_count.cls ≠ "java/lang/invoke/VarHandle" ∧ (parseMethodDescriptor yX5_count.desc).map (fun d => d.parameters.length) = some 1 := by decide +kernel
set_option maxRecDepth 100000 in
set_option maxHeartbeats 4000000 in
theorem c_X5_count (l : Launch) (D : va_G) (cI cS cL : ClassId) (a0 : Nat) (a1 : Nat) (a2 : Nat) (a3 : Nat) (a4 : Nat) (b0_1 : Nat) (b0_2 : Nat) (b0_4 : Nat) (b0_10 : Nat) (p1 : Int32) (x0_kept : Int32) (x0_typed : Int32) (x0_thrown : Int32) (x0_at : Int32) (x0_isFault : Int32) (x0_value : Int32) (x0_tolds : Int32) (f1 : Nat → Int32) (f2 : Nat → Int32) (f3 : Nat → Int32) (f4 : Nat → Int32) (rr : Int32) (y0 : Int32) (y1 : Nat → Int32) (y2 : Nat → Int32) (y3 : Nat → Int32) (hc : f_X5_count p1 x0_kept x0_thrown f1 f2 f3 f4 = some (rr, y0, y1, y2, y3)) : KM l yX5_count wsX5_count { frames := 6, cells := 0, slots := 0, locals := 138 } D (tyS cI cS cL) [.ref a0, .int p1] [(a0, .inr (5, [.ref a1, .ref b0_1, .ref b0_2, .int x0_kept, .ref b0_4, .int x0_typed, .int x0_thrown, .int x0_at, .int x0_isFault, .int x0_value, .ref b0_10, .int x0_tolds, .ref a2, .ref a3, .ref a4])), (a1, .inl (cI, 41, .inl f1)), (a2, .inl (cI, 10, .inl f2)), (a3, .inl (cI, 1024, .inl f3)), (a4, .inl (cI, 20, .inl f4))] (some (.int rr)) (fun w => w = [(a0, .inr (5, [.ref a1, .ref b0_1, .ref b0_2, .int x0_kept, .ref b0_4, .int x0_typed, .int y0, .int x0_at, .int x0_isFault, .int x0_value, .ref b0_10, .int x0_tolds, .ref a2, .ref a3, .ref a4])), (a1, .inl (cI, 41, .inl f1)), (a2, .inl (cI, 10, .inl y1)), (a3, .inl (cI, 1024, .inl y2)), (a4, .inl (cI, 20, .inl y3))]) 0 0 := by
  refine g_entry (cc := cX5_count) (nL := 2) (rt := (some .int)) (by decide) rfl (Nat.le_of_ble_eq_true rfl) ?_
  intro p e s m args below meth c A (X : GC p s m args c cX5_count 2 RX5 wsX5_count D (tyS cI cS cL) A) hr hlk _ _
  have h := hc
  unfold f_X5_count at h
  refine g_lv (lv' := [(0, .ref a0), (1, .int p1)]) [0, 1] rfl ?_
  refine g_aload_n X (j := 0) dX5_count_0 rfl ?_
  refine g_iconst (v := 0) X dX5_count_1 (by decide) ?_
  refine g_put (q0 := 0) (k := 6) (ci := 5) (ws' := [(a0, .inr (5, [.ref a1, .ref b0_1, .ref b0_2, .int x0_kept, .ref b0_4, .int x0_typed, .int 0, .int x0_at, .int x0_isFault, .int x0_value, .ref b0_10, .int x0_tolds, .ref a2, .ref a3, .ref a4])), (a1, .inl (cI, 41, .inl f1)), (a2, .inl (cI, 10, .inl f2)), (a3, .inl (cI, 1024, .inl f3)), (a4, .inl (cI, 20, .inl f4))]) X tyX5_ok nmX5 in_X5_count_X5 fl_X5_count_38 rfl rfl (Nat.le_of_ble_eq_true rfl) rfl rfl rfl (Nat.le_of_ble_eq_true rfl) dX5_count_2 rfl ?_
  refine g_iload_n X (j := 1) dX5_count_5 rfl ?_
  refine g_iconst (v := 0) X dX5_count_6 (by decide) ?_
  refine g_bipush (v := 9) X dX5_count_7 (by decide) ?_
  obtain ⟨r1, hc, h⟩ := bd1 h
  refine g_callS (is := []) (As := [.int p1, .int 0, .int 9]) (ws' := [(a0, .inr (5, [.ref a1, .ref b0_1, .ref b0_2, .int x0_kept, .ref b0_4, .int x0_typed, .int 0, .int x0_at, .int x0_isFault, .int x0_value, .ref b0_10, .int x0_tolds, .ref a2, .ref a3, .ref a4])), (a1, .inl (cI, 41, .inl f1)), (a2, .inl (cI, 10, .inl f2)), (a3, .inl (cI, 1024, .inl f3)), (a4, .inl (cI, 20, .inl f4))]) (st := []) X (c_X5_in l D cI cS cL p1 0 9 r1 hc) gX5_count_X5_in rfl ⟨rfl, rfl⟩ hd_X5_in.2 ⟨Nat.le_of_ble_eq_true rfl, Nat.le_of_ble_eq_true rfl⟩ ⟨Nat.zero_le _, Nat.zero_le _⟩ rfl rfl rfl rfl rfl (Nat.le_of_ble_eq_true rfl) rfl dX5_count_9 ?_
  refine jn_g h (u5 fun w2 w3 w4 w5 s6 => [(a0, .inr (5, [.ref a1, .ref b0_1, .ref b0_2, .int x0_kept, .ref b0_4, .int x0_typed, .int w2, .int x0_at, .int x0_isFault, .int x0_value, .ref b0_10, .int x0_tolds, .ref a2, .ref a3, .ref a4])), (a1, .inl (cI, 41, .inl f1)), (a2, .inl (cI, 10, .inl w3)), (a3, .inl (cI, 1024, .inl w4)), (a4, .inl (cI, 20, .inl w5))]) (u5 fun w2 w3 w4 w5 s6 => []) (u5 fun w2 w3 w4 w5 s6 => [.int s6]) 28 ?_ ?_
  · rintro ⟨w2, w3, w4, w5, s6⟩ h
    dsimp only [u5] at h ⊢
    have h := Option.some.inj h
    simp only [Prod.mk.injEq] at h
    obtain ⟨rfl, rfl, rfl, rfl, rfl⟩ := h
    exact g_iret X hr hlk dX5_count_28 rfl rfl
  · intro K7 hK7 h
    refine g_if_eq (tgt := 23) X h dX5_count_12 (by decide) (fun h => ?_) (fun h => ?_)
    · refine g_aload_n X (j := 0) dX5_count_23 rfl ?_
      refine g_iconst (v := 1) X dX5_count_24 (by decide) ?_
      obtain ⟨r8, o9, hc, h⟩ := bd2 h
      refine g_callV (q0 := 0) (ci := 5) (is := [0]) (As := [.int 1]) (ws' := [(a0, .inr (5, [.ref a1, .ref b0_1, .ref b0_2, .int x0_kept, .ref b0_4, .int x0_typed, .int o9, .int x0_at, .int x0_isFault, .int x0_value, .ref b0_10, .int x0_tolds, .ref a2, .ref a3, .ref a4])), (a1, .inl (cI, 41, .inl f1)), (a2, .inl (cI, 10, .inl f2)), (a3, .inl (cI, 1024, .inl f3)), (a4, .inl (cI, 20, .inl f4))]) (st := []) X (c_X5_fails l D cI cS cL a0 a1 b0_1 b0_2 b0_4 b0_10 a2 a3 a4 1 x0_kept x0_typed 0 x0_at x0_isFault x0_value x0_tolds r8 o9 hc) gX5_count_X5_fails rfl ⟨rfl, rfl⟩ hd_X5_fails ⟨Nat.le_of_ble_eq_true rfl, Nat.le_of_ble_eq_true rfl⟩ ⟨Nat.zero_le _, Nat.zero_le _⟩ rfl rfl rfl rfl rfl rfl rfl (Nat.le_of_ble_eq_true rfl) rfl dX5_count_25 ?_
      refine g_lv (lv' := []) [] rfl ?_
      exact hK7 (o9, f2, f3, f4, r8) h
    · refine g_aload_n X (j := 0) dX5_count_15 rfl ?_
      refine g_iload_n X (j := 1) dX5_count_16 rfl ?_
      obtain ⟨r10, o11, o12, o13, hc, h⟩ := bd4 h
      refine g_callV (q0 := 0) (ci := 5) (is := [0, 1, 2, 3, 4]) (As := [.int p1]) (ws' := [(a0, .inr (5, [.ref a1, .ref b0_1, .ref b0_2, .int x0_kept, .ref b0_4, .int x0_typed, .int 0, .int x0_at, .int x0_isFault, .int x0_value, .ref b0_10, .int x0_tolds, .ref a2, .ref a3, .ref a4])), (a1, .inl (cI, 41, .inl f1)), (a2, .inl (cI, 10, .inl o11)), (a3, .inl (cI, 1024, .inl o12)), (a4, .inl (cI, 20, .inl o13))]) (st := []) X (c_X5_counted l D cI cS cL a0 a1 a2 a3 a4 b0_1 b0_2 b0_4 b0_10 p1 x0_kept x0_typed 0 x0_at x0_isFault x0_value x0_tolds f1 f2 f3 f4 r10 o11 o12 o13 hc) gX5_count_X5_counted rfl ⟨rfl, rfl⟩ hd_X5_counted ⟨Nat.le_of_ble_eq_true rfl, Nat.le_of_ble_eq_true rfl⟩ ⟨Nat.zero_le _, Nat.zero_le _⟩ rfl rfl rfl rfl rfl rfl rfl (Nat.le_of_ble_eq_true rfl) rfl dX5_count_17 ?_
      refine g_goto (tgt := 28) X dX5_count_20 (by decide) ?_
      refine g_lv (lv' := []) [] rfl ?_
      exact hK7 (0, o11, o12, o13, r10) h
def f_X5_ordered (p1 : Int32) (f1 : Nat → Int32) (f2 : Nat → Int32) (f3 : Nat → Int32) : Option (Int32 × (Nat → Int32) × (Nat → Int32)) := (rdA f1 41 40).bind (fun v1 => (jn (u2 fun (w2 : Nat → Int32) (w3 : Nat → Int32) => some ((-1), w2, w3)) (fun K4 => (if v1 ≤ p1 then K4 (f2, f3) else (f_X5_fits f2 f3 41 f1).bind (u3 fun (r5 : Int32) (o6 : Nat → Int32) (o7 : Nat → Int32) => (if r5 = 0 then K4 (o6, o7) else (wl (u3 fun (l2_8 : Int32) (l3_9 : Int32) (l4_10 : Int32) => (if p1 < l4_10 then some (Sum.inr l3_9) else (rdA f1 41 40).bind (fun v12 => (wl (u2 fun (l3_13 : Int32) (l5_14 : Int32) => (if l5_14 < 0 then some (Sum.inr l3_13) else (jn (u1 fun (s16 : Int32) => some (Sum.inl (s16, (l5_14 + (-1))))) (fun K17 => jn (u0 (K17 l3_13)) (fun K18 => (if ((l2_8 >>> (l5_14 &&& 31)) &&& 1) = 0 then (rdA o6 10 l5_14).bind (fun v19 => (if (v19 &&& (l2_8 ^^^ (-1))) = 0 then K17 l5_14 else K18 ())) else K18 ())))))) 9999 ((-1), (v12 - 1))).bind (u1 fun (l3_15 : Int32) => some (Sum.inl ((l2_8 ||| ((1 : Int32) <<< (l3_15 &&& 31))), l3_15, (l4_10 + 1))))))) 9999 (0, (-1), 0)).bind (u1 fun (l3_11 : Int32) => some (l3_11, o6, o7))))))))
theorem in_X5_ordered_X5 : ∀ w ∈ wsX50, w ∈ wsX5_ordered := by decide +kernel
theorem fl_X5_ordered_7 : Cond.fieldLink RX5 7 "ColophonHuntModel" "now" "[I" ∈ wsX5_ordered := by decide +kernel
theorem fl_X5_ordered_25 : Cond.fieldLink RX5 25 "ColophonHuntModel" "before" "[I" ∈ wsX5_ordered := by decide +kernel
theorem hd_X5_ordered : yX5_ordered.cls = RX5 ∧ yX5_ordered.cls ≠ "java/lang/invoke/MethodHandle" ∧ yX5_ordered.cls ≠ "java/lang/invoke/VarHandle" ∧ (parseMethodDescriptor yX5_ordered.desc).map (fun d => d.parameters.length) = some 1 := by decide +kernel
set_option maxRecDepth 100000 in
set_option maxHeartbeats 4000000 in
theorem c_X5_ordered (l : Launch) (D : va_G) (cI cS cL : ClassId) (a0 : Nat) (a1 : Nat) (a2 : Nat) (a3 : Nat) (b0_1 : Nat) (b0_2 : Nat) (b0_4 : Nat) (b0_10 : Nat) (b0_14 : Nat) (p1 : Int32) (x0_kept : Int32) (x0_typed : Int32) (x0_thrown : Int32) (x0_at : Int32) (x0_isFault : Int32) (x0_value : Int32) (x0_tolds : Int32) (f1 : Nat → Int32) (f2 : Nat → Int32) (f3 : Nat → Int32) (rr : Int32) (y0 : Nat → Int32) (y1 : Nat → Int32) (hc : f_X5_ordered p1 f1 f2 f3 = some (rr, y0, y1)) : KM l yX5_ordered wsX5_ordered { frames := 5, cells := 0, slots := 0, locals := 114 } D (tyS cI cS cL) [.ref a0, .int p1] [(a0, .inr (5, [.ref a1, .ref b0_1, .ref b0_2, .int x0_kept, .ref b0_4, .int x0_typed, .int x0_thrown, .int x0_at, .int x0_isFault, .int x0_value, .ref b0_10, .int x0_tolds, .ref a2, .ref a3, .ref b0_14])), (a1, .inl (cI, 41, .inl f1)), (a2, .inl (cI, 10, .inl f2)), (a3, .inl (cI, 1024, .inl f3))] (some (.int rr)) (fun w => w = [(a0, .inr (5, [.ref a1, .ref b0_1, .ref b0_2, .int x0_kept, .ref b0_4, .int x0_typed, .int x0_thrown, .int x0_at, .int x0_isFault, .int x0_value, .ref b0_10, .int x0_tolds, .ref a2, .ref a3, .ref b0_14])), (a1, .inl (cI, 41, .inl f1)), (a2, .inl (cI, 10, .inl y0)), (a3, .inl (cI, 1024, .inl y1))]) 0 0 := by
  refine g_entry (cc := cX5_ordered) (nL := 6) (rt := (some .int)) (by decide) rfl (Nat.le_of_ble_eq_true rfl) ?_
  intro p e s m args below meth c A (X : GC p s m args c cX5_ordered 6 RX5 wsX5_ordered D (tyS cI cS cL) A) hr hlk _ _
  have h := hc
  unfold f_X5_ordered at h
  refine g_lv (lv' := [(0, .ref a0), (1, .int p1)]) [0, 1] rfl ?_
  refine g_iload_n X (j := 1) dX5_ordered_0 rfl ?_
  refine g_aload_n X (j := 0) dX5_ordered_1 rfl ?_
  refine g_get (q0 := 0) (k := 0) (ci := 5) X in_X5_ordered_X5 fl_X5_ordered_7 rfl rfl (Nat.le_of_ble_eq_true rfl) rfl dX5_ordered_2 ?_
  refine g_bipush (v := 40) X dX5_ordered_5 (by decide) ?_
  refine g_iald (q0 := 1) (t0 := 0) X h rfl rfl dX5_ordered_7 (fun v1 h => ?_)
  refine jn_g h (u2 fun w2 w3 => [(a0, .inr (5, [.ref a1, .ref b0_1, .ref b0_2, .int x0_kept, .ref b0_4, .int x0_typed, .int x0_thrown, .int x0_at, .int x0_isFault, .int x0_value, .ref b0_10, .int x0_tolds, .ref a2, .ref a3, .ref b0_14])), (a1, .inl (cI, 41, .inl f1)), (a2, .inl (cI, 10, .inl w2)), (a3, .inl (cI, 1024, .inl w3))]) (u2 fun w2 w3 => []) (u2 fun w2 w3 => []) 22 ?_ ?_
  · rintro ⟨w2, w3⟩ h
    dsimp only [u2] at h ⊢
    refine g_iconst (v := (-1)) X dX5_ordered_22 (by decide) ?_
    have h := Option.some.inj h
    simp only [Prod.mk.injEq] at h
    obtain ⟨rfl, rfl, rfl⟩ := h
    exact g_iret X hr hlk dX5_ordered_23 rfl rfl
  · intro K4 hK4 h
    refine g_icmp_ge (tgt := 22) X h dX5_ordered_8 (by decide) (fun h => ?_) (fun h => ?_)
    · refine g_lv (lv' := []) [] rfl ?_
      exact hK4 (f2, f3) h
    · refine g_aload_n X (j := 0) dX5_ordered_11 rfl ?_
      refine g_aload_n X (j := 0) dX5_ordered_12 rfl ?_
      refine g_get (q0 := 0) (k := 0) (ci := 5) X in_X5_ordered_X5 fl_X5_ordered_7 rfl rfl (Nat.le_of_ble_eq_true rfl) rfl dX5_ordered_13 ?_
      obtain ⟨r5, o6, o7, hc, h⟩ := bd3 h
      refine g_callV (q0 := 0) (ci := 5) (is := [0, 2, 3, 1]) (As := [.ref a1]) (ws' := [(a0, .inr (5, [.ref a1, .ref b0_1, .ref b0_2, .int x0_kept, .ref b0_4, .int x0_typed, .int x0_thrown, .int x0_at, .int x0_isFault, .int x0_value, .ref b0_10, .int x0_tolds, .ref a2, .ref a3, .ref b0_14])), (a1, .inl (cI, 41, .inl f1)), (a2, .inl (cI, 10, .inl o6)), (a3, .inl (cI, 1024, .inl o7))]) (st := []) X (c_X5_fits l D cI cS cL a0 a2 a3 a1 a1 b0_1 b0_2 b0_4 b0_10 b0_14 x0_kept x0_typed x0_thrown x0_at x0_isFault x0_value x0_tolds f2 f3 41 f1 r5 o6 o7 hc) gX5_ordered_X5_fits rfl ⟨rfl, rfl⟩ hd_X5_fits ⟨Nat.le_of_ble_eq_true rfl, Nat.le_of_ble_eq_true rfl⟩ ⟨Nat.zero_le _, Nat.zero_le _⟩ rfl rfl rfl rfl rfl rfl rfl (Nat.le_of_ble_eq_true rfl) rfl dX5_ordered_16 ?_
      refine g_if_ne (tgt := 24) X h dX5_ordered_19 (by decide) (fun h => ?_) (fun h => ?_)
      · refine g_iconst (v := 0) X dX5_ordered_24 (by decide) ?_
        refine g_istore_n (lv' := [(2, .int 0), (0, .ref a0), (1, .int p1)]) X dX5_ordered_25 rfl (by decide) rfl ?_
        refine g_iconst (v := (-1)) X dX5_ordered_26 (by decide) ?_
        refine g_istore_n (lv' := [(3, .int (-1)), (2, .int 0), (0, .ref a0), (1, .int p1)]) X dX5_ordered_27 rfl (by decide) rfl ?_
        refine g_iconst (v := 0) X dX5_ordered_28 (by decide) ?_
        refine g_istore (lv' := [(4, .int 0), (3, .int (-1)), (2, .int 0), (0, .ref a0), (1, .int p1)]) X dX5_ordered_29 (by decide) rfl ?_
        refine g_lv (lv' := [(0, .ref a0), (1, .int p1), (2, .int 0), (3, .int (-1)), (4, .int 0)]) [3, 4, 2, 1, 0] rfl ?_
        refine wl_g1 h (u3 fun l2_8 l3_9 l4_10 => [(a0, .inr (5, [.ref a1, .ref b0_1, .ref b0_2, .int x0_kept, .ref b0_4, .int x0_typed, .int x0_thrown, .int x0_at, .int x0_isFault, .int x0_value, .ref b0_10, .int x0_tolds, .ref a2, .ref a3, .ref b0_14])), (a1, .inl (cI, 41, .inl f1)), (a2, .inl (cI, 10, .inl o6)), (a3, .inl (cI, 1024, .inl o7))]) (u3 fun l2_8 l3_9 l4_10 => [(0, .ref a0), (1, .int p1), (2, .int l2_8), (3, .int l3_9), (4, .int l4_10)]) rfl rfl (u1 fun l3_11 => [(a0, .inr (5, [.ref a1, .ref b0_1, .ref b0_2, .int x0_kept, .ref b0_4, .int x0_typed, .int x0_thrown, .int x0_at, .int x0_isFault, .int x0_value, .ref b0_10, .int x0_tolds, .ref a2, .ref a3, .ref b0_14])), (a1, .inl (cI, 41, .inl f1)), (a2, .inl (cI, 10, .inl o6)), (a3, .inl (cI, 1024, .inl o7))]) (u1 fun l3_11 => [(3, .int l3_11)]) 103 ?_ ?_
        · rintro l3_11 h
          dsimp only [u1] at h ⊢
          refine g_iload_n X (j := 0) dX5_ordered_103 rfl ?_
          have h := Option.some.inj h
          simp only [Prod.mk.injEq] at h
          obtain ⟨rfl, rfl, rfl⟩ := h
          exact g_iret X hr hlk dX5_ordered_104 rfl rfl
        · rintro ⟨l2_8, l3_9, l4_10⟩ o h hI hE
          dsimp only [u3] at h ⊢
          refine g_iload X (j := 4) dX5_ordered_31 rfl ?_
          refine g_iload_n X (j := 1) dX5_ordered_33 rfl ?_
          refine g_icmp_gt (tgt := 103) X h dX5_ordered_34 (by decide) (fun h => ?_) (fun h => ?_)
          · refine g_lv (lv' := [(3, .int l3_9)]) [3] rfl ?_
            exact hE l3_9 (Option.some.inj h).symm
          · refine g_iconst (v := (-1)) X dX5_ordered_37 (by decide) ?_
            refine g_istore_n (lv' := [(3, .int (-1)), (0, .ref a0), (1, .int p1), (2, .int l2_8), (4, .int l4_10)]) X dX5_ordered_38 rfl (by decide) rfl ?_
            refine g_aload_n X (j := 1) dX5_ordered_39 rfl ?_
            refine g_get (q0 := 0) (k := 0) (ci := 5) X in_X5_ordered_X5 fl_X5_ordered_7 rfl rfl (Nat.le_of_ble_eq_true rfl) rfl dX5_ordered_40 ?_
            refine g_bipush (v := 40) X dX5_ordered_43 (by decide) ?_
            refine g_iald (q0 := 1) (t0 := 0) X h rfl rfl dX5_ordered_45 (fun v12 h => ?_)
            refine g_iconst (v := 1) X dX5_ordered_46 (by decide) ?_
            refine g_isub X dX5_ordered_47 ?_
            refine g_istore (lv' := [(5, .int (v12 - 1)), (3, .int (-1)), (0, .ref a0), (1, .int p1), (2, .int l2_8), (4, .int l4_10)]) X dX5_ordered_48 (by decide) rfl ?_
            refine g_lv (lv' := [(0, .ref a0), (1, .int p1), (2, .int l2_8), (3, .int (-1)), (4, .int l4_10), (5, .int (v12 - 1))]) [2, 3, 4, 1, 5, 0] rfl ?_
            refine wl_g1 h (u2 fun l3_13 l5_14 => [(a0, .inr (5, [.ref a1, .ref b0_1, .ref b0_2, .int x0_kept, .ref b0_4, .int x0_typed, .int x0_thrown, .int x0_at, .int x0_isFault, .int x0_value, .ref b0_10, .int x0_tolds, .ref a2, .ref a3, .ref b0_14])), (a1, .inl (cI, 41, .inl f1)), (a2, .inl (cI, 10, .inl o6)), (a3, .inl (cI, 1024, .inl o7))]) (u2 fun l3_13 l5_14 => [(0, .ref a0), (1, .int p1), (2, .int l2_8), (3, .int l3_13), (4, .int l4_10), (5, .int l5_14)]) rfl rfl (u1 fun l3_15 => [(a0, .inr (5, [.ref a1, .ref b0_1, .ref b0_2, .int x0_kept, .ref b0_4, .int x0_typed, .int x0_thrown, .int x0_at, .int x0_isFault, .int x0_value, .ref b0_10, .int x0_tolds, .ref a2, .ref a3, .ref b0_14])), (a1, .inl (cI, 41, .inl f1)), (a2, .inl (cI, 10, .inl o6)), (a3, .inl (cI, 1024, .inl o7))]) (u1 fun l3_15 => [(0, .ref a0), (1, .int p1), (2, .int l2_8), (3, .int l3_15), (4, .int l4_10)]) 91 ?_ ?_
            · rintro l3_15 h
              dsimp only [u1] at h ⊢
              refine g_iload_n X (j := 2) dX5_ordered_91 rfl ?_
              refine g_iconst (v := 1) X dX5_ordered_92 (by decide) ?_
              refine g_iload_n X (j := 3) dX5_ordered_93 rfl ?_
              refine g_ishl X dX5_ordered_94 ?_
              refine g_ior X dX5_ordered_95 ?_
              refine g_istore_n (lv' := [(2, .int (l2_8 ||| ((1 : Int32) <<< (l3_15 &&& 31)))), (0, .ref a0), (1, .int p1), (3, .int l3_15), (4, .int l4_10)]) X dX5_ordered_96 rfl (by decide) rfl ?_
              refine g_iinc (j := 4) (lv' := [(4, .int (l4_10 + 1)), (2, .int (l2_8 ||| ((1 : Int32) <<< (l3_15 &&& 31)))), (0, .ref a0), (1, .int p1), (3, .int l3_15)]) X (l4_10 + 1) dX5_ordered_97 rfl rfl (by decide) rfl ?_
              refine g_goto (tgt := 31) X dX5_ordered_100 (by decide) ?_
              refine g_lv (lv' := [(0, .ref a0), (1, .int p1), (2, .int (l2_8 ||| ((1 : Int32) <<< (l3_15 &&& 31)))), (3, .int l3_15), (4, .int (l4_10 + 1))]) [2, 3, 1, 4, 0] rfl ?_
              exact hI ((l2_8 ||| ((1 : Int32) <<< (l3_15 &&& 31))), l3_15, (l4_10 + 1)) (Option.some.inj h).symm
            · rintro ⟨l3_13, l5_14⟩ o h hI hE
              dsimp only [u2] at h ⊢
              refine g_iload X (j := 5) dX5_ordered_50 rfl ?_
              refine g_if_lt (tgt := 91) X h dX5_ordered_52 (by decide) (fun h => ?_) (fun h => ?_)
              · refine g_lv (lv' := [(0, .ref a0), (1, .int p1), (2, .int l2_8), (3, .int l3_13), (4, .int l4_10)]) [0, 1, 2, 3, 4] rfl ?_
                exact hE l3_13 (Option.some.inj h).symm
              · refine g_iload_n X (j := 2) dX5_ordered_55 rfl ?_
                refine g_iload X (j := 5) dX5_ordered_56 rfl ?_
                refine g_ishr X dX5_ordered_58 ?_
                refine g_iconst (v := 1) X dX5_ordered_59 (by decide) ?_
                refine g_iand X dX5_ordered_60 ?_
                refine jn_g h (u1 fun s16 => [(a0, .inr (5, [.ref a1, .ref b0_1, .ref b0_2, .int x0_kept, .ref b0_4, .int x0_typed, .int x0_thrown, .int x0_at, .int x0_isFault, .int x0_value, .ref b0_10, .int x0_tolds, .ref a2, .ref a3, .ref b0_14])), (a1, .inl (cI, 41, .inl f1)), (a2, .inl (cI, 10, .inl o6)), (a3, .inl (cI, 1024, .inl o7))]) (u1 fun s16 => [(0, .ref a0), (1, .int p1), (2, .int l2_8), (4, .int l4_10), (5, .int l5_14)]) (u1 fun s16 => [.int s16]) 84 ?_ ?_
                · rintro s16 h
                  dsimp only [u1] at h ⊢
                  refine g_istore_n (lv' := [(3, .int s16), (0, .ref a0), (1, .int p1), (2, .int l2_8), (4, .int l4_10), (5, .int l5_14)]) X dX5_ordered_84 rfl (by decide) rfl ?_
                  refine g_iinc (j := 5) (lv' := [(5, .int (l5_14 + (-1))), (3, .int s16), (0, .ref a0), (1, .int p1), (2, .int l2_8), (4, .int l4_10)]) X (l5_14 + (-1)) dX5_ordered_85 rfl rfl (by decide) rfl ?_
                  refine g_goto (tgt := 50) X dX5_ordered_88 (by decide) ?_
                  refine g_lv (lv' := [(0, .ref a0), (1, .int p1), (2, .int l2_8), (3, .int s16), (4, .int l4_10), (5, .int (l5_14 + (-1)))]) [2, 3, 4, 1, 5, 0] rfl ?_
                  exact hI (s16, (l5_14 + (-1))) (Option.some.inj h).symm
                · intro K17 hK17 h
                  refine jn_g h (u0 ([(a0, .inr (5, [.ref a1, .ref b0_1, .ref b0_2, .int x0_kept, .ref b0_4, .int x0_typed, .int x0_thrown, .int x0_at, .int x0_isFault, .int x0_value, .ref b0_10, .int x0_tolds, .ref a2, .ref a3, .ref b0_14])), (a1, .inl (cI, 41, .inl f1)), (a2, .inl (cI, 10, .inl o6)), (a3, .inl (cI, 1024, .inl o7))])) (u0 ([(0, .ref a0), (1, .int p1), (2, .int l2_8), (3, .int l3_13), (4, .int l4_10), (5, .int l5_14)])) (u0 ([])) 83 ?_ ?_
                  · rintro ⟨⟩ h
                    dsimp only [u0] at h ⊢
                    refine g_iload_n X (j := 3) dX5_ordered_83 rfl ?_
                    refine g_lv (lv' := [(0, .ref a0), (1, .int p1), (2, .int l2_8), (4, .int l4_10), (5, .int l5_14)]) [0, 1, 2, 4, 5] rfl ?_
                    exact hK17 l3_13 h
                  · intro K18 hK18 h
                    refine g_if_ne (tgt := 83) X h dX5_ordered_61 (by decide) (fun h => ?_) (fun h => ?_)
                    · exact hK18 () h
                    · refine g_aload_n X (j := 0) dX5_ordered_64 rfl ?_
                      refine g_get (q0 := 0) (k := 12) (ci := 5) X in_X5_ordered_X5 fl_X5_ordered_25 rfl rfl (Nat.le_of_ble_eq_true rfl) rfl dX5_ordered_65 ?_
                      refine g_iload X (j := 5) dX5_ordered_68 rfl ?_
                      refine g_iald (q0 := 2) (t0 := 0) X h rfl rfl dX5_ordered_70 (fun v19 h => ?_)
                      refine g_iload_n X (j := 2) dX5_ordered_71 rfl ?_
                      refine g_iconst (v := (-1)) X dX5_ordered_72 (by decide) ?_
                      refine g_ixor X dX5_ordered_73 ?_
                      refine g_iand X dX5_ordered_74 ?_
                      refine g_if_ne (tgt := 83) X h dX5_ordered_75 (by decide) (fun h => ?_) (fun h => ?_)
                      · exact hK18 () h
                      · refine g_iload X (j := 5) dX5_ordered_78 rfl ?_
                        refine g_goto (tgt := 84) X dX5_ordered_80 (by decide) ?_
                        refine g_lv (lv' := [(0, .ref a0), (1, .int p1), (2, .int l2_8), (4, .int l4_10), (5, .int l5_14)]) [0, 1, 2, 4, 5] rfl ?_
                        exact hK17 l5_14 h
      · refine g_lv (lv' := []) [] rfl ?_
        exact hK4 (o6, o7) h
