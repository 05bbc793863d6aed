set_option maxRecDepth 20000 in
theorem ggX5_more_X5_copies : GoodIn wsX5_more wsX5_copies := goodIn_r _ [6] (by decide +kernel) (by decide +kernel)
set_option maxRecDepth 20000 in
theorem gX5_more_X5_copies : GoodIn wsX5_more (va_wsS RX5 45 yX5_copies wsX5_copies) := goodIn_app (goodIn_of _ (by decide +kernel)) ggX5_more_X5_copies
set_option maxRecDepth 20000 in
theorem ggX5_more_X5_fits : GoodIn wsX5_more wsX5_fits := goodIn_r _ [10, 11, 12, 13, 14, 5, 15, 16, 17, 18, 19, 20, 21, 22, 23, 24, 25, 26, 27, 28, 29, 30, 31, 32, 33, 34, 35, 36, 37, 38, 39, 40, 41, 42, 43, 44, 45, 46, 47, 48] (by decide +kernel) (by decide +kernel)
set_option maxRecDepth 20000 in
theorem gX5_more_X5_fits : GoodIn wsX5_more (wsV RX5 160 RX5 yX5_fits wsX5_fits) := goodIn_app (goodIn_of _ (by decide +kernel)) ggX5_more_X5_fits
theorem dX5_more_0 : decode cX5_more 0 = .ok (.aload_n 0, 1) := by decide +kernel
theorem dX5_more_1 : decode cX5_more 1 = .ok (.getfield 7, 3) := by decide +kernel
theorem dX5_more_4 : decode cX5_more 4 = .ok (.iconst 0, 1) := by decide +kernel
theorem dX5_more_5 : decode cX5_more 5 = .ok (.aload_n 0, 1) := by decide +kernel
theorem dX5_more_6 : decode cX5_more 6 = .ok (.getfield 13, 3) := by decide +kernel
theorem dX5_more_9 : decode cX5_more 9 = .ok (.iconst 0, 1) := by decide +kernel
theorem dX5_more_10 : decode cX5_more 10 = .ok (.invokestatic 45, 3) := by decide +kernel
theorem dX5_more_13 : decode cX5_more 13 = .ok (.iconst 0, 1) := by decide +kernel
theorem dX5_more_14 : decode cX5_more 14 = .ok (.istore_n 2, 1) := by decide +kernel
theorem dX5_more_15 : decode cX5_more 15 = .ok (.iload_n 2, 1) := by decide +kernel
theorem dX5_more_16 : decode cX5_more 16 = .ok (.aload_n 0, 1) := by decide +kernel
theorem dX5_more_17 : decode cX5_more 17 = .ok (.getfield 13, 3) := by decide +kernel
theorem dX5_more_20 : decode cX5_more 20 = .ok (.bipush 40, 2) := by decide +kernel
theorem dX5_more_22 : decode cX5_more 22 = .ok (.iaload, 1) := by decide +kernel
theorem dX5_more_23 : decode cX5_more 23 = .ok (.if_icmp .ge 27, 3) := by decide +kernel
theorem dX5_more_26 : decode cX5_more 26 = .ok (.aload_n 0, 1) := by decide +kernel
theorem dX5_more_27 : decode cX5_more 27 = .ok (.getfield 13, 3) := by decide +kernel
theorem dX5_more_30 : decode cX5_more 30 = .ok (.iconst 4, 1) := by decide +kernel
theorem dX5_more_31 : decode cX5_more 31 = .ok (.iload_n 2, 1) := by decide +kernel
theorem dX5_more_32 : decode cX5_more 32 = .ok (.imul, 1) := by decide +kernel
theorem dX5_more_33 : decode cX5_more 33 = .ok (.iconst 1, 1) := by decide +kernel
theorem dX5_more_34 : decode cX5_more 34 = .ok (.iadd, 1) := by decide +kernel
theorem dX5_more_35 : decode cX5_more 35 = .ok (.dup2, 1) := by decide +kernel
theorem dX5_more_36 : decode cX5_more 36 = .ok (.iaload, 1) := by decide +kernel
theorem dX5_more_37 : decode cX5_more 37 = .ok (.iconst 1, 1) := by decide +kernel
theorem dX5_more_38 : decode cX5_more 38 = .ok (.iload_n 1, 1) := by decide +kernel
theorem dX5_more_39 : decode cX5_more 39 = .ok (.ishl, 1) := by decide +kernel
theorem dX5_more_40 : decode cX5_more 40 = .ok (.iconst (-1), 1) := by decide +kernel
theorem dX5_more_41 : decode cX5_more 41 = .ok (.ixor, 1) := by decide +kernel
theorem dX5_more_42 : decode cX5_more 42 = .ok (.iand, 1) := by decide +kernel
theorem dX5_more_43 : decode cX5_more 43 = .ok (.iastore, 1) := by decide +kernel
theorem dX5_more_44 : decode cX5_more 44 = .ok (.iinc 2 1, 3) := by decide +kernel
theorem dX5_more_47 : decode cX5_more 47 = .ok (.goto (-32), 3) := by decide +kernel
theorem dX5_more_50 : decode cX5_more 50 = .ok (.aload_n 0, 1) := by decide +kernel
theorem dX5_more_51 : decode cX5_more 51 = .ok (.aload_n 0, 1) := by decide +kernel
theorem dX5_more_52 : decode cX5_more 52 = .ok (.getfield 13, 3) := by decide +kernel
theorem dX5_more_55 : decode cX5_more 55 = .ok (.invokevirtual 160, 3) := by decide +kernel
theorem dX5_more_58 : decode cX5_more 58 = .ok (.aload_n 0, 1) := by decide +kernel
theorem dX5_more_59 : decode cX5_more 59 = .ok (.aload_n 0, 1) := by decide +kernel
theorem dX5_more_60 : decode cX5_more 60 = .ok (.getfield 7, 3) := by decide +kernel
theorem dX5_more_63 : decode cX5_more 63 = .ok (.invokevirtual 160, 3) := by decide +kernel
theorem dX5_more_66 : decode cX5_more 66 = .ok (.isub, 1) := by decide +kernel
theorem dX5_more_67 : decode cX5_more 67 = .ok (.ireturn, 1) := by decide +kernel
set_option maxRecDepth 20000 in
theorem ggX5_tells_X5_isLetter : GoodIn wsX5_tells wsX5_isLetter := goodIn_r _ [5, 6, 7, 4, 8] (by decide +kernel) (by decide +kernel)
set_option maxRecDepth 20000 in
theorem gX5_tells_X5_isLetter : GoodIn wsX5_tells (va_wsS RX5 98 yX5_isLetter wsX5_isLetter) := goodIn_app (goodIn_of _ (by decide +kernel)) ggX5_tells_X5_isLetter
set_option maxRecDepth 20000 in
theorem ggX5_tells_X5_more : GoodIn wsX5_tells wsX5_more := goodIn_r _ [12, 13, 14, 15, 16, 4, 17, 18, 19, 20, 21, 22, 23, 24, 25, 26, 27, 28, 29, 30, 31, 32, 33, 34, 35, 36, 37, 38, 39, 40, 41, 42, 43, 44, 49, 50, 51, 52, 53, 54, 55, 56, 57, 58, 59, 60, 61, 62, 63] (by decide +kernel) (by decide +kernel)
set_option maxRecDepth 20000 in
theorem gX5_tells_X5_more : GoodIn wsX5_tells (wsV RX5 182 RX5 yX5_more wsX5_more) := goodIn_app (goodIn_of _ (by decide +kernel)) ggX5_tells_X5_more
set_option maxRecDepth 20000 in
theorem ggX5_tells_X5_fails : GoodIn wsX5_tells wsX5_fails := goodIn_r _ [48, 1, 49, 50, 51, 52, 53, 54, 55, 56, 57, 58, 59, 60, 61, 62, 63] (by decide +kernel) (by decide +kernel)
set_option maxRecDepth 20000 in
theorem gX5_tells_X5_fails : GoodIn wsX5_tells (wsV RX5 49 RX5 yX5_fails wsX5_fails) := goodIn_app (goodIn_of _ (by decide +kernel)) ggX5_tells_X5_fails
theorem dX5_tells_0 : decode cX5_tells 0 = .ok (.aload_n 0, 1) := by decide +kernel
theorem dX5_tells_1 : decode cX5_tells 1 = .ok (.iconst 0, 1) := by decide +kernel
theorem dX5_tells_2 : decode cX5_tells 2 = .ok (.putfield 38, 3) := by decide +kernel
theorem dX5_tells_5 : decode cX5_tells 5 = .ok (.iload_n 1, 1) := by decide +kernel
theorem dX5_tells_6 : decode cX5_tells 6 = .ok (.invokestatic 98, 3) := by decide +kernel
theorem dX5_tells_9 : decode cX5_tells 9 = .ok (.ifCond .eq 11, 3) := by decide +kernel
theorem dX5_tells_12 : decode cX5_tells 12 = .ok (.aload_n 0, 1) := by decide +kernel
theorem dX5_tells_13 : decode cX5_tells 13 = .ok (.iload_n 1, 1) := by decide +kernel
theorem dX5_tells_14 : decode cX5_tells 14 = .ok (.invokevirtual 182, 3) := by decide +kernel
theorem dX5_tells_17 : decode cX5_tells 17 = .ok (.goto 8, 3) := by decide +kernel
theorem dX5_tells_20 : decode cX5_tells 20 = .ok (.aload_n 0, 1) := by decide +kernel
theorem dX5_tells_21 : decode cX5_tells 21 = .ok (.iconst 1, 1) := by decide +kernel
theorem dX5_tells_22 : decode cX5_tells 22 = .ok (.invokevirtual 49, 3) := by decide +kernel
theorem dX5_tells_25 : decode cX5_tells 25 = .ok (.ireturn, 1) := by decide +kernel
set_option maxRecDepth 20000 in
theorem ggX5_byYear_X5_copies : GoodIn wsX5_byYear wsX5_copies := goodIn_r _ [6] (by decide +kernel) (by decide +kernel)
set_option maxRecDepth 20000 in
theorem gX5_byYear_X5_copies : GoodIn wsX5_byYear (va_wsS RX5 45 yX5_copies wsX5_copies) := goodIn_app (goodIn_of _ (by decide +kernel)) ggX5_byYear_X5_copies
set_option maxRecDepth 20000 in
theorem ggX5_byYear_X5_fits : GoodIn wsX5_byYear wsX5_fits := goodIn_r _ [10, 11, 12, 13, 14, 5, 15, 16, 17, 18, 19, 20, 21, 22, 23, 24, 25, 26, 27, 28, 29, 30, 31, 32, 33, 47, 48, 49, 50, 51, 52, 53, 54, 55, 56, 57, 58, 59, 60, 61] (by decide +kernel) (by decide +kernel)
set_option maxRecDepth 20000 in
theorem gX5_byYear_X5_fits : GoodIn wsX5_byYear (wsV RX5 160 RX5 yX5_fits wsX5_fits) := goodIn_app (goodIn_of _ (by decide +kernel)) ggX5_byYear_X5_fits
set_option maxRecDepth 20000 in
theorem ggX5_byYear_X5_dated : GoodIn wsX5_byYear wsX5_dated := goodIn_r _ [37, 38, 39, 40, 5, 41, 42, 20, 16, 17, 18, 19, 21, 22, 23, 24, 25, 26, 27, 28, 29, 43, 44, 45, 46, 47, 48, 49, 50, 51, 52, 53, 54, 55, 56, 57, 58, 59, 60, 61] (by decide +kernel) (by decide +kernel)
set_option maxRecDepth 20000 in
theorem gX5_byYear_X5_dated : GoodIn wsX5_byYear (wsV RX5 152 RX5 yX5_dated wsX5_dated) := goodIn_app (goodIn_of _ (by decide +kernel)) ggX5_byYear_X5_dated
theorem dX5_byYear_0 : decode cX5_byYear 0 = .ok (.aload_n 0, 1) := by decide +kernel
theorem dX5_byYear_1 : decode cX5_byYear 1 = .ok (.getfield 7, 3) := by decide +kernel
theorem dX5_byYear_4 : decode cX5_byYear 4 = .ok (.iconst 0, 1) := by decide +kernel
theorem dX5_byYear_5 : decode cX5_byYear 5 = .ok (.aload_n 0, 1) := by decide +kernel
theorem dX5_byYear_6 : decode cX5_byYear 6 = .ok (.getfield 13, 3) := by decide +kernel
theorem dX5_byYear_9 : decode cX5_byYear 9 = .ok (.iconst 0, 1) := by decide +kernel
theorem dX5_byYear_10 : decode cX5_byYear 10 = .ok (.invokestatic 45, 3) := by decide +kernel
theorem dX5_byYear_13 : decode cX5_byYear 13 = .ok (.aload_n 0, 1) := by decide +kernel
theorem dX5_byYear_14 : decode cX5_byYear 14 = .ok (.getfield 13, 3) := by decide +kernel
theorem dX5_byYear_17 : decode cX5_byYear 17 = .ok (.iconst 4, 1) := by decide +kernel
theorem dX5_byYear_18 : decode cX5_byYear 18 = .ok (.iload_n 1, 1) := by decide +kernel
theorem dX5_byYear_19 : decode cX5_byYear 19 = .ok (.imul, 1) := by decide +kernel
theorem dX5_byYear_20 : decode cX5_byYear 20 = .ok (.iconst 3, 1) := by decide +kernel
theorem dX5_byYear_21 : decode cX5_byYear 21 = .ok (.iadd, 1) := by decide +kernel
theorem dX5_byYear_22 : decode cX5_byYear 22 = .ok (.iload_n 2, 1) := by decide +kernel
theorem dX5_byYear_23 : decode cX5_byYear 23 = .ok (.iastore, 1) := by decide +kernel
theorem dX5_byYear_24 : decode cX5_byYear 24 = .ok (.iload_n 3, 1) := by decide +kernel
theorem dX5_byYear_25 : decode cX5_byYear 25 = .ok (.ifCond .ne 14, 3) := by decide +kernel
theorem dX5_byYear_28 : decode cX5_byYear 28 = .ok (.aload_n 0, 1) := by decide +kernel
theorem dX5_byYear_29 : decode cX5_byYear 29 = .ok (.aload_n 0, 1) := by decide +kernel
theorem dX5_byYear_30 : decode cX5_byYear 30 = .ok (.getfield 13, 3) := by decide +kernel
theorem dX5_byYear_33 : decode cX5_byYear 33 = .ok (.invokevirtual 160, 3) := by decide +kernel
theorem dX5_byYear_36 : decode cX5_byYear 36 = .ok (.goto 11, 3) := by decide +kernel
theorem dX5_byYear_39 : decode cX5_byYear 39 = .ok (.aload_n 0, 1) := by decide +kernel
theorem dX5_byYear_40 : decode cX5_byYear 40 = .ok (.aload_n 0, 1) := by decide +kernel
theorem dX5_byYear_41 : decode cX5_byYear 41 = .ok (.getfield 13, 3) := by decide +kernel
theorem dX5_byYear_44 : decode cX5_byYear 44 = .ok (.invokevirtual 152, 3) := by decide +kernel
theorem dX5_byYear_47 : decode cX5_byYear 47 = .ok (.ireturn, 1) := by decide +kernel
set_option maxRecDepth 20000 in
theorem ggX5_ifYear_X5_isBook : GoodIn wsX5_ifYear wsX5_isBook := goodIn_r _ [6, 7, 8, 9, 5, 10, 63, 64, 65, 66, 67, 68, 69, 70, 71, 72, 73, 74, 75, 76, 77] (by decide +kernel) (by decide +kernel)
set_option maxRecDepth 20000 in
theorem gX5_ifYear_X5_isBook : GoodIn wsX5_ifYear (wsV RX5 95 RX5 yX5_isBook wsX5_isBook) := goodIn_app (goodIn_of _ (by decide +kernel)) ggX5_ifYear_X5_isBook
set_option maxRecDepth 20000 in
theorem ggX5_ifYear_X5_fails : GoodIn wsX5_ifYear wsX5_fails := goodIn_r _ [14, 1, 63, 64, 65, 66, 67, 68, 69, 70, 71, 72, 73, 74, 75, 76, 77] (by decide +kernel) (by decide +kernel)
set_option maxRecDepth 20000 in
theorem gX5_ifYear_X5_fails : GoodIn wsX5_ifYear (wsV RX5 49 RX5 yX5_fails wsX5_fails) := goodIn_app (goodIn_of _ (by decide +kernel)) ggX5_ifYear_X5_fails
set_option maxRecDepth 20000 in
theorem ggX5_ifYear_X5_in : GoodIn wsX5_ifYear wsX5_in := goodIn_r _ [10] (by decide +kernel) (by decide +kernel)
set_option maxRecDepth 20000 in
theorem gX5_ifYear_X5_in : GoodIn wsX5_ifYear (va_wsS RX5 41 yX5_in wsX5_in) := goodIn_app (goodIn_of _ (by decide +kernel)) ggX5_ifYear_X5_in
set_option maxRecDepth 20000 in
theorem ggX5_ifYear_X5_byYear : GoodIn wsX5_ifYear wsX5_byYear := goodIn_r _ [18, 7, 19, 20, 21, 5, 22, 23, 24, 25, 26, 27, 28, 29, 30, 31, 32, 33, 34, 35, 36, 37, 38, 39, 40, 41, 42, 43, 44, 45, 46, 47, 48, 49, 50, 51, 52, 53, 54, 55, 56, 57, 58, 59, 60, 61, 62, 63, 64, 65, 66, 67, 68, 69, 70, 71, 72, 73, 74, 75, 76, 77] (by decide +kernel) (by decide +kernel)
set_option maxRecDepth 20000 in
theorem gX5_ifYear_X5_byYear : GoodIn wsX5_ifYear (wsV RX5 185 RX5 yX5_byYear wsX5_byYear) := goodIn_app (goodIn_of _ (by decide +kernel)) ggX5_ifYear_X5_byYear
theorem dX5_ifYear_0 : decode cX5_ifYear 0 = .ok (.aload_n 0, 1) := by decide +kernel
theorem dX5_ifYear_1 : decode cX5_ifYear 1 = .ok (.iconst 0, 1) := by decide +kernel
theorem dX5_ifYear_2 : decode cX5_ifYear 2 = .ok (.putfield 38, 3) := by decide +kernel
theorem dX5_ifYear_5 : decode cX5_ifYear 5 = .ok (.aload_n 0, 1) := by decide +kernel
theorem dX5_ifYear_6 : decode cX5_ifYear 6 = .ok (.iload_n 1, 1) := by decide +kernel
theorem dX5_ifYear_7 : decode cX5_ifYear 7 = .ok (.invokevirtual 95, 3) := by decide +kernel
theorem dX5_ifYear_10 : decode cX5_ifYear 10 = .ok (.ifCond .ne 9, 3) := by decide +kernel
theorem dX5_ifYear_13 : decode cX5_ifYear 13 = .ok (.aload_n 0, 1) := by decide +kernel
theorem dX5_ifYear_14 : decode cX5_ifYear 14 = .ok (.iconst 1, 1) := by decide +kernel
theorem dX5_ifYear_15 : decode cX5_ifYear 15 = .ok (.invokevirtual 49, 3) := by decide +kernel
theorem dX5_ifYear_18 : decode cX5_ifYear 18 = .ok (.ireturn, 1) := by decide +kernel
theorem dX5_ifYear_19 : decode cX5_ifYear 19 = .ok (.iload_n 2, 1) := by decide +kernel
theorem dX5_ifYear_20 : decode cX5_ifYear 20 = .ok (.sipush 1450, 3) := by decide +kernel
theorem dX5_ifYear_23 : decode cX5_ifYear 23 = .ok (.sipush 1999, 3) := by decide +kernel
theorem dX5_ifYear_26 : decode cX5_ifYear 26 = .ok (.invokestatic 41, 3) := by decide +kernel
theorem dX5_ifYear_29 : decode cX5_ifYear 29 = .ok (.ifCond .eq 22, 3) := by decide +kernel
theorem dX5_ifYear_32 : decode cX5_ifYear 32 = .ok (.iload_n 3, 1) := by decide +kernel
theorem dX5_ifYear_33 : decode cX5_ifYear 33 = .ok (.iconst 0, 1) := by decide +kernel
theorem dX5_ifYear_34 : decode cX5_ifYear 34 = .ok (.iconst 1, 1) := by decide +kernel
theorem dX5_ifYear_35 : decode cX5_ifYear 35 = .ok (.invokestatic 41, 3) := by decide +kernel
theorem dX5_ifYear_38 : decode cX5_ifYear 38 = .ok (.ifCond .eq 13, 3) := by decide +kernel
theorem dX5_ifYear_41 : decode cX5_ifYear 41 = .ok (.aload_n 0, 1) := by decide +kernel
theorem dX5_ifYear_42 : decode cX5_ifYear 42 = .ok (.iload_n 1, 1) := by decide +kernel
theorem dX5_ifYear_43 : decode cX5_ifYear 43 = .ok (.iload_n 2, 1) := by decide +kernel
theorem dX5_ifYear_44 : decode cX5_ifYear 44 = .ok (.iload_n 3, 1) := by decide +kernel
theorem dX5_ifYear_45 : decode cX5_ifYear 45 = .ok (.invokevirtual 185, 3) := by decide +kernel
theorem dX5_ifYear_48 : decode cX5_ifYear 48 = .ok (.goto 8, 3) := by decide +kernel
theorem dX5_ifYear_51 : decode cX5_ifYear 51 = .ok (.aload_n 0, 1) := by decide +kernel
theorem dX5_ifYear_52 : decode cX5_ifYear 52 = .ok (.iconst 2, 1) := by decide +kernel
theorem dX5_ifYear_53 : decode cX5_ifYear 53 = .ok (.invokevirtual 49, 3) := by decide +kernel
theorem dX5_ifYear_56 : decode cX5_ifYear 56 = .ok (.ireturn, 1) := by decide +kernel
set_option maxRecDepth 20000 in
theorem ggX5_share_X5_dated : GoodIn wsX5_share wsX5_dated := goodIn_r _ [6, 7, 8, 9, 5, 10, 11, 12, 13, 14, 15, 16, 17, 18, 19, 20, 21, 22, 23, 24, 25, 26, 27, 28, 29, 30, 31, 32, 33, 34, 35, 36, 37, 38, 39, 40, 41, 42, 43, 44] (by decide +kernel) (by decide +kernel)
set_option maxRecDepth 20000 in
theorem gX5_share_X5_dated : GoodIn wsX5_share (wsV RX5 152 RX5 yX5_dated wsX5_dated) := goodIn_app (goodIn_of _ (by decide +kernel)) ggX5_share_X5_dated
theorem dX5_share_0 : decode cX5_share 0 = .ok (.aload_n 0, 1) := by decide +kernel
theorem dX5_share_1 : decode cX5_share 1 = .ok (.getfield 7, 3) := by decide +kernel
theorem dX5_share_4 : decode cX5_share 4 = .ok (.bipush 40, 2) := by decide +kernel
theorem dX5_share_6 : decode cX5_share 6 = .ok (.iaload, 1) := by decide +kernel
theorem dX5_share_7 : decode cX5_share 7 = .ok (.ifCond .ne 7, 3) := by decide +kernel
theorem dX5_share_10 : decode cX5_share 10 = .ok (.dconst 1, 1) := by decide +kernel
theorem dX5_share_11 : decode cX5_share 11 = .ok (.goto 21, 3) := by decide +kernel
theorem dX5_share_14 : decode cX5_share 14 = .ok (.aload_n 0, 1) := by decide +kernel
theorem dX5_share_15 : decode cX5_share 15 = .ok (.aload_n 0, 1) := by decide +kernel
theorem dX5_share_16 : decode cX5_share 16 = .ok (.getfield 7, 3) := by decide +kernel
theorem dX5_share_19 : decode cX5_share 19 = .ok (.invokevirtual 152, 3) := by decide +kernel
theorem dX5_share_22 : decode cX5_share 22 = .ok (.i2d, 1) := by decide +kernel
theorem dX5_share_23 : decode cX5_share 23 = .ok (.aload_n 0, 1) := by decide +kernel
theorem dX5_share_24 : decode cX5_share 24 = .ok (.getfield 7, 3) := by decide +kernel
theorem dX5_share_27 : decode cX5_share 27 = .ok (.bipush 40, 2) := by decide +kernel
theorem dX5_share_29 : decode cX5_share 29 = .ok (.iaload, 1) := by decide +kernel
theorem dX5_share_30 : decode cX5_share 30 = .ok (.i2d, 1) := by decide +kernel
theorem dX5_share_31 : decode cX5_share 31 = .ok (.ddiv, 1) := by decide +kernel
theorem dX5_share_32 : decode cX5_share 32 = .ok (.dreturn, 1) := by decide +kernel
set_option maxRecDepth 20000 in
theorem ggX5_datedShare_X5_share : GoodIn wsX5_datedShare wsX5_share := goodIn_r _ [6, 7, 8, 9, 10, 5, 11, 12, 13, 14, 15, 16, 17, 18, 19, 20, 21, 22, 23, 24, 25, 26, 27, 28, 29, 30, 31, 32, 33, 34, 35, 36, 37, 38, 39, 40, 41, 42, 43, 44, 45, 46, 47, 48, 49] (by decide +kernel) (by decide +kernel)
set_option maxRecDepth 20000 in
theorem gX5_datedShare_X5_share : GoodIn wsX5_datedShare (wsV RX5 189 RX5 yX5_share wsX5_share) := goodIn_app (goodIn_of _ (by decide +kernel)) ggX5_datedShare_X5_share
theorem dX5_datedShare_0 : decode cX5_datedShare 0 = .ok (.aload_n 0, 1) := by decide +kernel
theorem dX5_datedShare_1 : decode cX5_datedShare 1 = .ok (.iconst 0, 1) := by decide +kernel
theorem dX5_datedShare_2 : decode cX5_datedShare 2 = .ok (.putfield 38, 3) := by decide +kernel
theorem dX5_datedShare_5 : decode cX5_datedShare 5 = .ok (.aload_n 0, 1) := by decide +kernel
theorem dX5_datedShare_6 : decode cX5_datedShare 6 = .ok (.invokevirtual 189, 3) := by decide +kernel
theorem dX5_datedShare_9 : decode cX5_datedShare 9 = .ok (.dreturn, 1) := by decide +kernel
def f_X5_more (p1 : Int32) (f1 : Nat → Int32) (f2 : Nat → Int32) (f3 : Nat → Int32) (f4 : Nat → Int32) : Option (Int32 × (Nat → Int32) × (Nat → Int32) × (Nat → Int32)) := (f_X5_copies 0 0 41 f1 41 f2).bind (u1 fun (o2 : Nat → Int32) => (wl (u2 fun (l2_3 : Int32) (w4 : Nat → Int32) => (rdA w4 41 40).bind (fun v6 => (if v6 ≤ l2_3 then some (Sum.inr w4) else (rdA w4 41 (((4 : Int32) * l2_3) + 1)).bind (fun v7 => (wrA w4 41 (((4 : Int32) * l2_3) + 1) (v7 &&& (((1 : Int32) <<< (p1 &&& 31)) ^^^ (-1)))).bind (fun g8 => some (Sum.inl ((l2_3 + 1), g8))))))) 9999 (0, o2)).bind (u1 fun (w5 : Nat → Int32) => (f_X5_fits f3 f4 41 w5).bind (u3 fun (r9 : Int32) (o10 : Nat → Int32) (o11 : Nat → Int32) => (f_X5_fits o10 o11 41 f1).bind (u3 fun (r12 : Int32) (o13 : Nat → Int32) (o14 : Nat → Int32) => some ((r9 - r12), w5, o13, o14)))))
theorem in_X5_more_X5 : ∀ w ∈ wsX50, w ∈ wsX5_more := by decide +kernel
theorem fl_X5_more_7 : Cond.fieldLink RX5 7 "ColophonHuntModel" "now" "[I" ∈ wsX5_more := by decide +kernel
theorem fl_X5_more_13 : Cond.fieldLink RX5 13 "ColophonHuntModel" "then" "[I" ∈ wsX5_more := by decide +kernel
theorem hd_X5_more : yX5_more.cls = RX5 ∧ yX5_more.cls ≠ "java/lang/invoke/MethodHandle" ∧ yX5_more.cls ≠ "java/lang/invoke/VarHandle" ∧ (parseMethodDescriptor yX5_more.desc).map (fun d => d.parameters.length) = some 1 := by decide +kernel
set_option maxRecDepth 100000 in
set_option maxHeartbeats 4000000 in
theorem c_X5_more (l : Launch) (D : va_G) (cI cS cL : ClassId) (a0 : Nat) (a1 : Nat) (a2 : Nat) (a3 : Nat) (a4 : Nat) (b0_2 : Nat) (b0_4 : Nat) (b0_10 : Nat) (b0_14 : Nat) (p1 : Int32) (x0_kept : Int32) (x0_typed : Int32) (x0_thrown : Int32) (x0_at : Int32) (x0_isFault : Int32) (x0_value : Int32) (x0_tolds : Int32) (f1 : Nat → Int32) (f2 : Nat → Int32) (f3 : Nat → Int32) (f4 : Nat → Int32) (rr : Int32) (y0 : Nat → Int32) (y1 : Nat → Int32) (y2 : Nat → Int32) (hc : f_X5_more p1 f1 f2 f3 f4 = some (rr, y0, y1, y2)) : KM l yX5_more wsX5_more { frames := 5, cells := 0, slots := 0, locals := 114 } D (tyS cI cS cL) [.ref a0, .int p1] [(a0, .inr (5, [.ref a1, .ref a2, .ref b0_2, .int x0_kept, .ref b0_4, .int x0_typed, .int x0_thrown, .int x0_at, .int x0_isFault, .int x0_value, .ref b0_10, .int x0_tolds, .ref a3, .ref a4, .ref b0_14])), (a1, .inl (cI, 41, .inl f1)), (a2, .inl (cI, 41, .inl f2)), (a3, .inl (cI, 10, .inl f3)), (a4, .inl (cI, 1024, .inl f4))] (some (.int rr)) (fun w => w = [(a0, .inr (5, [.ref a1, .ref a2, .ref b0_2, .int x0_kept, .ref b0_4, .int x0_typed, .int x0_thrown, .int x0_at, .int x0_isFault, .int x0_value, .ref b0_10, .int x0_tolds, .ref a3, .ref a4, .ref b0_14])), (a1, .inl (cI, 41, .inl f1)), (a2, .inl (cI, 41, .inl y0)), (a3, .inl (cI, 10, .inl y1)), (a4, .inl (cI, 1024, .inl y2))]) 0 0 := by
  refine g_entry (cc := cX5_more) (nL := 3) (rt := (some .int)) (by decide) rfl (Nat.le_of_ble_eq_true rfl) ?_
  intro p e s m args below meth c A (X : GC p s m args c cX5_more 3 RX5 wsX5_more D (tyS cI cS cL) A) hr hlk _ _
  have h := hc
  unfold f_X5_more at h
  refine g_lv (lv' := [(0, .ref a0), (1, .int p1)]) [0, 1] rfl ?_
  refine g_aload_n X (j := 0) dX5_more_0 rfl ?_
  refine g_get (q0 := 0) (k := 0) (ci := 5) X in_X5_more_X5 fl_X5_more_7 rfl rfl (Nat.le_of_ble_eq_true rfl) rfl dX5_more_1 ?_
  refine g_iconst (v := 0) X dX5_more_4 (by decide) ?_
  refine g_aload_n X (j := 0) dX5_more_5 rfl ?_
  refine g_get (q0 := 0) (k := 1) (ci := 5) X in_X5_more_X5 fl_X5_more_13 rfl rfl (Nat.le_of_ble_eq_true rfl) rfl dX5_more_6 ?_
  refine g_iconst (v := 0) X dX5_more_9 (by decide) ?_
  obtain ⟨o2, hc, h⟩ := bd1 h
  refine g_callS (is := [1, 2]) (As := [.ref a1, .int 0, .ref a2, .int 0]) (ws' := [(a0, .inr (5, [.ref a1, .ref a2, .ref b0_2, .int x0_kept, .ref b0_4, .int x0_typed, .int x0_thrown, .int x0_at, .int x0_isFault, .int x0_value, .ref b0_10, .int x0_tolds, .ref a3, .ref a4, .ref b0_14])), (a1, .inl (cI, 41, .inl f1)), (a2, .inl (cI, 41, .inl o2)), (a3, .inl (cI, 10, .inl f3)), (a4, .inl (cI, 1024, .inl f4))]) (st := []) X (c_X5_copies l D cI cS cL a1 a2 0 0 41 f1 41 f2 o2 hc) gX5_more_X5_copies rfl ⟨rfl, rfl⟩ hd_X5_copies.2 ⟨Nat.le_of_ble_eq_true rfl, Nat.le_of_ble_eq_true rfl⟩ ⟨Nat.zero_le _, Nat.zero_le _⟩ rfl rfl rfl rfl rfl (Nat.le_of_ble_eq_true rfl) rfl dX5_more_10 ?_
  refine g_iconst (v := 0) X dX5_more_13 (by decide) ?_
  refine g_istore_n (lv' := [(2, .int 0), (0, .ref a0), (1, .int p1)]) X dX5_more_14 rfl (by decide) rfl ?_
  refine g_lv (lv' := [(0, .ref a0), (1, .int p1), (2, .int 0)]) [1, 2, 0] rfl ?_
  refine wl_g1 h (u2 fun l2_3 w4 => [(a0, .inr (5, [.ref a1, .ref a2, .ref b0_2, .int x0_kept, .ref b0_4, .int x0_typed, .int x0_thrown, .int x0_at, .int x0_isFault, .int x0_value, .ref b0_10, .int x0_tolds, .ref a3, .ref a4, .ref b0_14])), (a1, .inl (cI, 41, .inl f1)), (a2, .inl (cI, 41, .inl w4)), (a3, .inl (cI, 10, .inl f3)), (a4, .inl (cI, 1024, .inl f4))]) (u2 fun l2_3 w4 => [(0, .ref a0), (1, .int p1), (2, .int l2_3)]) rfl rfl (u1 fun w5 => [(a0, .inr (5, [.ref a1, .ref a2, .ref b0_2, .int x0_kept, .ref b0_4, .int x0_typed, .int x0_thrown, .int x0_at, .int x0_isFault, .int x0_value, .ref b0_10, .int x0_tolds, .ref a3, .ref a4, .ref b0_14])), (a1, .inl (cI, 41, .inl f1)), (a2, .inl (cI, 41, .inl w5)), (a3, .inl (cI, 10, .inl f3)), (a4, .inl (cI, 1024, .inl f4))]) (u1 fun w5 => [(0, .ref a0)]) 50 ?_ ?_
  · rintro w5 h
    dsimp only [u1] at h ⊢
    refine g_aload_n X (j := 0) dX5_more_50 rfl ?_
    refine g_aload_n X (j := 0) dX5_more_51 rfl ?_
    refine g_get (q0 := 0) (k := 1) (ci := 5) X in_X5_more_X5 fl_X5_more_13 rfl rfl (Nat.le_of_ble_eq_true rfl) rfl dX5_more_52 ?_
    obtain ⟨r9, o10, o11, hc, h⟩ := bd3 h
    refine g_callV (q0 := 0) (ci := 5) (is := [0, 3, 4, 2]) (As := [.ref a2]) (ws' := [(a0, .inr (5, [.ref a1, .ref a2, .ref b0_2, .int x0_kept, .ref b0_4, .int x0_typed, .int x0_thrown, .int x0_at, .int x0_isFault, .int x0_value, .ref b0_10, .int x0_tolds, .ref a3, .ref a4, .ref b0_14])), (a1, .inl (cI, 41, .inl f1)), (a2, .inl (cI, 41, .inl w5)), (a3, .inl (cI, 10, .inl o10)), (a4, .inl (cI, 1024, .inl o11))]) (st := []) X (c_X5_fits l D cI cS cL a0 a3 a4 a2 a1 a2 b0_2 b0_4 b0_10 b0_14 x0_kept x0_typed x0_thrown x0_at x0_isFault x0_value x0_tolds f3 f4 41 w5 r9 o10 o11 hc) gX5_more_X5_fits rfl ⟨rfl, rfl⟩ hd_X5_fits ⟨Nat.le_of_ble_eq_true rfl, Nat.le_of_ble_eq_true rfl⟩ ⟨Nat.zero_le _, Nat.zero_le _⟩ rfl rfl rfl rfl rfl rfl rfl (Nat.le_of_ble_eq_true rfl) rfl dX5_more_55 ?_
    refine g_aload_n X (j := 0) dX5_more_58 rfl ?_
    refine g_aload_n X (j := 0) dX5_more_59 rfl ?_
    refine g_get (q0 := 0) (k := 0) (ci := 5) X in_X5_more_X5 fl_X5_more_7 rfl rfl (Nat.le_of_ble_eq_true rfl) rfl dX5_more_60 ?_
    obtain ⟨r12, o13, o14, hc, h⟩ := bd3 h
    refine g_callV (q0 := 0) (ci := 5) (is := [0, 3, 4, 1]) (As := [.ref a1]) (ws' := [(a0, .inr (5, [.ref a1, .ref a2, .ref b0_2, .int x0_kept, .ref b0_4, .int x0_typed, .int x0_thrown, .int x0_at, .int x0_isFault, .int x0_value, .ref b0_10, .int x0_tolds, .ref a3, .ref a4, .ref b0_14])), (a1, .inl (cI, 41, .inl f1)), (a2, .inl (cI, 41, .inl w5)), (a3, .inl (cI, 10, .inl o13)), (a4, .inl (cI, 1024, .inl o14))]) (st := [.int r9]) X (c_X5_fits l D cI cS cL a0 a3 a4 a1 a1 a2 b0_2 b0_4 b0_10 b0_14 x0_kept x0_typed x0_thrown x0_at x0_isFault x0_value x0_tolds o10 o11 41 f1 r12 o13 o14 hc) gX5_more_X5_fits rfl ⟨rfl, rfl⟩ hd_X5_fits ⟨Nat.le_of_ble_eq_true rfl, Nat.le_of_ble_eq_true rfl⟩ ⟨Nat.zero_le _, Nat.zero_le _⟩ rfl rfl rfl rfl rfl rfl rfl (Nat.le_of_ble_eq_true rfl) rfl dX5_more_63 ?_
    refine g_isub X dX5_more_66 ?_
    have h := Option.some.inj h
    simp only [Prod.mk.injEq] at h
    obtain ⟨rfl, rfl, rfl, rfl⟩ := h
    exact g_iret X hr hlk dX5_more_67 rfl rfl
  · rintro ⟨l2_3, w4⟩ o h hI hE
    dsimp only [u2] at h ⊢
    refine g_iload_n X (j := 2) dX5_more_15 rfl ?_
    refine g_aload_n X (j := 0) dX5_more_16 rfl ?_
    refine g_get (q0 := 0) (k := 1) (ci := 5) X in_X5_more_X5 fl_X5_more_13 rfl rfl (Nat.le_of_ble_eq_true rfl) rfl dX5_more_17 ?_
    refine g_bipush (v := 40) X dX5_more_20 (by decide) ?_
    refine g_iald (q0 := 2) (t0 := 0) X h rfl rfl dX5_more_22 (fun v6 h => ?_)
    refine g_icmp_ge (tgt := 50) X h dX5_more_23 (by decide) (fun h => ?_) (fun h => ?_)
    · refine g_lv (lv' := [(0, .ref a0)]) [0] rfl ?_
      exact hE w4 (Option.some.inj h).symm
    · refine g_aload_n X (j := 0) dX5_more_26 rfl ?_
      refine g_get (q0 := 0) (k := 1) (ci := 5) X in_X5_more_X5 fl_X5_more_13 rfl rfl (Nat.le_of_ble_eq_true rfl) rfl dX5_more_27 ?_
      refine g_iconst (v := 4) X dX5_more_30 (by decide) ?_
      refine g_iload_n X (j := 2) dX5_more_31 rfl ?_
      refine g_imul X dX5_more_32 ?_
      refine g_iconst (v := 1) X dX5_more_33 (by decide) ?_
      refine g_iadd X dX5_more_34 ?_
      refine g_dup2 X dX5_more_35 rfl rfl ?_
      refine g_iald (q0 := 2) (t0 := 0) X h rfl rfl dX5_more_36 (fun v7 h => ?_)
      refine g_iconst (v := 1) X dX5_more_37 (by decide) ?_
      refine g_iload_n X (j := 1) dX5_more_38 rfl ?_
      refine g_ishl X dX5_more_39 ?_
      refine g_iconst (v := (-1)) X dX5_more_40 (by decide) ?_
      refine g_ixor X dX5_more_41 ?_
      refine g_iand X dX5_more_42 ?_
      refine g_iast (q0 := 2) (t0 := 0) (ws1 := fun g8 => [(a0, .inr (5, [.ref a1, .ref a2, .ref b0_2, .int x0_kept, .ref b0_4, .int x0_typed, .int x0_thrown, .int x0_at, .int x0_isFault, .int x0_value, .ref b0_10, .int x0_tolds, .ref a3, .ref a4, .ref b0_14])), (a1, .inl (cI, 41, .inl f1)), (a2, .inl (cI, 41, .inl g8)), (a3, .inl (cI, 10, .inl f3)), (a4, .inl (cI, 1024, .inl f4))]) X h rfl rfl dX5_more_43 (fun _ => rfl) (fun g8 h => ?_)
      refine g_iinc (j := 2) (lv' := [(2, .int (l2_3 + 1)), (0, .ref a0), (1, .int p1)]) X (l2_3 + 1) dX5_more_44 rfl rfl (by decide) rfl ?_
      refine g_goto (tgt := 15) X dX5_more_47 (by decide) ?_
      refine g_lv (lv' := [(0, .ref a0), (1, .int p1), (2, .int (l2_3 + 1))]) [1, 2, 0] rfl ?_
      exact hI ((l2_3 + 1), g8) (Option.some.inj h).symm
def f_X5_tells (p1 : Int32) (x0_thrown : Int32) (f1 : Nat → Int32) (f2 : Nat → Int32) (f3 : Nat → Int32) (f4 : Nat → Int32) : Option (Int32 × Int32 × (Nat → Int32) × (Nat → Int32) × (Nat → Int32)) := (f_X5_isLetter p1).bind (u1 fun (r1 : Int32) => (jn (u5 fun (w2 : Int32) (w3 : Nat → Int32) (w4 : Nat → Int32) (w5 : Nat → Int32) (s6 : Int32) => some (s6, w2, w3, w4, w5)) (fun K7 => (if r1 = 0 then (f_X5_fails 1 0).bind (u2 fun (r8 : Int32) (o9 : Int32) => K7 (o9, f2, f3, f4, r8)) else (f_X5_more p1 f1 f2 f3 f4).bind (u4 fun (r10 : Int32) (o11 : Nat → Int32) (o12 : Nat → Int32) (o13 : Nat → Int32) => K7 (0, o11, o12, o13, r10))))))
theorem in_X5_tells_X5 : ∀ w ∈ wsX50, w ∈ wsX5_tells := by decide +kernel
theorem fl_X5_tells_38 : Cond.fieldLink RX5 38 "ColophonHuntModel" "thrown" "I" ∈ wsX5_tells := by decide +kernel
theorem hd_X5_tells : yX5_tells.cls = RX5 ∧ yX5_tells.cls ≠ "java/lang/invoke/MethodHandle" ∧ yX5_tells.cls ≠ "java/lang/invoke/VarHandle" ∧ (parseMethodDescriptor yX5_tells.desc).map (fun d => d.parameters.length) = some 1 := by decide +kernel
set_option maxRecDepth 100000 in
set_option maxHeartbeats 4000000 in
theorem c_X5_tells (l : Launch) (D : va_G) (cI cS cL : ClassId) (a0 : Nat) (a1 : Nat) (a2 : Nat) (a3 : Nat) (a4 : Nat) (b0_2 : Nat) (b0_4 : Nat) (b0_10 : Nat) (b0_14 : Nat) (p1 : Int32) (x0_kept : Int32) (x0_typed : Int32) (x0_thrown : Int32) (x0_at : Int32) (x0_isFault : Int32) (x0_value : Int32) (x0_tolds : Int32) (f1 : Nat → Int32) (f2 : Nat → Int32) (f3 : Nat → Int32) (f4 : Nat → Int32) (rr : Int32) (y0 : Int32) (y1 : Nat → Int32) (y2 : Nat → Int32) (y3 : Nat → Int32) (hc : f_X5_tells p1 x0_thrown f1 f2 f3 f4 = some (rr, y0, y1, y2, y3)) : KM l yX5_tells wsX5_tells { frames := 6, cells := 0, slots := 0, locals := 136 } D (tyS cI cS cL) [.ref a0, .int p1] [(a0, .inr (5, [.ref a1, .ref a2, .ref b0_2, .int x0_kept, .ref b0_4, .int x0_typed, .int x0_thrown, .int x0_at, .int x0_isFault, .int x0_value, .ref b0_10, .int x0_tolds, .ref a3, .ref a4, .ref b0_14])), (a1, .inl (cI, 41, .inl f1)), (a2, .inl (cI, 41, .inl f2)), (a3, .inl (cI, 10, .inl f3)), (a4, .inl (cI, 1024, .inl f4))] (some (.int rr)) (fun w => w = [(a0, .inr (5, [.ref a1, .ref a2, .ref b0_2, .int x0_kept, .ref b0_4, .int x0_typed, .int y0, .int x0_at, .int x0_isFault, .int x0_value, .ref b0_10, .int x0_tolds, .ref a3, .ref a4, .ref b0_14])), (a1, .inl (cI, 41, .inl f1)), (a2, .inl (cI, 41, .inl y1)), (a3, .inl (cI, 10, .inl y2)), (a4, .inl (cI, 1024, .inl y3))]) 0 0 := by
  refine g_entry (cc := cX5_tells) (nL := 2) (rt := (some .int)) (by decide) rfl (Nat.le_of_ble_eq_true rfl) ?_
  intro p e s m args below meth c A (X : GC p s m args c cX5_tells 2 RX5 wsX5_tells D (tyS cI cS cL) A) hr hlk _ _
  have h := hc
  unfold f_X5_tells at h
  refine g_lv (lv' := [(0, .ref a0), (1, .int p1)]) [0, 1] rfl ?_
  refine g_aload_n X (j := 0) dX5_tells_0 rfl ?_
  refine g_iconst (v := 0) X dX5_tells_1 (by decide) ?_
  refine g_put (q0 := 0) (k := 6) (ci := 5) (ws' := [(a0, .inr (5, [.ref a1, .ref a2, .ref b0_2, .int x0_kept, .ref b0_4, .int x0_typed, .int 0, .int x0_at, .int x0_isFault, .int x0_value, .ref b0_10, .int x0_tolds, .ref a3, .ref a4, .ref b0_14])), (a1, .inl (cI, 41, .inl f1)), (a2, .inl (cI, 41, .inl f2)), (a3, .inl (cI, 10, .inl f3)), (a4, .inl (cI, 1024, .inl f4))]) X tyX5_ok nmX5 in_X5_tells_X5 fl_X5_tells_38 rfl rfl (Nat.le_of_ble_eq_true rfl) rfl rfl rfl (Nat.le_of_ble_eq_true rfl) dX5_tells_2 rfl ?_
  refine g_iload_n X (j := 1) dX5_tells_5 rfl ?_
  obtain ⟨r1, hc, h⟩ := bd1 h
  refine g_callS (is := []) (As := [.int p1]) (ws' := [(a0, .inr (5, [.ref a1, .ref a2, .ref b0_2, .int x0_kept, .ref b0_4, .int x0_typed, .int 0, .int x0_at, .int x0_isFault, .int x0_value, .ref b0_10, .int x0_tolds, .ref a3, .ref a4, .ref b0_14])), (a1, .inl (cI, 41, .inl f1)), (a2, .inl (cI, 41, .inl f2)), (a3, .inl (cI, 10, .inl f3)), (a4, .inl (cI, 1024, .inl f4))]) (st := []) X (c_X5_isLetter l D cI cS cL p1 r1 hc) gX5_tells_X5_isLetter rfl ⟨rfl, rfl⟩ hd_X5_isLetter.2 ⟨Nat.le_of_ble_eq_true rfl, Nat.le_of_ble_eq_true rfl⟩ ⟨Nat.zero_le _, Nat.zero_le _⟩ rfl rfl rfl rfl rfl (Nat.le_of_ble_eq_true rfl) rfl dX5_tells_6 ?_
  refine jn_g h (u5 fun w2 w3 w4 w5 s6 => [(a0, .inr (5, [.ref a1, .ref a2, .ref b0_2, .int x0_kept, .ref b0_4, .int x0_typed, .int w2, .int x0_at, .int x0_isFault, .int x0_value, .ref b0_10, .int x0_tolds, .ref a3, .ref a4, .ref b0_14])), (a1, .inl (cI, 41, .inl f1)), (a2, .inl (cI, 41, .inl w3)), (a3, .inl (cI, 10, .inl w4)), (a4, .inl (cI, 1024, .inl w5))]) (u5 fun w2 w3 w4 w5 s6 => []) (u5 fun w2 w3 w4 w5 s6 => [.int s6]) 25 ?_ ?_
  · rintro ⟨w2, w3, w4, w5, s6⟩ h
    dsimp only [u5] at h ⊢
    have h := Option.some.inj h
    simp only [Prod.mk.injEq] at h
    obtain ⟨rfl, rfl, rfl, rfl, rfl⟩ := h
    exact g_iret X hr hlk dX5_tells_25 rfl rfl
  · intro K7 hK7 h
    refine g_if_eq (tgt := 20) X h dX5_tells_9 (by decide) (fun h => ?_) (fun h => ?_)
    · refine g_aload_n X (j := 0) dX5_tells_20 rfl ?_
      refine g_iconst (v := 1) X dX5_tells_21 (by decide) ?_
      obtain ⟨r8, o9, hc, h⟩ := bd2 h
      refine g_callV (q0 := 0) (ci := 5) (is := [0]) (As := [.int 1]) (ws' := [(a0, .inr (5, [.ref a1, .ref a2, .ref b0_2, .int x0_kept, .ref b0_4, .int x0_typed, .int o9, .int x0_at, .int x0_isFault, .int x0_value, .ref b0_10, .int x0_tolds, .ref a3, .ref a4, .ref b0_14])), (a1, .inl (cI, 41, .inl f1)), (a2, .inl (cI, 41, .inl f2)), (a3, .inl (cI, 10, .inl f3)), (a4, .inl (cI, 1024, .inl f4))]) (st := []) X (c_X5_fails l D cI cS cL a0 a1 a2 b0_2 b0_4 b0_10 a3 a4 b0_14 1 x0_kept x0_typed 0 x0_at x0_isFault x0_value x0_tolds r8 o9 hc) gX5_tells_X5_fails rfl ⟨rfl, rfl⟩ hd_X5_fails ⟨Nat.le_of_ble_eq_true rfl, Nat.le_of_ble_eq_true rfl⟩ ⟨Nat.zero_le _, Nat.zero_le _⟩ rfl rfl rfl rfl rfl rfl rfl (Nat.le_of_ble_eq_true rfl) rfl dX5_tells_22 ?_
      refine g_lv (lv' := []) [] rfl ?_
      exact hK7 (o9, f2, f3, f4, r8) h
    · refine g_aload_n X (j := 0) dX5_tells_12 rfl ?_
      refine g_iload_n X (j := 1) dX5_tells_13 rfl ?_
      obtain ⟨r10, o11, o12, o13, hc, h⟩ := bd4 h
      refine g_callV (q0 := 0) (ci := 5) (is := [0, 1, 2, 3, 4]) (As := [.int p1]) (ws' := [(a0, .inr (5, [.ref a1, .ref a2, .ref b0_2, .int x0_kept, .ref b0_4, .int x0_typed, .int 0, .int x0_at, .int x0_isFault, .int x0_value, .ref b0_10, .int x0_tolds, .ref a3, .ref a4, .ref b0_14])), (a1, .inl (cI, 41, .inl f1)), (a2, .inl (cI, 41, .inl o11)), (a3, .inl (cI, 10, .inl o12)), (a4, .inl (cI, 1024, .inl o13))]) (st := []) X (c_X5_more l D cI cS cL a0 a1 a2 a3 a4 b0_2 b0_4 b0_10 b0_14 p1 x0_kept x0_typed 0 x0_at x0_isFault x0_value x0_tolds f1 f2 f3 f4 r10 o11 o12 o13 hc) gX5_tells_X5_more rfl ⟨rfl, rfl⟩ hd_X5_more ⟨Nat.le_of_ble_eq_true rfl, Nat.le_of_ble_eq_true rfl⟩ ⟨Nat.zero_le _, Nat.zero_le _⟩ rfl rfl rfl rfl rfl rfl rfl (Nat.le_of_ble_eq_true rfl) rfl dX5_tells_14 ?_
      refine g_goto (tgt := 25) X dX5_tells_17 (by decide) ?_
      refine g_lv (lv' := []) [] rfl ?_
      exact hK7 (0, o11, o12, o13, r10) h
def f_X5_byYear (p1 : Int32) (p2 : Int32) (p3 : Int32) (f1 : Nat → Int32) (f2 : Nat → Int32) (f3 : Nat → Int32) (f4 : Nat → Int32) (f5 : Nat → Int32) : Option (Int32 × (Nat → Int32) × (Nat → Int32) × (Nat → Int32) × (Nat → Int32)) := (f_X5_copies 0 0 41 f1 41 f2).bind (u1 fun (o2 : Nat → Int32) => (wrA o2 41 (((4 : Int32) * p1) + 3) p2).bind (fun g3 => (jn (u4 fun (w4 : Nat → Int32) (w5 : Nat → Int32) (w6 : Nat → Int32) (s7 : Int32) => some (s7, g3, w4, w5, w6)) (fun K8 => (if p3 = 0 then (f_X5_fits f3 f4 41 g3).bind (u3 fun (r12 : Int32) (o13 : Nat → Int32) (o14 : Nat → Int32) => K8 (o13, o14, f5, r12)) else (f_X5_dated f3 f5 41 g3).bind (u3 fun (r9 : Int32) (o10 : Nat → Int32) (o11 : Nat → Int32) => K8 (o10, f4, o11, r9)))))))
theorem in_X5_byYear_X5 : ∀ w ∈ wsX50, w ∈ wsX5_byYear := by decide +kernel
theorem fl_X5_byYear_7 : Cond.fieldLink RX5 7 "ColophonHuntModel" "now" "[I" ∈ wsX5_byYear := by decide +kernel
theorem fl_X5_byYear_13 : Cond.fieldLink RX5 13 "ColophonHuntModel" "then" "[I" ∈ wsX5_byYear := by decide +kernel
theorem hd_X5_byYear : yX5_byYear.cls = RX5 ∧ yX5_byYear.cls ≠ "java/lang/invoke/MethodHandle" ∧ yX5_byYear.cls ≠ "java/lang/invoke/VarHandle" ∧ (parseMethodDescriptor yX5_byYear.desc).map (fun d => d.parameters.length) = some 3 := by decide +kernel
set_option maxRecDepth 100000 in
set_option maxHeartbeats 4000000 in
theorem c_X5_byYear (l : Launch) (D : va_G) (cI cS cL : ClassId) (a0 : Nat) (a1 : Nat) (a2 : Nat) (a3 : Nat) (a4 : Nat) (a5 : Nat) (b0_2 : Nat) (b0_4 : Nat) (b0_10 : Nat) (p1 : Int32) (p2 : Int32) (p3 : Int32) (x0_kept : Int32) (x0_typed : Int32) (x0_thrown : Int32) (x0_at : Int32) (x0_isFault : Int32) (x0_value : Int32) (x0_tolds : Int32) (f1 : Nat → Int32) (f2 : Nat → Int32) (f3 : Nat → Int32) (f4 : Nat → Int32) (f5 : Nat → Int32) (rr : Int32) (y0 : Nat → Int32) (y1 : Nat → Int32) (y2 : Nat → Int32) (y3 : Nat → Int32) (hc : f_X5_byYear p1 p2 p3 f1 f2 f3 f4 f5 = some (rr, y0, y1, y2, y3)) : KM l yX5_byYear wsX5_byYear { frames := 5, cells := 0, slots := 0, locals := 117 } D (tyS cI cS cL) [.ref a0, .int p1, .int p2, .int p3] [(a0, .inr (5, [.ref a1, .ref a2, .ref b0_2, .int x0_kept, .ref b0_4, .int x0_typed, .int x0_thrown, .int x0_at, .int x0_isFault, .int x0_value, .ref b0_10, .int x0_tolds, .ref a3, .ref a4, .ref a5])), (a1, .inl (cI, 41, .inl f1)), (a2, .inl (cI, 41, .inl f2)), (a3, .inl (cI, 10, .inl f3)), (a4, .inl (cI, 1024, .inl f4)), (a5, .inl (cI, 20, .inl f5))] (some (.int rr)) (fun w => w = [(a0, .inr (5, [.ref a1, .ref a2, .ref b0_2, .int x0_kept, .ref b0_4, .int x0_typed, .int x0_thrown, .int x0_at, .int x0_isFault, .int x0_value, .ref b0_10, .int x0_tolds, .ref a3, .ref a4, .ref a5])), (a1, .inl (cI, 41, .inl f1)), (a2, .inl (cI, 41, .inl y0)), (a3, .inl (cI, 10, .inl y1)), (a4, .inl (cI, 1024, .inl y2)), (a5, .inl (cI, 20, .inl y3))]) 0 0 := by
  refine g_entry (cc := cX5_byYear) (nL := 4) (rt := (some .int)) (by decide) rfl (Nat.le_of_ble_eq_true rfl) ?_
  intro p e s m args below meth c A (X : GC p s m args c cX5_byYear 4 RX5 wsX5_byYear D (tyS cI cS cL) A) hr hlk _ _
  have h := hc
  unfold f_X5_byYear at h
  refine g_lv (lv' := [(0, .ref a0), (1, .int p1), (2, .int p2), (3, .int p3)]) [0, 1, 2, 3] rfl ?_
  refine g_aload_n X (j := 0) dX5_byYear_0 rfl ?_
  refine g_get (q0 := 0) (k := 0) (ci := 5) X in_X5_byYear_X5 fl_X5_byYear_7 rfl rfl (Nat.le_of_ble_eq_true rfl) rfl dX5_byYear_1 ?_
  refine g_iconst (v := 0) X dX5_byYear_4 (by decide) ?_
  refine g_aload_n X (j := 0) dX5_byYear_5 rfl ?_
  refine g_get (q0 := 0) (k := 1) (ci := 5) X in_X5_byYear_X5 fl_X5_byYear_13 rfl rfl (Nat.le_of_ble_eq_true rfl) rfl dX5_byYear_6 ?_
  refine g_iconst (v := 0) X dX5_byYear_9 (by decide) ?_
  obtain ⟨o2, hc, h⟩ := bd1 h
  refine g_callS (is := [1, 2]) (As := [.ref a1, .int 0, .ref a2, .int 0]) (ws' := [(a0, .inr (5, [.ref a1, .ref a2, .ref b0_2, .int x0_kept, .ref b0_4, .int x0_typed, .int x0_thrown, .int x0_at, .int x0_isFault, .int x0_value, .ref b0_10, .int x0_tolds, .ref a3, .ref a4, .ref a5])), (a1, .inl (cI, 41, .inl f1)), (a2, .inl (cI, 41, .inl o2)), (a3, .inl (cI, 10, .inl f3)), (a4, .inl (cI, 1024, .inl f4)), (a5, .inl (cI, 20, .inl f5))]) (st := []) X (c_X5_copies l D cI cS cL a1 a2 0 0 41 f1 41 f2 o2 hc) gX5_byYear_X5_copies rfl ⟨rfl, rfl⟩ hd_X5_copies.2 ⟨Nat.le_of_ble_eq_true rfl, Nat.le_of_ble_eq_true rfl⟩ ⟨Nat.zero_le _, Nat.zero_le _⟩ rfl rfl rfl rfl rfl (Nat.le_of_ble_eq_true rfl) rfl dX5_byYear_10 ?_
  refine g_aload_n X (j := 0) dX5_byYear_13 rfl ?_
  refine g_get (q0 := 0) (k := 1) (ci := 5) X in_X5_byYear_X5 fl_X5_byYear_13 rfl rfl (Nat.le_of_ble_eq_true rfl) rfl dX5_byYear_14 ?_
  refine g_iconst (v := 4) X dX5_byYear_17 (by decide) ?_
  refine g_iload_n X (j := 1) dX5_byYear_18 rfl ?_
  refine g_imul X dX5_byYear_19 ?_
  refine g_iconst (v := 3) X dX5_byYear_20 (by decide) ?_
  refine g_iadd X dX5_byYear_21 ?_
  refine g_iload_n X (j := 2) dX5_byYear_22 rfl ?_
  refine g_iast (q0 := 2) (t0 := 0) (ws1 := fun g3 => [(a0, .inr (5, [.ref a1, .ref a2, .ref b0_2, .int x0_kept, .ref b0_4, .int x0_typed, .int x0_thrown, .int x0_at, .int x0_isFault, .int x0_value, .ref b0_10, .int x0_tolds, .ref a3, .ref a4, .ref a5])), (a1, .inl (cI, 41, .inl f1)), (a2, .inl (cI, 41, .inl g3)), (a3, .inl (cI, 10, .inl f3)), (a4, .inl (cI, 1024, .inl f4)), (a5, .inl (cI, 20, .inl f5))]) X h rfl rfl dX5_byYear_23 (fun _ => rfl) (fun g3 h => ?_)
  refine g_iload_n X (j := 3) dX5_byYear_24 rfl ?_
  refine jn_g h (u4 fun w4 w5 w6 s7 => [(a0, .inr (5, [.ref a1, .ref a2, .ref b0_2, .int x0_kept, .ref b0_4, .int x0_typed, .int x0_thrown, .int x0_at, .int x0_isFault, .int x0_value, .ref b0_10, .int x0_tolds, .ref a3, .ref a4, .ref a5])), (a1, .inl (cI, 41, .inl f1)), (a2, .inl (cI, 41, .inl g3)), (a3, .inl (cI, 10, .inl w4)), (a4, .inl (cI, 1024, .inl w5)), (a5, .inl (cI, 20, .inl w6))]) (u4 fun w4 w5 w6 s7 => []) (u4 fun w4 w5 w6 s7 => [.int s7]) 47 ?_ ?_
  · rintro ⟨w4, w5, w6, s7⟩ h
    dsimp only [u4] at h ⊢
    have h := Option.some.inj h
    simp only [Prod.mk.injEq] at h
    obtain ⟨rfl, rfl, rfl, rfl, rfl⟩ := h
    exact g_iret X hr hlk dX5_byYear_47 rfl rfl
  · intro K8 hK8 h
    refine g_if_ne (tgt := 39) X h dX5_byYear_25 (by decide) (fun h => ?_) (fun h => ?_)
    · refine g_aload_n X (j := 0) dX5_byYear_39 rfl ?_
      refine g_aload_n X (j := 0) dX5_byYear_40 rfl ?_
      refine g_get (q0 := 0) (k := 1) (ci := 5) X in_X5_byYear_X5 fl_X5_byYear_13 rfl rfl (Nat.le_of_ble_eq_true rfl) rfl dX5_byYear_41 ?_
      obtain ⟨r9, o10, o11, hc, h⟩ := bd3 h
      refine g_callV (q0 := 0) (ci := 5) (is := [0, 3, 5, 2]) (As := [.ref a2]) (ws' := [(a0, .inr (5, [.ref a1, .ref a2, .ref b0_2, .int x0_kept, .ref b0_4, .int x0_typed, .int x0_thrown, .int x0_at, .int x0_isFault, .int x0_value, .ref b0_10, .int x0_tolds, .ref a3, .ref a4, .ref a5])), (a1, .inl (cI, 41, .inl f1)), (a2, .inl (cI, 41, .inl g3)), (a3, .inl (cI, 10, .inl o10)), (a4, .inl (cI, 1024, .inl f4)), (a5, .inl (cI, 20, .inl o11))]) (st := []) X (c_X5_dated l D cI cS cL a0 a3 a5 a2 a1 a2 b0_2 b0_4 b0_10 a4 x0_kept x0_typed x0_thrown x0_at x0_isFault x0_value x0_tolds f3 f5 41 g3 r9 o10 o11 hc) gX5_byYear_X5_dated rfl ⟨rfl, rfl⟩ hd_X5_dated ⟨Nat.le_of_ble_eq_true rfl, Nat.le_of_ble_eq_true rfl⟩ ⟨Nat.zero_le _, Nat.zero_le _⟩ rfl rfl rfl rfl rfl rfl rfl (Nat.le_of_ble_eq_true rfl) rfl dX5_byYear_44 ?_
      refine g_lv (lv' := []) [] rfl ?_
      exact hK8 (o10, f4, o11, r9) h
    · refine g_aload_n X (j := 0) dX5_byYear_28 rfl ?_
      refine g_aload_n X (j := 0) dX5_byYear_29 rfl ?_
      refine g_get (q0 := 0) (k := 1) (ci := 5) X in_X5_byYear_X5 fl_X5_byYear_13 rfl rfl (Nat.le_of_ble_eq_true rfl) rfl dX5_byYear_30 ?_
      obtain ⟨r12, o13, o14, hc, h⟩ := bd3 h
      refine g_callV (q0 := 0) (ci := 5) (is := [0, 3, 4, 2]) (As := [.ref a2]) (ws' := [(a0, .inr (5, [.ref a1, .ref a2, .ref b0_2, .int x0_kept, .ref b0_4, .int x0_typed, .int x0_thrown, .int x0_at, .int x0_isFault, .int x0_value, .ref b0_10, .int x0_tolds, .ref a3, .ref a4, .ref a5])), (a1, .inl (cI, 41, .inl f1)), (a2, .inl (cI, 41, .inl g3)), (a3, .inl (cI, 10, .inl o13)), (a4, .inl (cI, 1024, .inl o14)), (a5, .inl (cI, 20, .inl f5))]) (st := []) X (c_X5_fits l D cI cS cL a0 a3 a4 a2 a1 a2 b0_2 b0_4 b0_10 a5 x0_kept x0_typed x0_thrown x0_at x0_isFault x0_value x0_tolds f3 f4 41 g3 r12 o13 o14 hc) gX5_byYear_X5_fits rfl ⟨rfl, rfl⟩ hd_X5_fits ⟨Nat.le_of_ble_eq_true rfl, Nat.le_of_ble_eq_true rfl⟩ ⟨Nat.zero_le _, Nat.zero_le _⟩ rfl rfl rfl rfl rfl rfl rfl (Nat.le_of_ble_eq_true rfl) rfl dX5_byYear_33 ?_
      refine g_goto (tgt := 47) X dX5_byYear_36 (by decide) ?_
      refine g_lv (lv' := []) [] rfl ?_
      exact hK8 (o13, o14, f5, r12) h
def f_X5_ifYear (p1 : Int32) (p2 : Int32) (p3 : Int32) (x0_thrown : Int32) (f1 : Nat → Int32) (f2 : Nat → Int32) (f3 : Nat → Int32) (f4 : Nat → Int32) (f5 : Nat → Int32) : Option (Int32 × Int32 × (Nat → Int32) × (Nat → Int32) × (Nat → Int32) × (Nat → Int32)) := (f_X5_isBook p1 f1).bind (u1 fun (r1 : Int32) => (if r1 = 0 then (f_X5_fails 1 0).bind (u2 fun (r19 : Int32) (o20 : Int32) => some (r19, o20, f2, f3, f4, f5)) else (f_X5_in p2 1450 1999).bind (u1 fun (r2 : Int32) => (jn (u6 fun (w3 : Int32) (w4 : Nat → Int32) (w5 : Nat → Int32) (w6 : Nat → Int32) (w7 : Nat → Int32) (s8 : Int32) => some (s8, w3, w4, w5, w6, w7)) (fun K9 => jn (u0 ((f_X5_fails 2 0).bind (u2 fun (r11 : Int32) (o12 : Int32) => K9 (o12, f2, f3, f4, f5, r11)))) (fun K10 => (if r2 = 0 then K10 () else (f_X5_in p3 0 1).bind (u1 fun (r13 : Int32) => (if r13 = 0 then K10 () else (f_X5_byYear p1 p2 p3 f1 f2 f3 f4 f5).bind (u5 fun (r14 : Int32) (o15 : Nat → Int32) (o16 : Nat → Int32) (o17 : Nat → Int32) (o18 : Nat → Int32) => K9 (0, o15, o16, o17, o18, r14)))))))))))
theorem in_X5_ifYear_X5 : ∀ w ∈ wsX50, w ∈ wsX5_ifYear := by decide +kernel
theorem fl_X5_ifYear_38 : Cond.fieldLink RX5 38 "ColophonHuntModel" "thrown" "I" ∈ wsX5_ifYear := by decide +kernel
theorem hd_X5_ifYear : yX5_ifYear.cls = RX5 ∧ yX5_ifYear.cls ≠ "java/lang/invoke/MethodHandle" ∧ yX5_ifYear.cls ≠ "java/lang/invoke/VarHandle" ∧ (parseMethodDescriptor yX5_ifYear.desc).map (fun d => d.parameters.length) = some 3 := by decide +kernel
set_option maxRecDepth 100000 in
set_option maxHeartbeats 4000000 in
theorem c_X5_ifYear (l : Launch) (D : va_G) (cI cS cL : ClassId) (a0 : Nat) (a1 : Nat) (a2 : Nat) (a3 : Nat) (a4 : Nat) (a5 : Nat) (b0_2 : Nat) (b0_4 : Nat) (b0_10 : Nat) (p1 : Int32) (p2 : Int32) (p3 : Int32) (x0_kept : Int32) (x0_typed : Int32) (x0_thrown : Int32) (x0_at : Int32) (x0_isFault : Int32) (x0_value : Int32) (x0_tolds : Int32) (f1 : Nat → Int32) (f2 : Nat → Int32) (f3 : Nat → Int32) (f4 : Nat → Int32) (f5 : Nat → Int32) (rr : Int32) (y0 : Int32) (y1 : Nat → Int32) (y2 : Nat → Int32) (y3 : Nat → Int32) (y4 : Nat → Int32) (hc : f_X5_ifYear p1 p2 p3 x0_thrown f1 f2 f3 f4 f5 = some (rr, y0, y1, y2, y3, y4)) : KM l yX5_ifYear wsX5_ifYear { frames := 6, cells := 0, slots := 0, locals := 140 } D (tyS cI cS cL) [.ref a0, .int p1, .int p2, .int p3] [(a0, .inr (5, [.ref a1, .ref a2, .ref b0_2, .int x0_kept, .ref b0_4, .int x0_typed, .int x0_thrown, .int x0_at, .int x0_isFault, .int x0_value, .ref b0_10, .int x0_tolds, .ref a3, .ref a4, .ref a5])), (a1, .inl (cI, 41, .inl f1)), (a2, .inl (cI, 41, .inl f2)), (a3, .inl (cI, 10, .inl f3)), (a4, .inl (cI, 1024, .inl f4)), (a5, .inl (cI, 20, .inl f5))] (some (.int rr)) (fun w => w = [(a0, .inr (5, [.ref a1, .ref a2, .ref b0_2, .int x0_kept, .ref b0_4, .int x0_typed, .int y0, .int x0_at, .int x0_isFault, .int x0_value, .ref b0_10, .int x0_tolds, .ref a3, .ref a4, .ref a5])), (a1, .inl (cI, 41, .inl f1)), (a2, .inl (cI, 41, .inl y1)), (a3, .inl (cI, 10, .inl y2)), (a4, .inl (cI, 1024, .inl y3)), (a5, .inl (cI, 20, .inl y4))]) 0 0 := by
  refine g_entry (cc := cX5_ifYear) (nL := 4) (rt := (some .int)) (by decide) rfl (Nat.le_of_ble_eq_true rfl) ?_
  intro p e s m args below meth c A (X : GC p s m args c cX5_ifYear 4 RX5 wsX5_ifYear D (tyS cI cS cL) A) hr hlk _ _
  have h := hc
  unfold f_X5_ifYear at h
  refine g_lv (lv' := [(0, .ref a0), (1, .int p1), (2, .int p2), (3, .int p3)]) [0, 1, 2, 3] rfl ?_
  refine g_aload_n X (j := 0) dX5_ifYear_0 rfl ?_
  refine g_iconst (v := 0) X dX5_ifYear_1 (by decide) ?_
  refine g_put (q0 := 0) (k := 6) (ci := 5) (ws' := [(a0, .inr (5, [.ref a1, .ref a2, .ref b0_2, .int x0_kept, .ref b0_4, .int x0_typed, .int 0, .int x0_at, .int x0_isFault, .int x0_value, .ref b0_10, .int x0_tolds, .ref a3, .ref a4, .ref a5])), (a1, .inl (cI, 41, .inl f1)), (a2, .inl (cI, 41, .inl f2)), (a3, .inl (cI, 10, .inl f3)), (a4, .inl (cI, 1024, .inl f4)), (a5, .inl (cI, 20, .inl f5))]) X tyX5_ok nmX5 in_X5_ifYear_X5 fl_X5_ifYear_38 rfl rfl (Nat.le_of_ble_eq_true rfl) rfl rfl rfl (Nat.le_of_ble_eq_true rfl) dX5_ifYear_2 rfl ?_
  refine g_aload_n X (j := 0) dX5_ifYear_5 rfl ?_
  refine g_iload_n X (j := 1) dX5_ifYear_6 rfl ?_
  obtain ⟨r1, hc, h⟩ := bd1 h
  refine g_callV (q0 := 0) (ci := 5) (is := [0, 1]) (As := [.int p1]) (ws' := [(a0, .inr (5, [.ref a1, .ref a2, .ref b0_2, .int x0_kept, .ref b0_4, .int x0_typed, .int 0, .int x0_at, .int x0_isFault, .int x0_value, .ref b0_10, .int x0_tolds, .ref a3, .ref a4, .ref a5])), (a1, .inl (cI, 41, .inl f1)), (a2, .inl (cI, 41, .inl f2)), (a3, .inl (cI, 10, .inl f3)), (a4, .inl (cI, 1024, .inl f4)), (a5, .inl (cI, 20, .inl f5))]) (st := []) X (c_X5_isBook l D cI cS cL a0 a1 a2 b0_2 b0_4 b0_10 a3 a4 a5 p1 x0_kept x0_typed 0 x0_at x0_isFault x0_value x0_tolds f1 r1 hc) gX5_ifYear_X5_isBook rfl ⟨rfl, rfl⟩ hd_X5_isBook ⟨Nat.le_of_ble_eq_true rfl, Nat.le_of_ble_eq_true rfl⟩ ⟨Nat.zero_le _, Nat.zero_le _⟩ rfl rfl rfl rfl rfl rfl rfl (Nat.le_of_ble_eq_true rfl) rfl dX5_ifYear_7 ?_
  refine g_if_ne (tgt := 19) X h dX5_ifYear_10 (by decide) (fun h => ?_) (fun h => ?_)
  · refine g_iload_n X (j := 2) dX5_ifYear_19 rfl ?_
    refine g_sipush (v := 1450) X dX5_ifYear_20 (by decide) ?_
    refine g_sipush (v := 1999) X dX5_ifYear_23 (by decide) ?_
    obtain ⟨r2, hc, h⟩ := bd1 h
    refine g_callS (is := []) (As := [.int p2, .int 1450, .int 1999]) (ws' := [(a0, .inr (5, [.ref a1, .ref a2, .ref b0_2, .int x0_kept, .ref b0_4, .int x0_typed, .int 0, .int x0_at, .int x0_isFault, .int x0_value, .ref b0_10, .int x0_tolds, .ref a3, .ref a4, .ref a5])), (a1, .inl (cI, 41, .inl f1)), (a2, .inl (cI, 41, .inl f2)), (a3, .inl (cI, 10, .inl f3)), (a4, .inl (cI, 1024, .inl f4)), (a5, .inl (cI, 20, .inl f5))]) (st := []) X (c_X5_in l D cI cS cL p2 1450 1999 r2 hc) gX5_ifYear_X5_in rfl ⟨rfl, rfl⟩ hd_X5_in.2 ⟨Nat.le_of_ble_eq_true rfl, Nat.le_of_ble_eq_true rfl⟩ ⟨Nat.zero_le _, Nat.zero_le _⟩ rfl rfl rfl rfl rfl (Nat.le_of_ble_eq_true rfl) rfl dX5_ifYear_26 ?_
    refine jn_g h (u6 fun w3 w4 w5 w6 w7 s8 => [(a0, .inr (5, [.ref a1, .ref a2, .ref b0_2, .int x0_kept, .ref b0_4, .int x0_typed, .int w3, .int x0_at, .int x0_isFault, .int x0_value, .ref b0_10, .int x0_tolds, .ref a3, .ref a4, .ref a5])), (a1, .inl (cI, 41, .inl f1)), (a2, .inl (cI, 41, .inl w4)), (a3, .inl (cI, 10, .inl w5)), (a4, .inl (cI, 1024, .inl w6)), (a5, .inl (cI, 20, .inl w7))]) (u6 fun w3 w4 w5 w6 w7 s8 => []) (u6 fun w3 w4 w5 w6 w7 s8 => [.int s8]) 56 ?_ ?_
    · rintro ⟨w3, w4, w5, w6, w7, s8⟩ h
      dsimp only [u6] at h ⊢
      have h := Option.some.inj h
      simp only [Prod.mk.injEq] at h
      obtain ⟨rfl, rfl, rfl, rfl, rfl, rfl⟩ := h
      exact g_iret X hr hlk dX5_ifYear_56 rfl rfl
    · intro K9 hK9 h
      refine jn_g h (u0 ([(a0, .inr (5, [.ref a1, .ref a2, .ref b0_2, .int x0_kept, .ref b0_4, .int x0_typed, .int 0, .int x0_at, .int x0_isFault, .int x0_value, .ref b0_10, .int x0_tolds, .ref a3, .ref a4, .ref a5])), (a1, .inl (cI, 41, .inl f1)), (a2, .inl (cI, 41, .inl f2)), (a3, .inl (cI, 10, .inl f3)), (a4, .inl (cI, 1024, .inl f4)), (a5, .inl (cI, 20, .inl f5))])) (u0 ([(0, .ref a0)])) (u0 ([])) 51 ?_ ?_
      · rintro ⟨⟩ h
        dsimp only [u0] at h ⊢
        refine g_aload_n X (j := 0) dX5_ifYear_51 rfl ?_
        refine g_iconst (v := 2) X dX5_ifYear_52 (by decide) ?_
        obtain ⟨r11, o12, hc, h⟩ := bd2 h
        refine g_callV (q0 := 0) (ci := 5) (is := [0]) (As := [.int 2]) (ws' := [(a0, .inr (5, [.ref a1, .ref a2, .ref b0_2, .int x0_kept, .ref b0_4, .int x0_typed, .int o12, .int x0_at, .int x0_isFault, .int x0_value, .ref b0_10, .int x0_tolds, .ref a3, .ref a4, .ref a5])), (a1, .inl (cI, 41, .inl f1)), (a2, .inl (cI, 41, .inl f2)), (a3, .inl (cI, 10, .inl f3)), (a4, .inl (cI, 1024, .inl f4)), (a5, .inl (cI, 20, .inl f5))]) (st := []) X (c_X5_fails l D cI cS cL a0 a1 a2 b0_2 b0_4 b0_10 a3 a4 a5 2 x0_kept x0_typed 0 x0_at x0_isFault x0_value x0_tolds r11 o12 hc) gX5_ifYear_X5_fails rfl ⟨rfl, rfl⟩ hd_X5_fails ⟨Nat.le_of_ble_eq_true rfl, Nat.le_of_ble_eq_true rfl⟩ ⟨Nat.zero_le _, Nat.zero_le _⟩ rfl rfl rfl rfl rfl rfl rfl (Nat.le_of_ble_eq_true rfl) rfl dX5_ifYear_53 ?_
        refine g_lv (lv' := []) [] rfl ?_
        exact hK9 (o12, f2, f3, f4, f5, r11) h
      · intro K10 hK10 h
        refine g_if_eq (tgt := 51) X h dX5_ifYear_29 (by decide) (fun h => ?_) (fun h => ?_)
        · refine g_lv (lv' := [(0, .ref a0)]) [0] rfl ?_
          exact hK10 () h
        · refine g_iload_n X (j := 3) dX5_ifYear_32 rfl ?_
          refine g_iconst (v := 0) X dX5_ifYear_33 (by decide) ?_
          refine g_iconst (v := 1) X dX5_ifYear_34 (by decide) ?_
          obtain ⟨r13, hc, h⟩ := bd1 h
          refine g_callS (is := []) (As := [.int p3, .int 0, .int 1]) (ws' := [(a0, .inr (5, [.ref a1, .ref a2, .ref b0_2, .int x0_kept, .ref b0_4, .int x0_typed, .int 0, .int x0_at, .int x0_isFault, .int x0_value, .ref b0_10, .int x0_tolds, .ref a3, .ref a4, .ref a5])), (a1, .inl (cI, 41, .inl f1)), (a2, .inl (cI, 41, .inl f2)), (a3, .inl (cI, 10, .inl f3)), (a4, .inl (cI, 1024, .inl f4)), (a5, .inl (cI, 20, .inl f5))]) (st := []) X (c_X5_in l D cI cS cL p3 0 1 r13 hc) gX5_ifYear_X5_in rfl ⟨rfl, rfl⟩ hd_X5_in.2 ⟨Nat.le_of_ble_eq_true rfl, Nat.le_of_ble_eq_true rfl⟩ ⟨Nat.zero_le _, Nat.zero_le _⟩ rfl rfl rfl rfl rfl (Nat.le_of_ble_eq_true rfl) rfl dX5_ifYear_35 ?_
          refine g_if_eq (tgt := 51) X h dX5_ifYear_38 (by decide) (fun h => ?_) (fun h => ?_)
          · refine g_lv (lv' := [(0, .ref a0)]) [0] rfl ?_
            exact hK10 () h
          · refine g_aload_n X (j := 0) dX5_ifYear_41 rfl ?_
            refine g_iload_n X (j := 1) dX5_ifYear_42 rfl ?_
            refine g_iload_n X (j := 2) dX5_ifYear_43 rfl ?_
            refine g_iload_n X (j := 3) dX5_ifYear_44 rfl ?_
            obtain ⟨r14, o15, o16, o17, o18, hc, h⟩ := bd5 h
            refine g_callV (q0 := 0) (ci := 5) (is := [0, 1, 2, 3, 4, 5]) (As := [.int p1, .int p2, .int p3]) (ws' := [(a0, .inr (5, [.ref a1, .ref a2, .ref b0_2, .int x0_kept, .ref b0_4, .int x0_typed, .int 0, .int x0_at, .int x0_isFault, .int x0_value, .ref b0_10, .int x0_tolds, .ref a3, .ref a4, .ref a5])), (a1, .inl (cI, 41, .inl f1)), (a2, .inl (cI, 41, .inl o15)), (a3, .inl (cI, 10, .inl o16)), (a4, .inl (cI, 1024, .inl o17)), (a5, .inl (cI, 20, .inl o18))]) (st := []) X (c_X5_byYear l D cI cS cL a0 a1 a2 a3 a4 a5 b0_2 b0_4 b0_10 p1 p2 p3 x0_kept x0_typed 0 x0_at x0_isFault x0_value x0_tolds f1 f2 f3 f4 f5 r14 o15 o16 o17 o18 hc) gX5_ifYear_X5_byYear rfl ⟨rfl, rfl⟩ hd_X5_byYear ⟨Nat.le_of_ble_eq_true rfl, Nat.le_of_ble_eq_true rfl⟩ ⟨Nat.zero_le _, Nat.zero_le _⟩ rfl rfl rfl rfl rfl rfl rfl (Nat.le_of_ble_eq_true rfl) rfl dX5_ifYear_45 ?_
            refine g_goto (tgt := 56) X dX5_ifYear_48 (by decide) ?_
            refine g_lv (lv' := []) [] rfl ?_
            exact hK9 (0, o15, o16, o17, o18, r14) h
  · refine g_aload_n X (j := 0) dX5_ifYear_13 rfl ?_
    refine g_iconst (v := 1) X dX5_ifYear_14 (by decide) ?_
    obtain ⟨r19, o20, hc, h⟩ := bd2 h
    refine g_callV (q0 := 0) (ci := 5) (is := [0]) (As := [.int 1]) (ws' := [(a0, .inr (5, [.ref a1, .ref a2, .ref b0_2, .int x0_kept, .ref b0_4, .int x0_typed, .int o20, .int x0_at, .int x0_isFault, .int x0_value, .ref b0_10, .int x0_tolds, .ref a3, .ref a4, .ref a5])), (a1, .inl (cI, 41, .inl f1)), (a2, .inl (cI, 41, .inl f2)), (a3, .inl (cI, 10, .inl f3)), (a4, .inl (cI, 1024, .inl f4)), (a5, .inl (cI, 20, .inl f5))]) (st := []) X (c_X5_fails l D cI cS cL a0 a1 a2 b0_2 b0_4 b0_10 a3 a4 a5 1 x0_kept x0_typed 0 x0_at x0_isFault x0_value x0_tolds r19 o20 hc) gX5_ifYear_X5_fails rfl ⟨rfl, rfl⟩ hd_X5_fails ⟨Nat.le_of_ble_eq_true rfl, Nat.le_of_ble_eq_true rfl⟩ ⟨Nat.zero_le _, Nat.zero_le _⟩ rfl rfl rfl rfl rfl rfl rfl (Nat.le_of_ble_eq_true rfl) rfl dX5_ifYear_15 ?_
    have h := Option.some.inj h
    simp only [Prod.mk.injEq] at h
    obtain ⟨rfl, rfl, rfl, rfl, rfl, rfl⟩ := h
    exact g_iret X hr hlk dX5_ifYear_18 rfl rfl
def f_X5_share (f1 : Nat → Int32) (f2 : Nat → Int32) (f3 : Nat → Int32) : Option (UInt64 × (Nat → Int32) × (Nat → Int32)) := (rdA f1 41 40).bind (fun v1 => (jn (u3 fun (w2 : Nat → Int32) (w3 : Nat → Int32) (s4 : UInt64) => some (s4, w2, w3)) (fun K5 => (if v1 = 0 then K5 (f2, f3, FP.dconst1) else (f_X5_dated f2 f3 41 f1).bind (u3 fun (r6 : Int32) (o7 : Nat → Int32) (o8 : Nat → Int32) => (rdA f1 41 40).bind (fun v9 => gN (FP.ddiv (FP.i2d r6) (FP.i2d v9)) fun _ => K5 (o7, o8, (FP.ddiv (FP.i2d r6) (FP.i2d v9)))))))))
theorem in_X5_share_X5 : ∀ w ∈ wsX50, w ∈ wsX5_share := by decide +kernel
theorem fl_X5_share_7 : Cond.fieldLink RX5 7 "ColophonHuntModel" "now" "[I" ∈ wsX5_share := by decide +kernel
theorem hd_X5_share : yX5_share.cls = RX5 ∧ yX5_share.cls ≠ "java/lang/invoke/MethodHandle" ∧ yX5_share.cls ≠ "java/lang/invoke/VarHandle" ∧ (parseMethodDescriptor yX5_share.desc).map (fun d => d.parameters.length) = some 0 := by decide +kernel
set_option maxRecDepth 100000 in
set_option maxHeartbeats 4000000 in
theorem c_X5_share (l : Launch) (D : va_G) (cI cS cL : ClassId) (a0 : Nat) (a1 : Nat) (a2 : Nat) (a3 : Nat) (b0_1 : Nat) (b0_2 : Nat) (b0_4 : Nat) (b0_10 : Nat) (b0_13 : Nat) (x0_kept : Int32) (x0_typed : Int32) (x0_thrown : Int32) (x0_at : Int32) (x0_isFault : Int32) (x0_value : Int32) (x0_tolds : Int32) (f1 : Nat → Int32) (f2 : Nat → Int32) (f3 : Nat → Int32) (rr : UInt64) (y0 : Nat → Int32) (y1 : Nat → Int32) (hc : f_X5_share f1 f2 f3 = some (rr, y0, y1)) : KM l yX5_share wsX5_share { frames := 5, cells := 0, slots := 0, locals := 117 } D (tyS cI cS cL) [.ref a0] [(a0, .inr (5, [.ref a1, .ref b0_1, .ref b0_2, .int x0_kept, .ref b0_4, .int x0_typed, .int x0_thrown, .int x0_at, .int x0_isFault, .int x0_value, .ref b0_10, .int x0_tolds, .ref a2, .ref b0_13, .ref a3])), (a1, .inl (cI, 41, .inl f1)), (a2, .inl (cI, 10, .inl f2)), (a3, .inl (cI, 20, .inl f3))] (some (.double rr)) (fun w => w = [(a0, .inr (5, [.ref a1, .ref b0_1, .ref b0_2, .int x0_kept, .ref b0_4, .int x0_typed, .int x0_thrown, .int x0_at, .int x0_isFault, .int x0_value, .ref b0_10, .int x0_tolds, .ref a2, .ref b0_13, .ref a3])), (a1, .inl (cI, 41, .inl f1)), (a2, .inl (cI, 10, .inl y0)), (a3, .inl (cI, 20, .inl y1))]) 0 0 := by
  refine g_entry (cc := cX5_share) (nL := 1) (rt := (some .double)) (by decide) rfl (Nat.le_of_ble_eq_true rfl) ?_
  intro p e s m args below meth c A (X : GC p s m args c cX5_share 1 RX5 wsX5_share D (tyS cI cS cL) A) hr hlk _ _
  have h := hc
  unfold f_X5_share at h
  refine g_lv (lv' := [(0, .ref a0)]) [0] rfl ?_
  refine g_aload_n X (j := 0) dX5_share_0 rfl ?_
  refine g_get (q0 := 0) (k := 0) (ci := 5) X in_X5_share_X5 fl_X5_share_7 rfl rfl (Nat.le_of_ble_eq_true rfl) rfl dX5_share_1 ?_
  refine g_bipush (v := 40) X dX5_share_4 (by decide) ?_
  refine g_iald (q0 := 1) (t0 := 0) X h rfl rfl dX5_share_6 (fun v1 h => ?_)
  refine jn_g h (u3 fun w2 w3 s4 => [(a0, .inr (5, [.ref a1, .ref b0_1, .ref b0_2, .int x0_kept, .ref b0_4, .int x0_typed, .int x0_thrown, .int x0_at, .int x0_isFault, .int x0_value, .ref b0_10, .int x0_tolds, .ref a2, .ref b0_13, .ref a3])), (a1, .inl (cI, 41, .inl f1)), (a2, .inl (cI, 10, .inl w2)), (a3, .inl (cI, 20, .inl w3))]) (u3 fun w2 w3 s4 => []) (u3 fun w2 w3 s4 => [.double s4]) 32 ?_ ?_
  · rintro ⟨w2, w3, s4⟩ h
    dsimp only [u3] at h ⊢
    have h := Option.some.inj h
    simp only [Prod.mk.injEq] at h
    obtain ⟨rfl, rfl, rfl⟩ := h
    exact g_dret X hr hlk dX5_share_32 rfl rfl
  · intro K5 hK5 h
    refine g_if_ne (tgt := 14) X h dX5_share_7 (by decide) (fun h => ?_) (fun h => ?_)
    · refine g_aload_n X (j := 0) dX5_share_14 rfl ?_
      refine g_aload_n X (j := 0) dX5_share_15 rfl ?_
      refine g_get (q0 := 0) (k := 0) (ci := 5) X in_X5_share_X5 fl_X5_share_7 rfl rfl (Nat.le_of_ble_eq_true rfl) rfl dX5_share_16 ?_
      obtain ⟨r6, o7, o8, hc, h⟩ := bd3 h
      refine g_callV (q0 := 0) (ci := 5) (is := [0, 2, 3, 1]) (As := [.ref a1]) (ws' := [(a0, .inr (5, [.ref a1, .ref b0_1, .ref b0_2, .int x0_kept, .ref b0_4, .int x0_typed, .int x0_thrown, .int x0_at, .int x0_isFault, .int x0_value, .ref b0_10, .int x0_tolds, .ref a2, .ref b0_13, .ref a3])), (a1, .inl (cI, 41, .inl f1)), (a2, .inl (cI, 10, .inl o7)), (a3, .inl (cI, 20, .inl o8))]) (st := []) X (c_X5_dated l D cI cS cL a0 a2 a3 a1 a1 b0_1 b0_2 b0_4 b0_10 b0_13 x0_kept x0_typed x0_thrown x0_at x0_isFault x0_value x0_tolds f2 f3 41 f1 r6 o7 o8 hc) gX5_share_X5_dated rfl ⟨rfl, rfl⟩ hd_X5_dated ⟨Nat.le_of_ble_eq_true rfl, Nat.le_of_ble_eq_true rfl⟩ ⟨Nat.zero_le _, Nat.zero_le _⟩ rfl rfl rfl rfl rfl rfl rfl (Nat.le_of_ble_eq_true rfl) rfl dX5_share_19 ?_
      refine g_i2d X dX5_share_22 ?_
      refine g_aload_n X (j := 0) dX5_share_23 rfl ?_
      refine g_get (q0 := 0) (k := 0) (ci := 5) X in_X5_share_X5 fl_X5_share_7 rfl rfl (Nat.le_of_ble_eq_true rfl) rfl dX5_share_24 ?_
      refine g_bipush (v := 40) X dX5_share_27 (by decide) ?_
      refine g_iald (q0 := 1) (t0 := 0) X h rfl rfl dX5_share_29 (fun v9 h => ?_)
      refine g_i2d X dX5_share_30 ?_
      refine g_ddiv X h dX5_share_31 (fun h => ?_)
      refine g_lv (lv' := []) [] rfl ?_
      exact hK5 (o7, o8, (FP.ddiv (FP.i2d r6) (FP.i2d v9))) h
    · refine g_dconst1 X dX5_share_10 ?_
      refine g_goto (tgt := 32) X dX5_share_11 (by decide) ?_
      refine g_lv (lv' := []) [] rfl ?_
      exact hK5 (f2, f3, FP.dconst1) h
def f_X5_datedShare (x0_thrown : Int32) (f1 : Nat → Int32) (f2 : Nat → Int32) (f3 : Nat → Int32) : Option (UInt64 × Int32 × (Nat → Int32) × (Nat → Int32)) := (f_X5_share f1 f2 f3).bind (u3 fun (r1 : UInt64) (o2 : Nat → Int32) (o3 : Nat → Int32) => some (r1, 0, o2, o3))
theorem in_X5_datedShare_X5 : ∀ w ∈ wsX50, w ∈ wsX5_datedShare := by decide +kernel
theorem fl_X5_datedShare_38 : Cond.fieldLink RX5 38 "ColophonHuntModel" "thrown" "I" ∈ wsX5_datedShare := by decide +kernel
theorem hd_X5_datedShare : yX5_datedShare.cls = RX5 ∧ yX5_datedShare.cls ≠ "java/lang/invoke/MethodHandle" ∧ yX5_datedShare.cls ≠ "java/lang/invoke/VarHandle" ∧ (parseMethodDescriptor yX5_datedShare.desc).map (fun d => d.parameters.length) = some 0 := by decide +kernel
set_option maxRecDepth 100000 in
set_option maxHeartbeats 4000000 in
theorem c_X5_datedShare (l : Launch) (D : va_G) (cI cS cL : ClassId) (a0 : Nat) (a1 : Nat) (a2 : Nat) (a3 : Nat) (b0_1 : Nat) (b0_2 : Nat) (b0_4 : Nat) (b0_10 : Nat) (b0_13 : Nat) (x0_kept : Int32) (x0_typed : Int32) (x0_thrown : Int32) (x0_at : Int32) (x0_isFault : Int32) (x0_value : Int32) (x0_tolds : Int32) (f1 : Nat → Int32) (f2 : Nat → Int32) (f3 : Nat → Int32) (rr : UInt64) (y0 : Int32) (y1 : Nat → Int32) (y2 : Nat → Int32) (hc : f_X5_datedShare x0_thrown f1 f2 f3 = some (rr, y0, y1, y2)) : KM l yX5_datedShare wsX5_datedShare { frames := 6, cells := 0, slots := 0, locals := 137 } D (tyS cI cS cL) [.ref a0] [(a0, .inr (5, [.ref a1, .ref b0_1, .ref b0_2, .int x0_kept, .ref b0_4, .int x0_typed, .int x0_thrown, .int x0_at, .int x0_isFault, .int x0_value, .ref b0_10, .int x0_tolds, .ref a2, .ref b0_13, .ref a3])), (a1, .inl (cI, 41, .inl f1)), (a2, .inl (cI, 10, .inl f2)), (a3, .inl (cI, 20, .inl f3))] (some (.double rr)) (fun w => w = [(a0, .inr (5, [.ref a1, .ref b0_1, .ref b0_2, .int x0_kept, .ref b0_4, .int x0_typed, .int y0, .int x0_at, .int x0_isFault, .int x0_value, .ref b0_10, .int x0_tolds, .ref a2, .ref b0_13, .ref a3])), (a1, .inl (cI, 41, .inl f1)), (a2, .inl (cI, 10, .inl y1)), (a3, .inl (cI, 20, .inl y2))]) 0 0 := by
  refine g_entry (cc := cX5_datedShare) (nL := 1) (rt := (some .double)) (by decide) rfl (Nat.le_of_ble_eq_true rfl) ?_
  intro p e s m args below meth c A (X : GC p s m args c cX5_datedShare 1 RX5 wsX5_datedShare D (tyS cI cS cL) A) hr hlk _ _
  have h := hc
  unfold f_X5_datedShare at h
  refine g_lv (lv' := [(0, .ref a0)]) [0] rfl ?_
  refine g_aload_n X (j := 0) dX5_datedShare_0 rfl ?_
  refine g_iconst (v := 0) X dX5_datedShare_1 (by decide) ?_
  refine g_put (q0 := 0) (k := 6) (ci := 5) (ws' := [(a0, .inr (5, [.ref a1, .ref b0_1, .ref b0_2, .int x0_kept, .ref b0_4, .int x0_typed, .int 0, .int x0_at, .int x0_isFault, .int x0_value, .ref b0_10, .int x0_tolds, .ref a2, .ref b0_13, .ref a3])), (a1, .inl (cI, 41, .inl f1)), (a2, .inl (cI, 10, .inl f2)), (a3, .inl (cI, 20, .inl f3))]) X tyX5_ok nmX5 in_X5_datedShare_X5 fl_X5_datedShare_38 rfl rfl (Nat.le_of_ble_eq_true rfl) rfl rfl rfl (Nat.le_of_ble_eq_true rfl) dX5_datedShare_2 rfl ?_
  refine g_aload_n X (j := 0) dX5_datedShare_5 rfl ?_
  obtain ⟨r1, o2, o3, hc, h⟩ := bd3 h
  refine g_callV (q0 := 0) (ci := 5) (is := [0, 1, 2, 3]) (As := []) (ws' := [(a0, .inr (5, [.ref a1, .ref b0_1, .ref b0_2, .int x0_kept, .ref b0_4, .int x0_typed, .int 0, .int x0_at, .int x0_isFault, .int x0_value, .ref b0_10, .int x0_tolds, .ref a2, .ref b0_13, .ref a3])), (a1, .inl (cI, 41, .inl f1)), (a2, .inl (cI, 10, .inl o2)), (a3, .inl (cI, 20, .inl o3))]) (st := []) X (c_X5_share l D cI cS cL a0 a1 a2 a3 b0_1 b0_2 b0_4 b0_10 b0_13 x0_kept x0_typed 0 x0_at x0_isFault x0_value x0_tolds f1 f2 f3 r1 o2 o3 hc) gX5_datedShare_X5_share rfl ⟨rfl, rfl⟩ hd_X5_share ⟨Nat.le_of_ble_eq_true rfl, Nat.le_of_ble_eq_true rfl⟩ ⟨Nat.zero_le _, Nat.zero_le _⟩ rfl rfl rfl rfl rfl rfl rfl (Nat.le_of_ble_eq_true rfl) rfl dX5_datedShare_6 ?_
  have h := Option.some.inj h
  simp only [Prod.mk.injEq] at h
  obtain ⟨rfl, rfl, rfl, rfl⟩ := h
  exact g_dret X hr hlk dX5_datedShare_9 rfl rfl
