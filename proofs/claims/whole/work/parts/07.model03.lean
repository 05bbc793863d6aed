theorem dX5_isDated_0 : decode cX5_isDated 0 = .ok (.aload_n 0, 1) := by decide +kernel
theorem dX5_isDated_1 : decode cX5_isDated 1 = .ok (.getfield 31, 3) := by decide +kernel
theorem dX5_isDated_4 : decode cX5_isDated 4 = .ok (.iconst 2, 1) := by decide +kernel
theorem dX5_isDated_5 : decode cX5_isDated 5 = .ok (.iload_n 1, 1) := by decide +kernel
theorem dX5_isDated_6 : decode cX5_isDated 6 = .ok (.imul, 1) := by decide +kernel
theorem dX5_isDated_7 : decode cX5_isDated 7 = .ok (.iaload, 1) := by decide +kernel
theorem dX5_isDated_8 : decode cX5_isDated 8 = .ok (.aload_n 0, 1) := by decide +kernel
theorem dX5_isDated_9 : decode cX5_isDated 9 = .ok (.getfield 31, 3) := by decide +kernel
theorem dX5_isDated_12 : decode cX5_isDated 12 = .ok (.iconst 2, 1) := by decide +kernel
theorem dX5_isDated_13 : decode cX5_isDated 13 = .ok (.iload_n 1, 1) := by decide +kernel
theorem dX5_isDated_14 : decode cX5_isDated 14 = .ok (.imul, 1) := by decide +kernel
theorem dX5_isDated_15 : decode cX5_isDated 15 = .ok (.iconst 1, 1) := by decide +kernel
theorem dX5_isDated_16 : decode cX5_isDated 16 = .ok (.iadd, 1) := by decide +kernel
theorem dX5_isDated_17 : decode cX5_isDated 17 = .ok (.iaload, 1) := by decide +kernel
theorem dX5_isDated_18 : decode cX5_isDated 18 = .ok (.if_icmp .ne 7, 3) := by decide +kernel
theorem dX5_isDated_21 : decode cX5_isDated 21 = .ok (.iconst 1, 1) := by decide +kernel
theorem dX5_isDated_22 : decode cX5_isDated 22 = .ok (.goto 4, 3) := by decide +kernel
theorem dX5_isDated_25 : decode cX5_isDated 25 = .ok (.iconst 0, 1) := by decide +kernel
theorem dX5_isDated_26 : decode cX5_isDated 26 = .ok (.ireturn, 1) := by decide +kernel
set_option maxRecDepth 20000 in
theorem ggX5_dated_X5_dates : GoodIn wsX5_dated wsX5_dates := goodIn_r _ [5, 6, 7, 8, 9, 10, 4, 11, 12, 13, 14, 15, 16, 17, 18, 19, 20, 25, 26, 27, 28, 29, 30, 31, 32, 33, 34, 35, 36, 37, 38, 39] (by decide +kernel) (by decide +kernel)
set_option maxRecDepth 20000 in
theorem gX5_dated_X5_dates : GoodIn wsX5_dated (wsV RX5 75 RX5 yX5_dates wsX5_dates) := goodIn_app (goodIn_of _ (by decide +kernel)) ggX5_dated_X5_dates
set_option maxRecDepth 20000 in
theorem ggX5_dated_X5_isDated : GoodIn wsX5_dated wsX5_isDated := goodIn_r _ [24, 6, 25, 26, 27, 28, 29, 30, 31, 32, 33, 34, 35, 36, 37, 38, 39] (by decide +kernel) (by decide +kernel)
set_option maxRecDepth 20000 in
theorem gX5_dated_X5_isDated : GoodIn wsX5_dated (wsV RX5 78 RX5 yX5_isDated wsX5_isDated) := goodIn_app (goodIn_of _ (by decide +kernel)) ggX5_dated_X5_isDated
theorem dX5_dated_0 : decode cX5_dated 0 = .ok (.aload_n 0, 1) := by decide +kernel
theorem dX5_dated_1 : decode cX5_dated 1 = .ok (.aload_n 1, 1) := by decide +kernel
theorem dX5_dated_2 : decode cX5_dated 2 = .ok (.invokevirtual 75, 3) := by decide +kernel
theorem dX5_dated_5 : decode cX5_dated 5 = .ok (.iconst 0, 1) := by decide +kernel
theorem dX5_dated_6 : decode cX5_dated 6 = .ok (.istore_n 2, 1) := by decide +kernel
theorem dX5_dated_7 : decode cX5_dated 7 = .ok (.iconst 0, 1) := by decide +kernel
theorem dX5_dated_8 : decode cX5_dated 8 = .ok (.istore_n 3, 1) := by decide +kernel
theorem dX5_dated_9 : decode cX5_dated 9 = .ok (.iload_n 3, 1) := by decide +kernel
theorem dX5_dated_10 : decode cX5_dated 10 = .ok (.aload_n 1, 1) := by decide +kernel
theorem dX5_dated_11 : decode cX5_dated 11 = .ok (.bipush 40, 2) := by decide +kernel
theorem dX5_dated_13 : decode cX5_dated 13 = .ok (.iaload, 1) := by decide +kernel
theorem dX5_dated_14 : decode cX5_dated 14 = .ok (.if_icmp .ge 25, 3) := by decide +kernel
theorem dX5_dated_17 : decode cX5_dated 17 = .ok (.iload_n 2, 1) := by decide +kernel
theorem dX5_dated_18 : decode cX5_dated 18 = .ok (.aload_n 0, 1) := by decide +kernel
theorem dX5_dated_19 : decode cX5_dated 19 = .ok (.iload_n 3, 1) := by decide +kernel
theorem dX5_dated_20 : decode cX5_dated 20 = .ok (.invokevirtual 78, 3) := by decide +kernel
theorem dX5_dated_23 : decode cX5_dated 23 = .ok (.ifCond .eq 7, 3) := by decide +kernel
theorem dX5_dated_26 : decode cX5_dated 26 = .ok (.iconst 1, 1) := by decide +kernel
theorem dX5_dated_27 : decode cX5_dated 27 = .ok (.goto 4, 3) := by decide +kernel
theorem dX5_dated_30 : decode cX5_dated 30 = .ok (.iconst 0, 1) := by decide +kernel
theorem dX5_dated_31 : decode cX5_dated 31 = .ok (.iadd, 1) := by decide +kernel
theorem dX5_dated_32 : decode cX5_dated 32 = .ok (.istore_n 2, 1) := by decide +kernel
theorem dX5_dated_33 : decode cX5_dated 33 = .ok (.iinc 3 1, 3) := by decide +kernel
theorem dX5_dated_36 : decode cX5_dated 36 = .ok (.goto (-27), 3) := by decide +kernel
theorem dX5_dated_39 : decode cX5_dated 39 = .ok (.iload_n 2, 1) := by decide +kernel
theorem dX5_dated_40 : decode cX5_dated 40 = .ok (.ireturn, 1) := by decide +kernel
set_option maxRecDepth 20000 in
theorem ggX5_isMould_X5_in : GoodIn wsX5_isMould wsX5_in := goodIn_r _ [4] (by decide +kernel) (by decide +kernel)
set_option maxRecDepth 20000 in
theorem gX5_isMould_X5_in : GoodIn wsX5_isMould (va_wsS RX5 41 yX5_in wsX5_in) := goodIn_app (goodIn_of _ (by decide +kernel)) ggX5_isMould_X5_in
theorem dX5_isMould_0 : decode cX5_isMould 0 = .ok (.iload_n 0, 1) := by decide +kernel
theorem dX5_isMould_1 : decode cX5_isMould 1 = .ok (.iconst (-1), 1) := by decide +kernel
theorem dX5_isMould_2 : decode cX5_isMould 2 = .ok (.bipush 99, 2) := by decide +kernel
theorem dX5_isMould_4 : decode cX5_isMould 4 = .ok (.invokestatic 41, 3) := by decide +kernel
theorem dX5_isMould_7 : decode cX5_isMould 7 = .ok (.ireturn, 1) := by decide +kernel
set_option maxRecDepth 20000 in
theorem ggX5_isYear_X5_in : GoodIn wsX5_isYear wsX5_in := goodIn_r _ [4] (by decide +kernel) (by decide +kernel)
set_option maxRecDepth 20000 in
theorem gX5_isYear_X5_in : GoodIn wsX5_isYear (va_wsS RX5 41 yX5_in wsX5_in) := goodIn_app (goodIn_of _ (by decide +kernel)) ggX5_isYear_X5_in
theorem dX5_isYear_0 : decode cX5_isYear 0 = .ok (.iload_n 0, 1) := by decide +kernel
theorem dX5_isYear_1 : decode cX5_isYear 1 = .ok (.iconst (-1), 1) := by decide +kernel
theorem dX5_isYear_2 : decode cX5_isYear 2 = .ok (.if_icmp .eq 16, 3) := by decide +kernel
theorem dX5_isYear_5 : decode cX5_isYear 5 = .ok (.iload_n 0, 1) := by decide +kernel
theorem dX5_isYear_6 : decode cX5_isYear 6 = .ok (.sipush 1450, 3) := by decide +kernel
theorem dX5_isYear_9 : decode cX5_isYear 9 = .ok (.sipush 1999, 3) := by decide +kernel
theorem dX5_isYear_12 : decode cX5_isYear 12 = .ok (.invokestatic 41, 3) := by decide +kernel
theorem dX5_isYear_15 : decode cX5_isYear 15 = .ok (.ifCond .eq 7, 3) := by decide +kernel
theorem dX5_isYear_18 : decode cX5_isYear 18 = .ok (.iconst 1, 1) := by decide +kernel
theorem dX5_isYear_19 : decode cX5_isYear 19 = .ok (.goto 4, 3) := by decide +kernel
theorem dX5_isYear_22 : decode cX5_isYear 22 = .ok (.iconst 0, 1) := by decide +kernel
theorem dX5_isYear_23 : decode cX5_isYear 23 = .ok (.ireturn, 1) := by decide +kernel
theorem dX5_comes_0 : decode cX5_comes 0 = .ok (.iconst 4, 1) := by decide +kernel
theorem dX5_comes_1 : decode cX5_comes 1 = .ok (.aload_n 0, 1) := by decide +kernel
theorem dX5_comes_2 : decode cX5_comes 2 = .ok (.getfield 7, 3) := by decide +kernel
theorem dX5_comes_5 : decode cX5_comes 5 = .ok (.bipush 40, 2) := by decide +kernel
theorem dX5_comes_7 : decode cX5_comes 7 = .ok (.iaload, 1) := by decide +kernel
theorem dX5_comes_8 : decode cX5_comes 8 = .ok (.imul, 1) := by decide +kernel
theorem dX5_comes_9 : decode cX5_comes 9 = .ok (.istore 5, 2) := by decide +kernel
theorem dX5_comes_11 : decode cX5_comes 11 = .ok (.aload_n 0, 1) := by decide +kernel
theorem dX5_comes_12 : decode cX5_comes 12 = .ok (.getfield 7, 3) := by decide +kernel
theorem dX5_comes_15 : decode cX5_comes 15 = .ok (.iload 5, 2) := by decide +kernel
theorem dX5_comes_17 : decode cX5_comes 17 = .ok (.iload_n 1, 1) := by decide +kernel
theorem dX5_comes_18 : decode cX5_comes 18 = .ok (.iastore, 1) := by decide +kernel
theorem dX5_comes_19 : decode cX5_comes 19 = .ok (.aload_n 0, 1) := by decide +kernel
theorem dX5_comes_20 : decode cX5_comes 20 = .ok (.getfield 7, 3) := by decide +kernel
theorem dX5_comes_23 : decode cX5_comes 23 = .ok (.iload 5, 2) := by decide +kernel
theorem dX5_comes_25 : decode cX5_comes 25 = .ok (.iconst 1, 1) := by decide +kernel
theorem dX5_comes_26 : decode cX5_comes 26 = .ok (.iadd, 1) := by decide +kernel
theorem dX5_comes_27 : decode cX5_comes 27 = .ok (.iload_n 2, 1) := by decide +kernel
theorem dX5_comes_28 : decode cX5_comes 28 = .ok (.iastore, 1) := by decide +kernel
theorem dX5_comes_29 : decode cX5_comes 29 = .ok (.aload_n 0, 1) := by decide +kernel
theorem dX5_comes_30 : decode cX5_comes 30 = .ok (.getfield 7, 3) := by decide +kernel
theorem dX5_comes_33 : decode cX5_comes 33 = .ok (.iload 5, 2) := by decide +kernel
theorem dX5_comes_35 : decode cX5_comes 35 = .ok (.iconst 2, 1) := by decide +kernel
theorem dX5_comes_36 : decode cX5_comes 36 = .ok (.iadd, 1) := by decide +kernel
theorem dX5_comes_37 : decode cX5_comes 37 = .ok (.iload_n 3, 1) := by decide +kernel
theorem dX5_comes_38 : decode cX5_comes 38 = .ok (.iastore, 1) := by decide +kernel
theorem dX5_comes_39 : decode cX5_comes 39 = .ok (.aload_n 0, 1) := by decide +kernel
theorem dX5_comes_40 : decode cX5_comes 40 = .ok (.getfield 7, 3) := by decide +kernel
theorem dX5_comes_43 : decode cX5_comes 43 = .ok (.iload 5, 2) := by decide +kernel
theorem dX5_comes_45 : decode cX5_comes 45 = .ok (.iconst 3, 1) := by decide +kernel
theorem dX5_comes_46 : decode cX5_comes 46 = .ok (.iadd, 1) := by decide +kernel
theorem dX5_comes_47 : decode cX5_comes 47 = .ok (.iload 4, 2) := by decide +kernel
theorem dX5_comes_49 : decode cX5_comes 49 = .ok (.iastore, 1) := by decide +kernel
theorem dX5_comes_50 : decode cX5_comes 50 = .ok (.aload_n 0, 1) := by decide +kernel
theorem dX5_comes_51 : decode cX5_comes 51 = .ok (.getfield 7, 3) := by decide +kernel
theorem dX5_comes_54 : decode cX5_comes 54 = .ok (.bipush 40, 2) := by decide +kernel
theorem dX5_comes_56 : decode cX5_comes 56 = .ok (.dup2, 1) := by decide +kernel
theorem dX5_comes_57 : decode cX5_comes 57 = .ok (.iaload, 1) := by decide +kernel
theorem dX5_comes_58 : decode cX5_comes 58 = .ok (.iconst 1, 1) := by decide +kernel
theorem dX5_comes_59 : decode cX5_comes 59 = .ok (.iadd, 1) := by decide +kernel
theorem dX5_comes_60 : decode cX5_comes 60 = .ok (.iastore, 1) := by decide +kernel
theorem dX5_comes_61 : decode cX5_comes 61 = .ok (.aload_n 0, 1) := by decide +kernel
theorem dX5_comes_62 : decode cX5_comes 62 = .ok (.getfield 7, 3) := by decide +kernel
theorem dX5_comes_65 : decode cX5_comes 65 = .ok (.bipush 40, 2) := by decide +kernel
theorem dX5_comes_67 : decode cX5_comes 67 = .ok (.iaload, 1) := by decide +kernel
theorem dX5_comes_68 : decode cX5_comes 68 = .ok (.iconst 1, 1) := by decide +kernel
theorem dX5_comes_69 : decode cX5_comes 69 = .ok (.isub, 1) := by decide +kernel
theorem dX5_comes_70 : decode cX5_comes 70 = .ok (.ireturn, 1) := by decide +kernel
set_option maxRecDepth 20000 in
theorem ggX5_book_X5_in : GoodIn wsX5_book wsX5_in := goodIn_r _ [6] (by decide +kernel) (by decide +kernel)
set_option maxRecDepth 20000 in
theorem gX5_book_X5_in : GoodIn wsX5_book (va_wsS RX5 41 yX5_in wsX5_in) := goodIn_app (goodIn_of _ (by decide +kernel)) ggX5_book_X5_in
set_option maxRecDepth 20000 in
theorem ggX5_book_X5_isMould : GoodIn wsX5_book wsX5_isMould := goodIn_r _ [9, 3, 4, 5, 6] (by decide +kernel) (by decide +kernel)
set_option maxRecDepth 20000 in
theorem gX5_book_X5_isMould : GoodIn wsX5_book (va_wsS RX5 82 yX5_isMould wsX5_isMould) := goodIn_app (goodIn_of _ (by decide +kernel)) ggX5_book_X5_isMould
set_option maxRecDepth 20000 in
theorem ggX5_book_X5_isYear : GoodIn wsX5_book wsX5_isYear := goodIn_r _ [12, 3, 4, 5, 6] (by decide +kernel) (by decide +kernel)
set_option maxRecDepth 20000 in
theorem gX5_book_X5_isYear : GoodIn wsX5_book (va_wsS RX5 85 yX5_isYear wsX5_isYear) := goodIn_app (goodIn_of _ (by decide +kernel)) ggX5_book_X5_isYear
set_option maxRecDepth 20000 in
theorem ggX5_book_X5_fails : GoodIn wsX5_book wsX5_fails := goodIn_r _ [16, 1, 30, 31, 32, 33, 34, 35, 36, 37, 38, 39, 40, 41, 42, 43, 44] (by decide +kernel) (by decide +kernel)
set_option maxRecDepth 20000 in
theorem gX5_book_X5_fails : GoodIn wsX5_book (wsV RX5 49 RX5 yX5_fails wsX5_fails) := goodIn_app (goodIn_of _ (by decide +kernel)) ggX5_book_X5_fails
set_option maxRecDepth 20000 in
theorem ggX5_book_X5_saves : GoodIn wsX5_book wsX5_saves := goodIn_r _ [20, 21, 22, 2, 23, 24, 5, 25, 30, 31, 32, 33, 34, 35, 36, 37, 38, 39, 40, 41, 42, 43, 44] (by decide +kernel) (by decide +kernel)
set_option maxRecDepth 20000 in
theorem gX5_book_X5_saves : GoodIn wsX5_book (wsV RX5 88 RX5 yX5_saves wsX5_saves) := goodIn_app (goodIn_of _ (by decide +kernel)) ggX5_book_X5_saves
set_option maxRecDepth 20000 in
theorem ggX5_book_X5_comes : GoodIn wsX5_book wsX5_comes := goodIn_r _ [29, 2, 30, 31, 32, 33, 34, 35, 36, 37, 38, 39, 40, 41, 42, 43, 44] (by decide +kernel) (by decide +kernel)
set_option maxRecDepth 20000 in
theorem gX5_book_X5_comes : GoodIn wsX5_book (wsV RX5 91 RX5 yX5_comes wsX5_comes) := goodIn_app (goodIn_of _ (by decide +kernel)) ggX5_book_X5_comes
theorem dX5_book_0 : decode cX5_book 0 = .ok (.aload_n 0, 1) := by decide +kernel
theorem dX5_book_1 : decode cX5_book 1 = .ok (.iconst 0, 1) := by decide +kernel
theorem dX5_book_2 : decode cX5_book 2 = .ok (.putfield 38, 3) := by decide +kernel
theorem dX5_book_5 : decode cX5_book 5 = .ok (.iload_n 1, 1) := by decide +kernel
theorem dX5_book_6 : decode cX5_book 6 = .ok (.iconst 0, 1) := by decide +kernel
theorem dX5_book_7 : decode cX5_book 7 = .ok (.iconst 2, 1) := by decide +kernel
theorem dX5_book_8 : decode cX5_book 8 = .ok (.invokestatic 41, 3) := by decide +kernel
theorem dX5_book_11 : decode cX5_book 11 = .ok (.ifCond .eq 29, 3) := by decide +kernel
theorem dX5_book_14 : decode cX5_book 14 = .ok (.iload_n 2, 1) := by decide +kernel
theorem dX5_book_15 : decode cX5_book 15 = .ok (.iconst 0, 1) := by decide +kernel
theorem dX5_book_16 : decode cX5_book 16 = .ok (.sipush 4095, 3) := by decide +kernel
theorem dX5_book_19 : decode cX5_book 19 = .ok (.invokestatic 41, 3) := by decide +kernel
theorem dX5_book_22 : decode cX5_book 22 = .ok (.ifCond .eq 18, 3) := by decide +kernel
theorem dX5_book_25 : decode cX5_book 25 = .ok (.iload_n 3, 1) := by decide +kernel
theorem dX5_book_26 : decode cX5_book 26 = .ok (.invokestatic 82, 3) := by decide +kernel
theorem dX5_book_29 : decode cX5_book 29 = .ok (.ifCond .eq 11, 3) := by decide +kernel
theorem dX5_book_32 : decode cX5_book 32 = .ok (.iload 4, 2) := by decide +kernel
theorem dX5_book_34 : decode cX5_book 34 = .ok (.invokestatic 85, 3) := by decide +kernel
theorem dX5_book_37 : decode cX5_book 37 = .ok (.ifCond .ne 9, 3) := by decide +kernel
theorem dX5_book_40 : decode cX5_book 40 = .ok (.aload_n 0, 1) := by decide +kernel
theorem dX5_book_41 : decode cX5_book 41 = .ok (.iconst 1, 1) := by decide +kernel
theorem dX5_book_42 : decode cX5_book 42 = .ok (.invokevirtual 49, 3) := by decide +kernel
theorem dX5_book_45 : decode cX5_book 45 = .ok (.ireturn, 1) := by decide +kernel
theorem dX5_book_46 : decode cX5_book 46 = .ok (.aload_n 0, 1) := by decide +kernel
theorem dX5_book_47 : decode cX5_book 47 = .ok (.getfield 7, 3) := by decide +kernel
theorem dX5_book_50 : decode cX5_book 50 = .ok (.bipush 40, 2) := by decide +kernel
theorem dX5_book_52 : decode cX5_book 52 = .ok (.iaload, 1) := by decide +kernel
theorem dX5_book_53 : decode cX5_book 53 = .ok (.bipush 10, 2) := by decide +kernel
theorem dX5_book_55 : decode cX5_book 55 = .ok (.if_icmp .ne 9, 3) := by decide +kernel
theorem dX5_book_58 : decode cX5_book 58 = .ok (.aload_n 0, 1) := by decide +kernel
theorem dX5_book_59 : decode cX5_book 59 = .ok (.iconst 2, 1) := by decide +kernel
theorem dX5_book_60 : decode cX5_book 60 = .ok (.invokevirtual 49, 3) := by decide +kernel
theorem dX5_book_63 : decode cX5_book 63 = .ok (.ireturn, 1) := by decide +kernel
theorem dX5_book_64 : decode cX5_book 64 = .ok (.aload_n 0, 1) := by decide +kernel
theorem dX5_book_65 : decode cX5_book 65 = .ok (.invokevirtual 88, 3) := by decide +kernel
theorem dX5_book_68 : decode cX5_book 68 = .ok (.aload_n 0, 1) := by decide +kernel
theorem dX5_book_69 : decode cX5_book 69 = .ok (.iload_n 1, 1) := by decide +kernel
theorem dX5_book_70 : decode cX5_book 70 = .ok (.iload_n 2, 1) := by decide +kernel
theorem dX5_book_71 : decode cX5_book 71 = .ok (.iload_n 3, 1) := by decide +kernel
theorem dX5_book_72 : decode cX5_book 72 = .ok (.iload 4, 2) := by decide +kernel
theorem dX5_book_74 : decode cX5_book 74 = .ok (.invokevirtual 91, 3) := by decide +kernel
theorem dX5_book_77 : decode cX5_book 77 = .ok (.ireturn, 1) := by decide +kernel
set_option maxRecDepth 20000 in
theorem ggX5_take_X5_isBook : GoodIn wsX5_take wsX5_isBook := goodIn_r _ [7, 2, 8, 9, 6, 10, 24, 25, 26, 27, 28, 29, 30, 31, 32, 33, 34, 35, 36, 37, 38] (by decide +kernel) (by decide +kernel)
set_option maxRecDepth 20000 in
theorem gX5_take_X5_isBook : GoodIn wsX5_take (wsV RX5 95 RX5 yX5_isBook wsX5_isBook) := goodIn_app (goodIn_of _ (by decide +kernel)) ggX5_take_X5_isBook
set_option maxRecDepth 20000 in
theorem ggX5_take_X5_fails : GoodIn wsX5_take wsX5_fails := goodIn_r _ [14, 1, 24, 25, 26, 27, 28, 29, 30, 31, 32, 33, 34, 35, 36, 37, 38] (by decide +kernel) (by decide +kernel)
set_option maxRecDepth 20000 in
theorem gX5_take_X5_fails : GoodIn wsX5_take (wsV RX5 49 RX5 yX5_fails wsX5_fails) := goodIn_app (goodIn_of _ (by decide +kernel)) ggX5_take_X5_fails
set_option maxRecDepth 20000 in
theorem ggX5_take_X5_saves : GoodIn wsX5_take wsX5_saves := goodIn_r _ [18, 19, 20, 2, 21, 22, 6, 23, 24, 25, 26, 27, 28, 29, 30, 31, 32, 33, 34, 35, 36, 37, 38] (by decide +kernel) (by decide +kernel)
set_option maxRecDepth 20000 in
theorem gX5_take_X5_saves : GoodIn wsX5_take (wsV RX5 88 RX5 yX5_saves wsX5_saves) := goodIn_app (goodIn_of _ (by decide +kernel)) ggX5_take_X5_saves
theorem dX5_take_0 : decode cX5_take 0 = .ok (.aload_n 0, 1) := by decide +kernel
theorem dX5_take_1 : decode cX5_take 1 = .ok (.iconst 0, 1) := by decide +kernel
theorem dX5_take_2 : decode cX5_take 2 = .ok (.putfield 38, 3) := by decide +kernel
theorem dX5_take_5 : decode cX5_take 5 = .ok (.aload_n 0, 1) := by decide +kernel
theorem dX5_take_6 : decode cX5_take 6 = .ok (.iload_n 1, 1) := by decide +kernel
theorem dX5_take_7 : decode cX5_take 7 = .ok (.invokevirtual 95, 3) := by decide +kernel
theorem dX5_take_10 : decode cX5_take 10 = .ok (.ifCond .ne 9, 3) := by decide +kernel
theorem dX5_take_13 : decode cX5_take 13 = .ok (.aload_n 0, 1) := by decide +kernel
theorem dX5_take_14 : decode cX5_take 14 = .ok (.iconst 1, 1) := by decide +kernel
theorem dX5_take_15 : decode cX5_take 15 = .ok (.invokevirtual 49, 3) := by decide +kernel
theorem dX5_take_18 : decode cX5_take 18 = .ok (.ireturn, 1) := by decide +kernel
theorem dX5_take_19 : decode cX5_take 19 = .ok (.aload_n 0, 1) := by decide +kernel
theorem dX5_take_20 : decode cX5_take 20 = .ok (.invokevirtual 88, 3) := by decide +kernel
theorem dX5_take_23 : decode cX5_take 23 = .ok (.aload_n 0, 1) := by decide +kernel
theorem dX5_take_24 : decode cX5_take 24 = .ok (.getfield 7, 3) := by decide +kernel
theorem dX5_take_27 : decode cX5_take 27 = .ok (.bipush 40, 2) := by decide +kernel
theorem dX5_take_29 : decode cX5_take 29 = .ok (.dup2, 1) := by decide +kernel
theorem dX5_take_30 : decode cX5_take 30 = .ok (.iaload, 1) := by decide +kernel
theorem dX5_take_31 : decode cX5_take 31 = .ok (.iconst 1, 1) := by decide +kernel
theorem dX5_take_32 : decode cX5_take 32 = .ok (.isub, 1) := by decide +kernel
theorem dX5_take_33 : decode cX5_take 33 = .ok (.iastore, 1) := by decide +kernel
theorem dX5_take_34 : decode cX5_take 34 = .ok (.iconst 4, 1) := by decide +kernel
theorem dX5_take_35 : decode cX5_take 35 = .ok (.iload_n 1, 1) := by decide +kernel
theorem dX5_take_36 : decode cX5_take 36 = .ok (.imul, 1) := by decide +kernel
theorem dX5_take_37 : decode cX5_take 37 = .ok (.istore_n 2, 1) := by decide +kernel
theorem dX5_take_38 : decode cX5_take 38 = .ok (.iload_n 2, 1) := by decide +kernel
theorem dX5_take_39 : decode cX5_take 39 = .ok (.iconst 4, 1) := by decide +kernel
theorem dX5_take_40 : decode cX5_take 40 = .ok (.aload_n 0, 1) := by decide +kernel
theorem dX5_take_41 : decode cX5_take 41 = .ok (.getfield 7, 3) := by decide +kernel
theorem dX5_take_44 : decode cX5_take 44 = .ok (.bipush 40, 2) := by decide +kernel
theorem dX5_take_46 : decode cX5_take 46 = .ok (.iaload, 1) := by decide +kernel
theorem dX5_take_47 : decode cX5_take 47 = .ok (.imul, 1) := by decide +kernel
theorem dX5_take_48 : decode cX5_take 48 = .ok (.if_icmp .ge 23, 3) := by decide +kernel
theorem dX5_take_51 : decode cX5_take 51 = .ok (.aload_n 0, 1) := by decide +kernel
theorem dX5_take_52 : decode cX5_take 52 = .ok (.getfield 7, 3) := by decide +kernel
theorem dX5_take_55 : decode cX5_take 55 = .ok (.iload_n 2, 1) := by decide +kernel
theorem dX5_take_56 : decode cX5_take 56 = .ok (.aload_n 0, 1) := by decide +kernel
theorem dX5_take_57 : decode cX5_take 57 = .ok (.getfield 7, 3) := by decide +kernel
theorem dX5_take_60 : decode cX5_take 60 = .ok (.iload_n 2, 1) := by decide +kernel
theorem dX5_take_61 : decode cX5_take 61 = .ok (.iconst 4, 1) := by decide +kernel
theorem dX5_take_62 : decode cX5_take 62 = .ok (.iadd, 1) := by decide +kernel
theorem dX5_take_63 : decode cX5_take 63 = .ok (.iaload, 1) := by decide +kernel
theorem dX5_take_64 : decode cX5_take 64 = .ok (.iastore, 1) := by decide +kernel
theorem dX5_take_65 : decode cX5_take 65 = .ok (.iinc 2 1, 3) := by decide +kernel
theorem dX5_take_68 : decode cX5_take 68 = .ok (.goto (-30), 3) := by decide +kernel
theorem dX5_take_71 : decode cX5_take 71 = .ok (.aload_n 0, 1) := by decide +kernel
theorem dX5_take_72 : decode cX5_take 72 = .ok (.getfield 7, 3) := by decide +kernel
theorem dX5_take_75 : decode cX5_take 75 = .ok (.bipush 40, 2) := by decide +kernel
theorem dX5_take_77 : decode cX5_take 77 = .ok (.iaload, 1) := by decide +kernel
theorem dX5_take_78 : decode cX5_take 78 = .ok (.ireturn, 1) := by decide +kernel
theorem dX5_changes_0 : decode cX5_changes 0 = .ok (.aload_n 0, 1) := by decide +kernel
theorem dX5_changes_1 : decode cX5_changes 1 = .ok (.getfield 7, 3) := by decide +kernel
theorem dX5_changes_4 : decode cX5_changes 4 = .ok (.iload_n 1, 1) := by decide +kernel
theorem dX5_changes_5 : decode cX5_changes 5 = .ok (.iaload, 1) := by decide +kernel
theorem dX5_changes_6 : decode cX5_changes 6 = .ok (.istore_n 3, 1) := by decide +kernel
theorem dX5_changes_7 : decode cX5_changes 7 = .ok (.aload_n 0, 1) := by decide +kernel
theorem dX5_changes_8 : decode cX5_changes 8 = .ok (.getfield 7, 3) := by decide +kernel
theorem dX5_changes_11 : decode cX5_changes 11 = .ok (.iload_n 1, 1) := by decide +kernel
theorem dX5_changes_12 : decode cX5_changes 12 = .ok (.iload_n 2, 1) := by decide +kernel
theorem dX5_changes_13 : decode cX5_changes 13 = .ok (.iastore, 1) := by decide +kernel
theorem dX5_changes_14 : decode cX5_changes 14 = .ok (.iload_n 3, 1) := by decide +kernel
theorem dX5_changes_15 : decode cX5_changes 15 = .ok (.ireturn, 1) := by decide +kernel
set_option maxRecDepth 20000 in
theorem ggX5_isLetter_X5_in : GoodIn wsX5_isLetter wsX5_in := goodIn_r _ [4] (by decide +kernel) (by decide +kernel)
set_option maxRecDepth 20000 in
theorem gX5_isLetter_X5_in : GoodIn wsX5_isLetter (va_wsS RX5 41 yX5_in wsX5_in) := goodIn_app (goodIn_of _ (by decide +kernel)) ggX5_isLetter_X5_in
theorem dX5_isLetter_0 : decode cX5_isLetter 0 = .ok (.iload_n 0, 1) := by decide +kernel
theorem dX5_isLetter_1 : decode cX5_isLetter 1 = .ok (.iconst 0, 1) := by decide +kernel
theorem dX5_isLetter_2 : decode cX5_isLetter 2 = .ok (.bipush 11, 2) := by decide +kernel
theorem dX5_isLetter_4 : decode cX5_isLetter 4 = .ok (.invokestatic 41, 3) := by decide +kernel
theorem dX5_isLetter_7 : decode cX5_isLetter 7 = .ok (.ireturn, 1) := by decide +kernel
set_option maxRecDepth 20000 in
theorem ggX5_crack_X5_isBook : GoodIn wsX5_crack wsX5_isBook := goodIn_r _ [7, 2, 8, 9, 6, 10, 30, 31, 32, 33, 34, 35, 36, 37, 38, 39, 40, 41, 42, 43, 44] (by decide +kernel) (by decide +kernel)
set_option maxRecDepth 20000 in
theorem gX5_crack_X5_isBook : GoodIn wsX5_crack (wsV RX5 95 RX5 yX5_isBook wsX5_isBook) := goodIn_app (goodIn_of _ (by decide +kernel)) ggX5_crack_X5_isBook
set_option maxRecDepth 20000 in
theorem ggX5_crack_X5_isLetter : GoodIn wsX5_crack wsX5_isLetter := goodIn_r _ [13, 8, 9, 6, 10] (by decide +kernel) (by decide +kernel)
set_option maxRecDepth 20000 in
theorem gX5_crack_X5_isLetter : GoodIn wsX5_crack (va_wsS RX5 98 yX5_isLetter wsX5_isLetter) := goodIn_app (goodIn_of _ (by decide +kernel)) ggX5_crack_X5_isLetter
set_option maxRecDepth 20000 in
theorem ggX5_crack_X5_fails : GoodIn wsX5_crack wsX5_fails := goodIn_r _ [17, 1, 30, 31, 32, 33, 34, 35, 36, 37, 38, 39, 40, 41, 42, 43, 44] (by decide +kernel) (by decide +kernel)
set_option maxRecDepth 20000 in
theorem gX5_crack_X5_fails : GoodIn wsX5_crack (wsV RX5 49 RX5 yX5_fails wsX5_fails) := goodIn_app (goodIn_of _ (by decide +kernel)) ggX5_crack_X5_fails
set_option maxRecDepth 20000 in
theorem ggX5_crack_X5_saves : GoodIn wsX5_crack wsX5_saves := goodIn_r _ [21, 22, 23, 2, 24, 25, 6, 26, 30, 31, 32, 33, 34, 35, 36, 37, 38, 39, 40, 41, 42, 43, 44] (by decide +kernel) (by decide +kernel)
set_option maxRecDepth 20000 in
theorem gX5_crack_X5_saves : GoodIn wsX5_crack (wsV RX5 88 RX5 yX5_saves wsX5_saves) := goodIn_app (goodIn_of _ (by decide +kernel)) ggX5_crack_X5_saves
set_option maxRecDepth 20000 in
theorem ggX5_crack_X5_of : GoodIn wsX5_crack wsX5_of := goodIn_r _ [29] (by decide +kernel) (by decide +kernel)
set_option maxRecDepth 20000 in
theorem gX5_crack_X5_of : GoodIn wsX5_crack (va_wsS RX5 53 yX5_of wsX5_of) := goodIn_app (goodIn_of _ (by decide +kernel)) ggX5_crack_X5_of
theorem dX5_crack_0 : decode cX5_crack 0 = .ok (.aload_n 0, 1) := by decide +kernel
theorem dX5_crack_1 : decode cX5_crack 1 = .ok (.iconst 0, 1) := by decide +kernel
theorem dX5_crack_2 : decode cX5_crack 2 = .ok (.putfield 38, 3) := by decide +kernel
theorem dX5_crack_5 : decode cX5_crack 5 = .ok (.aload_n 0, 1) := by decide +kernel
theorem dX5_crack_6 : decode cX5_crack 6 = .ok (.iload_n 1, 1) := by decide +kernel
theorem dX5_crack_7 : decode cX5_crack 7 = .ok (.invokevirtual 95, 3) := by decide +kernel
theorem dX5_crack_10 : decode cX5_crack 10 = .ok (.ifCond .eq 10, 3) := by decide +kernel
theorem dX5_crack_13 : decode cX5_crack 13 = .ok (.iload_n 2, 1) := by decide +kernel
theorem dX5_crack_14 : decode cX5_crack 14 = .ok (.invokestatic 98, 3) := by decide +kernel
theorem dX5_crack_17 : decode cX5_crack 17 = .ok (.ifCond .ne 9, 3) := by decide +kernel
theorem dX5_crack_20 : decode cX5_crack 20 = .ok (.aload_n 0, 1) := by decide +kernel
theorem dX5_crack_21 : decode cX5_crack 21 = .ok (.iconst 1, 1) := by decide +kernel
theorem dX5_crack_22 : decode cX5_crack 22 = .ok (.invokevirtual 49, 3) := by decide +kernel
theorem dX5_crack_25 : decode cX5_crack 25 = .ok (.ireturn, 1) := by decide +kernel
theorem dX5_crack_26 : decode cX5_crack 26 = .ok (.aload_n 0, 1) := by decide +kernel
theorem dX5_crack_27 : decode cX5_crack 27 = .ok (.invokevirtual 88, 3) := by decide +kernel
theorem dX5_crack_30 : decode cX5_crack 30 = .ok (.aload_n 0, 1) := by decide +kernel
theorem dX5_crack_31 : decode cX5_crack 31 = .ok (.getfield 7, 3) := by decide +kernel
theorem dX5_crack_34 : decode cX5_crack 34 = .ok (.iload_n 1, 1) := by decide +kernel
theorem dX5_crack_35 : decode cX5_crack 35 = .ok (.iconst 1, 1) := by decide +kernel
theorem dX5_crack_36 : decode cX5_crack 36 = .ok (.invokestatic 53, 3) := by decide +kernel
theorem dX5_crack_39 : decode cX5_crack 39 = .ok (.istore 4, 2) := by decide +kernel
theorem dX5_crack_41 : decode cX5_crack 41 = .ok (.aload_n 0, 1) := by decide +kernel
theorem dX5_crack_42 : decode cX5_crack 42 = .ok (.getfield 7, 3) := by decide +kernel
theorem dX5_crack_45 : decode cX5_crack 45 = .ok (.iconst 4, 1) := by decide +kernel
theorem dX5_crack_46 : decode cX5_crack 46 = .ok (.iload_n 1, 1) := by decide +kernel
theorem dX5_crack_47 : decode cX5_crack 47 = .ok (.imul, 1) := by decide +kernel
theorem dX5_crack_48 : decode cX5_crack 48 = .ok (.iconst 1, 1) := by decide +kernel
theorem dX5_crack_49 : decode cX5_crack 49 = .ok (.iadd, 1) := by decide +kernel
theorem dX5_crack_50 : decode cX5_crack 50 = .ok (.iload_n 3, 1) := by decide +kernel
theorem dX5_crack_51 : decode cX5_crack 51 = .ok (.ifCond .eq 12, 3) := by decide +kernel
theorem dX5_crack_54 : decode cX5_crack 54 = .ok (.iload 4, 2) := by decide +kernel
theorem dX5_crack_56 : decode cX5_crack 56 = .ok (.iconst 1, 1) := by decide +kernel
theorem dX5_crack_57 : decode cX5_crack 57 = .ok (.iload_n 2, 1) := by decide +kernel
theorem dX5_crack_58 : decode cX5_crack 58 = .ok (.ishl, 1) := by decide +kernel
theorem dX5_crack_59 : decode cX5_crack 59 = .ok (.ior, 1) := by decide +kernel
theorem dX5_crack_60 : decode cX5_crack 60 = .ok (.goto 11, 3) := by decide +kernel
theorem dX5_crack_63 : decode cX5_crack 63 = .ok (.iload 4, 2) := by decide +kernel
theorem dX5_crack_65 : decode cX5_crack 65 = .ok (.iconst 1, 1) := by decide +kernel
theorem dX5_crack_66 : decode cX5_crack 66 = .ok (.iload_n 2, 1) := by decide +kernel
theorem dX5_crack_67 : decode cX5_crack 67 = .ok (.ishl, 1) := by decide +kernel
theorem dX5_crack_68 : decode cX5_crack 68 = .ok (.iconst (-1), 1) := by decide +kernel
theorem dX5_crack_69 : decode cX5_crack 69 = .ok (.ixor, 1) := by decide +kernel
theorem dX5_crack_70 : decode cX5_crack 70 = .ok (.iand, 1) := by decide +kernel
theorem dX5_crack_71 : decode cX5_crack 71 = .ok (.iastore, 1) := by decide +kernel
theorem dX5_crack_72 : decode cX5_crack 72 = .ok (.iload 4, 2) := by decide +kernel
theorem dX5_crack_74 : decode cX5_crack 74 = .ok (.iload_n 2, 1) := by decide +kernel
theorem dX5_crack_75 : decode cX5_crack 75 = .ok (.ishr, 1) := by decide +kernel
theorem dX5_crack_76 : decode cX5_crack 76 = .ok (.iconst 1, 1) := by decide +kernel
theorem dX5_crack_77 : decode cX5_crack 77 = .ok (.iand, 1) := by decide +kernel
theorem dX5_crack_78 : decode cX5_crack 78 = .ok (.ireturn, 1) := by decide +kernel
def f_X5_isDated (p1 : Int32) (f1 : Nat → Int32) : Option (Int32) := (rdA f1 20 ((2 : Int32) * p1)).bind (fun v1 => (rdA f1 20 (((2 : Int32) * p1) + 1)).bind (fun v2 => (jn (u1 fun (s3 : Int32) => gB s3 (some s3)) (fun K4 => (if v1 = v2 then K4 1 else K4 0)))))
theorem in_X5_isDated_X5 : ∀ w ∈ wsX50, w ∈ wsX5_isDated := by decide +kernel
theorem fl_X5_isDated_31 : Cond.fieldLink RX5 31 "ColophonHuntModel" "years" "[I" ∈ wsX5_isDated := by decide +kernel
theorem hd_X5_isDated : yX5_isDated.cls = RX5 ∧ yX5_isDated.cls ≠ "java/lang/invoke/MethodHandle" ∧ yX5_isDated.cls ≠ "java/lang/invoke/VarHandle" ∧ (parseMethodDescriptor yX5_isDated.desc).map (fun d => d.parameters.length) = some 1 := by decide +kernel
set_option maxRecDepth 100000 in
set_option maxHeartbeats 4000000 in
theorem c_X5_isDated (l : Launch) (D : va_G) (cI cS cL : ClassId) (a0 : Nat) (a1 : Nat) (b0_0 : Nat) (b0_1 : Nat) (b0_2 : Nat) (b0_4 : Nat) (b0_10 : Nat) (b0_12 : Nat) (b0_13 : Nat) (p1 : Int32) (x0_kept : Int32) (x0_typed : Int32) (x0_thrown : Int32) (x0_at : Int32) (x0_isFault : Int32) (x0_value : Int32) (x0_tolds : Int32) (f1 : Nat → Int32) (rr : Int32) (hc : f_X5_isDated p1 f1 = some rr) : KM l yX5_isDated wsX5_isDated { frames := 0, cells := 0, slots := 0, locals := 0 } D (tyS cI cS cL) [.ref a0, .int p1] [(a0, .inr (5, [.ref b0_0, .ref b0_1, .ref b0_2, .int x0_kept, .ref b0_4, .int x0_typed, .int x0_thrown, .int x0_at, .int x0_isFault, .int x0_value, .ref b0_10, .int x0_tolds, .ref b0_12, .ref b0_13, .ref a1])), (a1, .inl (cI, 20, .inl f1))] (some (.int rr)) (fun w => w = [(a0, .inr (5, [.ref b0_0, .ref b0_1, .ref b0_2, .int x0_kept, .ref b0_4, .int x0_typed, .int x0_thrown, .int x0_at, .int x0_isFault, .int x0_value, .ref b0_10, .int x0_tolds, .ref b0_12, .ref b0_13, .ref a1])), (a1, .inl (cI, 20, .inl f1))]) 0 0 := by
  refine g_entry (cc := cX5_isDated) (nL := 2) (rt := (some .boolean)) (by decide) rfl (Nat.le_of_ble_eq_true rfl) ?_
  intro p e s m args below meth c A (X : GC p s m args c cX5_isDated 2 RX5 wsX5_isDated D (tyS cI cS cL) A) hr hlk _ _
  have h := hc
  unfold f_X5_isDated at h
  refine g_lv (lv' := [(0, .ref a0), (1, .int p1)]) [0, 1] rfl ?_
  refine g_aload_n X (j := 0) dX5_isDated_0 rfl ?_
  refine g_get (q0 := 0) (k := 14) (ci := 5) X in_X5_isDated_X5 fl_X5_isDated_31 rfl rfl (Nat.le_of_ble_eq_true rfl) rfl dX5_isDated_1 ?_
  refine g_iconst (v := 2) X dX5_isDated_4 (by decide) ?_
  refine g_iload_n X (j := 1) dX5_isDated_5 rfl ?_
  refine g_imul X dX5_isDated_6 ?_
  refine g_iald (q0 := 1) (t0 := 0) X h rfl rfl dX5_isDated_7 (fun v1 h => ?_)
  refine g_aload_n X (j := 0) dX5_isDated_8 rfl ?_
  refine g_get (q0 := 0) (k := 14) (ci := 5) X in_X5_isDated_X5 fl_X5_isDated_31 rfl rfl (Nat.le_of_ble_eq_true rfl) rfl dX5_isDated_9 ?_
  refine g_iconst (v := 2) X dX5_isDated_12 (by decide) ?_
  refine g_iload_n X (j := 1) dX5_isDated_13 rfl ?_
  refine g_imul X dX5_isDated_14 ?_
  refine g_iconst (v := 1) X dX5_isDated_15 (by decide) ?_
  refine g_iadd X dX5_isDated_16 ?_
  refine g_iald (q0 := 1) (t0 := 0) X h rfl rfl dX5_isDated_17 (fun v2 h => ?_)
  refine jn_g h (u1 fun s3 => [(a0, .inr (5, [.ref b0_0, .ref b0_1, .ref b0_2, .int x0_kept, .ref b0_4, .int x0_typed, .int x0_thrown, .int x0_at, .int x0_isFault, .int x0_value, .ref b0_10, .int x0_tolds, .ref b0_12, .ref b0_13, .ref a1])), (a1, .inl (cI, 20, .inl f1))]) (u1 fun s3 => []) (u1 fun s3 => [.int s3]) 26 ?_ ?_
  · rintro s3 h
    dsimp only [u1] at h ⊢
    obtain ⟨hz, h⟩ := gB_e h
    have h := Option.some.inj h
    subst h
    exact g_zret X hr hlk hz dX5_isDated_26 rfl rfl
  · intro K4 hK4 h
    refine g_icmp_ne (tgt := 25) X h dX5_isDated_18 (by decide) (fun h => ?_) (fun h => ?_)
    · refine g_iconst (v := 0) X dX5_isDated_25 (by decide) ?_
      refine g_lv (lv' := []) [] rfl ?_
      exact hK4 0 h
    · refine g_iconst (v := 1) X dX5_isDated_21 (by decide) ?_
      refine g_goto (tgt := 26) X dX5_isDated_22 (by decide) ?_
      refine g_lv (lv' := []) [] rfl ?_
      exact hK4 1 h
def f_X5_dated (f1 : Nat → Int32) (f2 : Nat → Int32) (n3 : Nat) (f3 : Nat → Int32) : Option (Int32 × (Nat → Int32) × (Nat → Int32)) := (f_X5_dates f1 f2 n3 f3).bind (u2 fun (o2 : Nat → Int32) (o3 : Nat → Int32) => (wl (u2 fun (l2_4 : Int32) (l3_5 : Int32) => (rdA f3 n3 40).bind (fun v7 => (if v7 ≤ l3_5 then some (Sum.inr l2_4) else (f_X5_isDated l3_5 o3).bind (u1 fun (r8 : Int32) => (jn (u1 fun (s9 : Int32) => some (Sum.inl ((l2_4 + s9), (l3_5 + 1)))) (fun K10 => (if r8 = 0 then K10 0 else K10 1))))))) 9999 (0, 0)).bind (u1 fun (l2_6 : Int32) => some (l2_6, o2, o3)))
theorem hd_X5_dated : yX5_dated.cls = RX5 ∧ yX5_dated.cls ≠ "java/lang/invoke/MethodHandle" ∧ yX5_dated.cls ≠ "java/lang/invoke/VarHandle" ∧ (parseMethodDescriptor yX5_dated.desc).map (fun d => d.parameters.length) = some 1 := by decide +kernel
set_option maxRecDepth 100000 in
set_option maxHeartbeats 4000000 in
theorem c_X5_dated (l : Launch) (D : va_G) (cI cS cL : ClassId) (a0 : Nat) (a1 : Nat) (a2 : Nat) (a3 : Nat) (b0_0 : Nat) (b0_1 : Nat) (b0_2 : Nat) (b0_4 : Nat) (b0_10 : Nat) (b0_13 : Nat) (x0_kept : Int32) (x0_typed : Int32) (x0_thrown : Int32) (x0_at : Int32) (x0_isFault : Int32) (x0_value : Int32) (x0_tolds : Int32) (f1 : Nat → Int32) (f2 : Nat → Int32) (n3 : Nat) (f3 : Nat → Int32) (rr : Int32) (y0 : Nat → Int32) (y1 : Nat → Int32) (hc : f_X5_dated f1 f2 n3 f3 = some (rr, y0, y1)) : KM l yX5_dated wsX5_dated { frames := 4, cells := 0, slots := 0, locals := 94 } D (tyS cI cS cL) [.ref a0, .ref a3] [(a0, .inr (5, [.ref b0_0, .ref b0_1, .ref b0_2, .int x0_kept, .ref b0_4, .int x0_typed, .int x0_thrown, .int x0_at, .int x0_isFault, .int x0_value, .ref b0_10, .int x0_tolds, .ref a1, .ref b0_13, .ref a2])), (a1, .inl (cI, 10, .inl f1)), (a2, .inl (cI, 20, .inl f2)), (a3, .inl (cI, n3, .inl f3))] (some (.int rr)) (fun w => w = [(a0, .inr (5, [.ref b0_0, .ref b0_1, .ref b0_2, .int x0_kept, .ref b0_4, .int x0_typed, .int x0_thrown, .int x0_at, .int x0_isFault, .int x0_value, .ref b0_10, .int x0_tolds, .ref a1, .ref b0_13, .ref a2])), (a1, .inl (cI, 10, .inl y0)), (a2, .inl (cI, 20, .inl y1)), (a3, .inl (cI, n3, .inl f3))]) 0 0 := by
  refine g_entry (cc := cX5_dated) (nL := 4) (rt := (some .int)) (by decide) rfl (Nat.le_of_ble_eq_true rfl) ?_
  intro p e s m args below meth c A (X : GC p s m args c cX5_dated 4 RX5 wsX5_dated D (tyS cI cS cL) A) hr hlk _ _
  have h := hc
  unfold f_X5_dated at h
  refine g_lv (lv' := [(0, .ref a0), (1, .ref a3)]) [0, 1] rfl ?_
  refine g_aload_n X (j := 0) dX5_dated_0 rfl ?_
  refine g_aload_n X (j := 1) dX5_dated_1 rfl ?_
  obtain ⟨o2, o3, hc, h⟩ := bd2 h
  refine g_callV (q0 := 0) (ci := 5) (is := [0, 1, 2, 3]) (As := [.ref a3]) (ws' := [(a0, .inr (5, [.ref b0_0, .ref b0_1, .ref b0_2, .int x0_kept, .ref b0_4, .int x0_typed, .int x0_thrown, .int x0_at, .int x0_isFault, .int x0_value, .ref b0_10, .int x0_tolds, .ref a1, .ref b0_13, .ref a2])), (a1, .inl (cI, 10, .inl o2)), (a2, .inl (cI, 20, .inl o3)), (a3, .inl (cI, n3, .inl f3))]) (st := []) X (c_X5_dates l D cI cS cL a0 a1 a2 a3 b0_0 b0_1 b0_2 b0_4 b0_10 b0_13 x0_kept x0_typed x0_thrown x0_at x0_isFault x0_value x0_tolds f1 f2 n3 f3 o2 o3 hc) gX5_dated_X5_dates rfl ⟨rfl, rfl⟩ hd_X5_dates ⟨Nat.le_of_ble_eq_true rfl, Nat.le_of_ble_eq_true rfl⟩ ⟨Nat.zero_le _, Nat.zero_le _⟩ rfl rfl rfl rfl rfl rfl rfl (Nat.le_of_ble_eq_true rfl) rfl dX5_dated_2 ?_
  refine g_iconst (v := 0) X dX5_dated_5 (by decide) ?_
  refine g_istore_n (lv' := [(2, .int 0), (0, .ref a0), (1, .ref a3)]) X dX5_dated_6 rfl (by decide) rfl ?_
  refine g_iconst (v := 0) X dX5_dated_7 (by decide) ?_
  refine g_istore_n (lv' := [(3, .int 0), (2, .int 0), (0, .ref a0), (1, .ref a3)]) X dX5_dated_8 rfl (by decide) rfl ?_
  refine g_lv (lv' := [(0, .ref a0), (1, .ref a3), (2, .int 0), (3, .int 0)]) [2, 3, 1, 0] rfl ?_
  refine wl_g1 h (u2 fun l2_4 l3_5 => [(a0, .inr (5, [.ref b0_0, .ref b0_1, .ref b0_2, .int x0_kept, .ref b0_4, .int x0_typed, .int x0_thrown, .int x0_at, .int x0_isFault, .int x0_value, .ref b0_10, .int x0_tolds, .ref a1, .ref b0_13, .ref a2])), (a1, .inl (cI, 10, .inl o2)), (a2, .inl (cI, 20, .inl o3)), (a3, .inl (cI, n3, .inl f3))]) (u2 fun l2_4 l3_5 => [(0, .ref a0), (1, .ref a3), (2, .int l2_4), (3, .int l3_5)]) rfl rfl (u1 fun l2_6 => [(a0, .inr (5, [.ref b0_0, .ref b0_1, .ref b0_2, .int x0_kept, .ref b0_4, .int x0_typed, .int x0_thrown, .int x0_at, .int x0_isFault, .int x0_value, .ref b0_10, .int x0_tolds, .ref a1, .ref b0_13, .ref a2])), (a1, .inl (cI, 10, .inl o2)), (a2, .inl (cI, 20, .inl o3)), (a3, .inl (cI, n3, .inl f3))]) (u1 fun l2_6 => [(2, .int l2_6)]) 39 ?_ ?_
  · rintro l2_6 h
    dsimp only [u1] at h ⊢
    refine g_iload_n X (j := 0) dX5_dated_39 rfl ?_
    have h := Option.some.inj h
    simp only [Prod.mk.injEq] at h
    obtain ⟨rfl, rfl, rfl⟩ := h
    exact g_iret X hr hlk dX5_dated_40 rfl rfl
  · rintro ⟨l2_4, l3_5⟩ o h hI hE
    dsimp only [u2] at h ⊢
    refine g_iload_n X (j := 3) dX5_dated_9 rfl ?_
    refine g_aload_n X (j := 1) dX5_dated_10 rfl ?_
    refine g_bipush (v := 40) X dX5_dated_11 (by decide) ?_
    refine g_iald (q0 := 3) (t0 := 0) X h rfl rfl dX5_dated_13 (fun v7 h => ?_)
    refine g_icmp_ge (tgt := 39) X h dX5_dated_14 (by decide) (fun h => ?_) (fun h => ?_)
    · refine g_lv (lv' := [(2, .int l2_4)]) [2] rfl ?_
      exact hE l2_4 (Option.some.inj h).symm
    · refine g_iload_n X (j := 2) dX5_dated_17 rfl ?_
      refine g_aload_n X (j := 0) dX5_dated_18 rfl ?_
      refine g_iload_n X (j := 3) dX5_dated_19 rfl ?_
      obtain ⟨r8, hc, h⟩ := bd1 h
      refine g_callV (q0 := 0) (ci := 5) (is := [0, 2]) (As := [.int l3_5]) (ws' := [(a0, .inr (5, [.ref b0_0, .ref b0_1, .ref b0_2, .int x0_kept, .ref b0_4, .int x0_typed, .int x0_thrown, .int x0_at, .int x0_isFault, .int x0_value, .ref b0_10, .int x0_tolds, .ref a1, .ref b0_13, .ref a2])), (a1, .inl (cI, 10, .inl o2)), (a2, .inl (cI, 20, .inl o3)), (a3, .inl (cI, n3, .inl f3))]) (st := [.int l2_4]) X (c_X5_isDated l D cI cS cL a0 a2 b0_0 b0_1 b0_2 b0_4 b0_10 a1 b0_13 l3_5 x0_kept x0_typed x0_thrown x0_at x0_isFault x0_value x0_tolds o3 r8 hc) gX5_dated_X5_isDated rfl ⟨rfl, rfl⟩ hd_X5_isDated ⟨Nat.le_of_ble_eq_true rfl, Nat.le_of_ble_eq_true rfl⟩ ⟨Nat.zero_le _, Nat.zero_le _⟩ rfl rfl rfl rfl rfl rfl rfl (Nat.le_of_ble_eq_true rfl) rfl dX5_dated_20 ?_
      refine jn_g h (u1 fun s9 => [(a0, .inr (5, [.ref b0_0, .ref b0_1, .ref b0_2, .int x0_kept, .ref b0_4, .int x0_typed, .int x0_thrown, .int x0_at, .int x0_isFault, .int x0_value, .ref b0_10, .int x0_tolds, .ref a1, .ref b0_13, .ref a2])), (a1, .inl (cI, 10, .inl o2)), (a2, .inl (cI, 20, .inl o3)), (a3, .inl (cI, n3, .inl f3))]) (u1 fun s9 => [(0, .ref a0), (1, .ref a3), (3, .int l3_5)]) (u1 fun s9 => [.int s9, .int l2_4]) 31 ?_ ?_
      · rintro s9 h
        dsimp only [u1] at h ⊢
        refine g_iadd X dX5_dated_31 ?_
        refine g_istore_n (lv' := [(2, .int (l2_4 + s9)), (0, .ref a0), (1, .ref a3), (3, .int l3_5)]) X dX5_dated_32 rfl (by decide) rfl ?_
        refine g_iinc (j := 3) (lv' := [(3, .int (l3_5 + 1)), (2, .int (l2_4 + s9)), (0, .ref a0), (1, .ref a3)]) X (l3_5 + 1) dX5_dated_33 rfl rfl (by decide) rfl ?_
        refine g_goto (tgt := 9) X dX5_dated_36 (by decide) ?_
        refine g_lv (lv' := [(0, .ref a0), (1, .ref a3), (2, .int (l2_4 + s9)), (3, .int (l3_5 + 1))]) [2, 3, 1, 0] rfl ?_
        exact hI ((l2_4 + s9), (l3_5 + 1)) (Option.some.inj h).symm
      · intro K10 hK10 h
        refine g_if_eq (tgt := 30) X h dX5_dated_23 (by decide) (fun h => ?_) (fun h => ?_)
        · refine g_iconst (v := 0) X dX5_dated_30 (by decide) ?_
          refine g_lv (lv' := [(0, .ref a0), (1, .ref a3), (3, .int l3_5)]) [0, 1, 3] rfl ?_
          exact hK10 0 h
        · refine g_iconst (v := 1) X dX5_dated_26 (by decide) ?_
          refine g_goto (tgt := 31) X dX5_dated_27 (by decide) ?_
          refine g_lv (lv' := [(0, .ref a0), (1, .ref a3), (3, .int l3_5)]) [0, 1, 3] rfl ?_
          exact hK10 1 h
def f_X5_isMould (p0 : Int32) : Option (Int32) := (f_X5_in p0 (-1) 99).bind (u1 fun (r1 : Int32) => gB r1 (some r1))
theorem hd_X5_isMould : yX5_isMould.cls = RX5 ∧ yX5_isMould.cls ≠ "java/lang/invoke/MethodHandle" ∧ yX5_isMould.cls ≠ "java/lang/invoke/VarHandle" ∧ (parseMethodDescriptor yX5_isMould.desc).map (fun d => d.parameters.length) = some 1 := by decide +kernel
set_option maxRecDepth 100000 in
set_option maxHeartbeats 4000000 in
theorem c_X5_isMould (l : Launch) (D : va_G) (cI cS cL : ClassId) (p0 : Int32) (rr : Int32) (hc : f_X5_isMould p0 = some rr) : KM l yX5_isMould wsX5_isMould { frames := 1, cells := 0, slots := 0, locals := 22 } D (tyS cI cS cL) [.int p0] [] (some (.int rr)) (fun w => w = []) 0 0 := by
  refine g_entry (cc := cX5_isMould) (nL := 1) (rt := (some .boolean)) (by decide) rfl (Nat.le_of_ble_eq_true rfl) ?_
  intro p e s m args below meth c A (X : GC p s m args c cX5_isMould 1 RX5 wsX5_isMould D (tyS cI cS cL) A) hr hlk _ _
  have h := hc
  unfold f_X5_isMould at h
  refine g_lv (lv' := [(0, .int p0)]) [0] rfl ?_
  refine g_iload_n X (j := 0) dX5_isMould_0 rfl ?_
  refine g_iconst (v := (-1)) X dX5_isMould_1 (by decide) ?_
  refine g_bipush (v := 99) X dX5_isMould_2 (by decide) ?_
  obtain ⟨r1, hc, h⟩ := bd1 h
  refine g_callS (is := []) (As := [.int p0, .int (-1), .int 99]) (ws' := []) (st := []) X (c_X5_in l D cI cS cL p0 (-1) 99 r1 hc) gX5_isMould_X5_in rfl ⟨rfl, rfl⟩ hd_X5_in.2 ⟨Nat.le_of_ble_eq_true rfl, Nat.le_of_ble_eq_true rfl⟩ ⟨Nat.zero_le _, Nat.zero_le _⟩ rfl rfl rfl rfl rfl (Nat.le_of_ble_eq_true rfl) rfl dX5_isMould_4 ?_
  obtain ⟨hz, h⟩ := gB_e h
  have h := Option.some.inj h
  subst h
  exact g_zret X hr hlk hz dX5_isMould_7 rfl rfl
def f_X5_isYear (p0 : Int32) : Option (Int32) := (jn (u1 fun (s1 : Int32) => gB s1 (some s1)) (fun K2 => jn (u0 (K2 1)) (fun K3 => (if p0 = (-1) then K3 () else (f_X5_in p0 1450 1999).bind (u1 fun (r4 : Int32) => (if r4 = 0 then K2 0 else K3 ()))))))
theorem hd_X5_isYear : yX5_isYear.cls = RX5 ∧ yX5_isYear.cls ≠ "java/lang/invoke/MethodHandle" ∧ yX5_isYear.cls ≠ "java/lang/invoke/VarHandle" ∧ (parseMethodDescriptor yX5_isYear.desc).map (fun d => d.parameters.length) = some 1 := by decide +kernel
set_option maxRecDepth 100000 in
set_option maxHeartbeats 4000000 in
theorem c_X5_isYear (l : Launch) (D : va_G) (cI cS cL : ClassId) (p0 : Int32) (rr : Int32) (hc : f_X5_isYear p0 = some rr) : KM l yX5_isYear wsX5_isYear { frames := 1, cells := 0, slots := 0, locals := 22 } D (tyS cI cS cL) [.int p0] [] (some (.int rr)) (fun w => w = []) 0 0 := by
  refine g_entry (cc := cX5_isYear) (nL := 1) (rt := (some .boolean)) (by decide) rfl (Nat.le_of_ble_eq_true rfl) ?_
  intro p e s m args below meth c A (X : GC p s m args c cX5_isYear 1 RX5 wsX5_isYear D (tyS cI cS cL) A) hr hlk _ _
  have h := hc
  unfold f_X5_isYear at h
  refine g_lv (lv' := [(0, .int p0)]) [0] rfl ?_
  refine g_iload_n X (j := 0) dX5_isYear_0 rfl ?_
  refine g_iconst (v := (-1)) X dX5_isYear_1 (by decide) ?_
  refine jn_g h (u1 fun s1 => []) (u1 fun s1 => []) (u1 fun s1 => [.int s1]) 23 ?_ ?_
  · rintro s1 h
    dsimp only [u1] at h ⊢
    obtain ⟨hz, h⟩ := gB_e h
    have h := Option.some.inj h
    subst h
    exact g_zret X hr hlk hz dX5_isYear_23 rfl rfl
  · intro K2 hK2 h
    refine jn_g h (u0 ([])) (u0 ([])) (u0 ([])) 18 ?_ ?_
    · rintro ⟨⟩ h
      dsimp only [u0] at h ⊢
      refine g_iconst (v := 1) X dX5_isYear_18 (by decide) ?_
      refine g_goto (tgt := 23) X dX5_isYear_19 (by decide) ?_
      exact hK2 1 h
    · intro K3 hK3 h
      refine g_icmp_eq (tgt := 18) X h dX5_isYear_2 (by decide) (fun h => ?_) (fun h => ?_)
      · refine g_lv (lv' := []) [] rfl ?_
        exact hK3 () h
      · refine g_iload_n X (j := 0) dX5_isYear_5 rfl ?_
        refine g_sipush (v := 1450) X dX5_isYear_6 (by decide) ?_
        refine g_sipush (v := 1999) X dX5_isYear_9 (by decide) ?_
        obtain ⟨r4, hc, h⟩ := bd1 h
        refine g_callS (is := []) (As := [.int p0, .int 1450, .int 1999]) (ws' := []) (st := []) X (c_X5_in l D cI cS cL p0 1450 1999 r4 hc) gX5_isYear_X5_in rfl ⟨rfl, rfl⟩ hd_X5_in.2 ⟨Nat.le_of_ble_eq_true rfl, Nat.le_of_ble_eq_true rfl⟩ ⟨Nat.zero_le _, Nat.zero_le _⟩ rfl rfl rfl rfl rfl (Nat.le_of_ble_eq_true rfl) rfl dX5_isYear_12 ?_
        refine g_if_eq (tgt := 22) X h dX5_isYear_15 (by decide) (fun h => ?_) (fun h => ?_)
        · refine g_iconst (v := 0) X dX5_isYear_22 (by decide) ?_
          refine g_lv (lv' := []) [] rfl ?_
          exact hK2 0 h
        · refine g_lv (lv' := []) [] rfl ?_
          exact hK3 () h
def f_X5_comes (p1 : Int32) (p2 : Int32) (p3 : Int32) (p4 : Int32) (f1 : Nat → Int32) : Option (Int32 × (Nat → Int32)) := (rdA f1 41 40).bind (fun v1 => (wrA f1 41 ((4 : Int32) * v1) p1).bind (fun g2 => (wrA g2 41 (((4 : Int32) * v1) + 1) p2).bind (fun g3 => (wrA g3 41 (((4 : Int32) * v1) + 2) p3).bind (fun g4 => (wrA g4 41 (((4 : Int32) * v1) + 3) p4).bind (fun g5 => (rdA g5 41 40).bind (fun v6 => (wrA g5 41 40 (v6 + 1)).bind (fun g7 => (rdA g7 41 40).bind (fun v8 => some ((v8 - 1), g7)))))))))
theorem in_X5_comes_X5 : ∀ w ∈ wsX50, w ∈ wsX5_comes := by decide +kernel
theorem fl_X5_comes_7 : Cond.fieldLink RX5 7 "ColophonHuntModel" "now" "[I" ∈ wsX5_comes := by decide +kernel
theorem hd_X5_comes : yX5_comes.cls = RX5 ∧ yX5_comes.cls ≠ "java/lang/invoke/MethodHandle" ∧ yX5_comes.cls ≠ "java/lang/invoke/VarHandle" ∧ (parseMethodDescriptor yX5_comes.desc).map (fun d => d.parameters.length) = some 4 := by decide +kernel
set_option maxRecDepth 100000 in
set_option maxHeartbeats 4000000 in
theorem c_X5_comes (l : Launch) (D : va_G) (cI cS cL : ClassId) (a0 : Nat) (a1 : Nat) (b0_1 : Nat) (b0_2 : Nat) (b0_4 : Nat) (b0_10 : Nat) (b0_12 : Nat) (b0_13 : Nat) (b0_14 : Nat) (p1 : Int32) (p2 : Int32) (p3 : Int32) (p4 : Int32) (x0_kept : Int32) (x0_typed : Int32) (x0_thrown : Int32) (x0_at : Int32) (x0_isFault : Int32) (x0_value : Int32) (x0_tolds : Int32) (f1 : Nat → Int32) (rr : Int32) (y0 : Nat → Int32) (hc : f_X5_comes p1 p2 p3 p4 f1 = some (rr, y0)) : KM l yX5_comes wsX5_comes { frames := 0, cells := 0, slots := 0, locals := 0 } D (tyS cI cS cL) [.ref a0, .int p1, .int p2, .int p3, .int p4] [(a0, .inr (5, [.ref a1, .ref b0_1, .ref b0_2, .int x0_kept, .ref b0_4, .int x0_typed, .int x0_thrown, .int x0_at, .int x0_isFault, .int x0_value, .ref b0_10, .int x0_tolds, .ref b0_12, .ref b0_13, .ref b0_14])), (a1, .inl (cI, 41, .inl f1))] (some (.int rr)) (fun w => w = [(a0, .inr (5, [.ref a1, .ref b0_1, .ref b0_2, .int x0_kept, .ref b0_4, .int x0_typed, .int x0_thrown, .int x0_at, .int x0_isFault, .int x0_value, .ref b0_10, .int x0_tolds, .ref b0_12, .ref b0_13, .ref b0_14])), (a1, .inl (cI, 41, .inl y0))]) 0 0 := by
  refine g_entry (cc := cX5_comes) (nL := 6) (rt := (some .int)) (by decide) rfl (Nat.le_of_ble_eq_true rfl) ?_
  intro p e s m args below meth c A (X : GC p s m args c cX5_comes 6 RX5 wsX5_comes D (tyS cI cS cL) A) hr hlk _ _
  have h := hc
  unfold f_X5_comes at h
  refine g_lv (lv' := [(0, .ref a0), (1, .int p1), (2, .int p2), (3, .int p3), (4, .int p4)]) [0, 1, 2, 3, 4] rfl ?_
  refine g_iconst (v := 4) X dX5_comes_0 (by decide) ?_
  refine g_aload_n X (j := 0) dX5_comes_1 rfl ?_
  refine g_get (q0 := 0) (k := 0) (ci := 5) X in_X5_comes_X5 fl_X5_comes_7 rfl rfl (Nat.le_of_ble_eq_true rfl) rfl dX5_comes_2 ?_
  refine g_bipush (v := 40) X dX5_comes_5 (by decide) ?_
  refine g_iald (q0 := 1) (t0 := 0) X h rfl rfl dX5_comes_7 (fun v1 h => ?_)
  refine g_imul X dX5_comes_8 ?_
  refine g_istore (lv' := [(5, .int ((4 : Int32) * v1)), (0, .ref a0), (1, .int p1), (2, .int p2), (3, .int p3), (4, .int p4)]) X dX5_comes_9 (by decide) rfl ?_
  refine g_aload_n X (j := 1) dX5_comes_11 rfl ?_
  refine g_get (q0 := 0) (k := 0) (ci := 5) X in_X5_comes_X5 fl_X5_comes_7 rfl rfl (Nat.le_of_ble_eq_true rfl) rfl dX5_comes_12 ?_
  refine g_iload X (j := 0) dX5_comes_15 rfl ?_
  refine g_iload_n X (j := 2) dX5_comes_17 rfl ?_
  refine g_iast (q0 := 1) (t0 := 0) (ws1 := fun g2 => [(a0, .inr (5, [.ref a1, .ref b0_1, .ref b0_2, .int x0_kept, .ref b0_4, .int x0_typed, .int x0_thrown, .int x0_at, .int x0_isFault, .int x0_value, .ref b0_10, .int x0_tolds, .ref b0_12, .ref b0_13, .ref b0_14])), (a1, .inl (cI, 41, .inl g2))]) X h rfl rfl dX5_comes_18 (fun _ => rfl) (fun g2 h => ?_)
  refine g_aload_n X (j := 1) dX5_comes_19 rfl ?_
  refine g_get (q0 := 0) (k := 0) (ci := 5) X in_X5_comes_X5 fl_X5_comes_7 rfl rfl (Nat.le_of_ble_eq_true rfl) rfl dX5_comes_20 ?_
  refine g_iload X (j := 0) dX5_comes_23 rfl ?_
  refine g_iconst (v := 1) X dX5_comes_25 (by decide) ?_
  refine g_iadd X dX5_comes_26 ?_
  refine g_iload_n X (j := 3) dX5_comes_27 rfl ?_
  refine g_iast (q0 := 1) (t0 := 0) (ws1 := fun g3 => [(a0, .inr (5, [.ref a1, .ref b0_1, .ref b0_2, .int x0_kept, .ref b0_4, .int x0_typed, .int x0_thrown, .int x0_at, .int x0_isFault, .int x0_value, .ref b0_10, .int x0_tolds, .ref b0_12, .ref b0_13, .ref b0_14])), (a1, .inl (cI, 41, .inl g3))]) X h rfl rfl dX5_comes_28 (fun _ => rfl) (fun g3 h => ?_)
  refine g_aload_n X (j := 1) dX5_comes_29 rfl ?_
  refine g_get (q0 := 0) (k := 0) (ci := 5) X in_X5_comes_X5 fl_X5_comes_7 rfl rfl (Nat.le_of_ble_eq_true rfl) rfl dX5_comes_30 ?_
  refine g_iload X (j := 0) dX5_comes_33 rfl ?_
  refine g_iconst (v := 2) X dX5_comes_35 (by decide) ?_
  refine g_iadd X dX5_comes_36 ?_
  refine g_iload_n X (j := 4) dX5_comes_37 rfl ?_
  refine g_iast (q0 := 1) (t0 := 0) (ws1 := fun g4 => [(a0, .inr (5, [.ref a1, .ref b0_1, .ref b0_2, .int x0_kept, .ref b0_4, .int x0_typed, .int x0_thrown, .int x0_at, .int x0_isFault, .int x0_value, .ref b0_10, .int x0_tolds, .ref b0_12, .ref b0_13, .ref b0_14])), (a1, .inl (cI, 41, .inl g4))]) X h rfl rfl dX5_comes_38 (fun _ => rfl) (fun g4 h => ?_)
  refine g_aload_n X (j := 1) dX5_comes_39 rfl ?_
  refine g_get (q0 := 0) (k := 0) (ci := 5) X in_X5_comes_X5 fl_X5_comes_7 rfl rfl (Nat.le_of_ble_eq_true rfl) rfl dX5_comes_40 ?_
  refine g_iload X (j := 0) dX5_comes_43 rfl ?_
  refine g_iconst (v := 3) X dX5_comes_45 (by decide) ?_
  refine g_iadd X dX5_comes_46 ?_
  refine g_iload X (j := 5) dX5_comes_47 rfl ?_
  refine g_iast (q0 := 1) (t0 := 0) (ws1 := fun g5 => [(a0, .inr (5, [.ref a1, .ref b0_1, .ref b0_2, .int x0_kept, .ref b0_4, .int x0_typed, .int x0_thrown, .int x0_at, .int x0_isFault, .int x0_value, .ref b0_10, .int x0_tolds, .ref b0_12, .ref b0_13, .ref b0_14])), (a1, .inl (cI, 41, .inl g5))]) X h rfl rfl dX5_comes_49 (fun _ => rfl) (fun g5 h => ?_)
  refine g_aload_n X (j := 1) dX5_comes_50 rfl ?_
  refine g_get (q0 := 0) (k := 0) (ci := 5) X in_X5_comes_X5 fl_X5_comes_7 rfl rfl (Nat.le_of_ble_eq_true rfl) rfl dX5_comes_51 ?_
  refine g_bipush (v := 40) X dX5_comes_54 (by decide) ?_
  refine g_dup2 X dX5_comes_56 rfl rfl ?_
  refine g_iald (q0 := 1) (t0 := 0) X h rfl rfl dX5_comes_57 (fun v6 h => ?_)
  refine g_iconst (v := 1) X dX5_comes_58 (by decide) ?_
  refine g_iadd X dX5_comes_59 ?_
  refine g_iast (q0 := 1) (t0 := 0) (ws1 := fun g7 => [(a0, .inr (5, [.ref a1, .ref b0_1, .ref b0_2, .int x0_kept, .ref b0_4, .int x0_typed, .int x0_thrown, .int x0_at, .int x0_isFault, .int x0_value, .ref b0_10, .int x0_tolds, .ref b0_12, .ref b0_13, .ref b0_14])), (a1, .inl (cI, 41, .inl g7))]) X h rfl rfl dX5_comes_60 (fun _ => rfl) (fun g7 h => ?_)
  refine g_aload_n X (j := 1) dX5_comes_61 rfl ?_
  refine g_get (q0 := 0) (k := 0) (ci := 5) X in_X5_comes_X5 fl_X5_comes_7 rfl rfl (Nat.le_of_ble_eq_true rfl) rfl dX5_comes_62 ?_
  refine g_bipush (v := 40) X dX5_comes_65 (by decide) ?_
  refine g_iald (q0 := 1) (t0 := 0) X h rfl rfl dX5_comes_67 (fun v8 h => ?_)
  refine g_iconst (v := 1) X dX5_comes_68 (by decide) ?_
  refine g_isub X dX5_comes_69 ?_
  have h := Option.some.inj h
  simp only [Prod.mk.injEq] at h
  obtain ⟨rfl, rfl⟩ := h
  exact g_iret X hr hlk dX5_comes_70 rfl rfl
def f_X5_book (p1 : Int32) (p2 : Int32) (p3 : Int32) (p4 : Int32) (x0_kept : Int32) (x0_thrown : Int32) (f1 : Nat → Int32) (f2 : Nat → Int32) : Option (Int32 × Int32 × Int32 × (Nat → Int32) × (Nat → Int32)) := (f_X5_in p1 0 2).bind (u1 fun (r1 : Int32) => (jn (u0 ((f_X5_fails 1 0).bind (u2 fun (r3 : Int32) (o4 : Int32) => some (r3, x0_kept, o4, f1, f2)))) (fun K2 => (if r1 = 0 then K2 () else (f_X5_in p2 0 4095).bind (u1 fun (r5 : Int32) => (if r5 = 0 then K2 () else (f_X5_isMould p3).bind (u1 fun (r6 : Int32) => (if r6 = 0 then K2 () else (f_X5_isYear p4).bind (u1 fun (r7 : Int32) => (if r7 = 0 then K2 () else (rdA f1 41 40).bind (fun v8 => (if v8 = 10 then (f_X5_fails 2 0).bind (u2 fun (r14 : Int32) (o15 : Int32) => some (r14, x0_kept, o15, f1, f2)) else (f_X5_saves x0_kept f1 f2).bind (u2 fun (o10 : Int32) (o11 : Nat → Int32) => (f_X5_comes p1 p2 p3 p4 f1).bind (u2 fun (r12 : Int32) (o13 : Nat → Int32) => some (r12, o10, 0, o13, o11)))))))))))))))
theorem in_X5_book_X5 : ∀ w ∈ wsX50, w ∈ wsX5_book := by decide +kernel
theorem fl_X5_book_38 : Cond.fieldLink RX5 38 "ColophonHuntModel" "thrown" "I" ∈ wsX5_book := by decide +kernel
theorem fl_X5_book_7 : Cond.fieldLink RX5 7 "ColophonHuntModel" "now" "[I" ∈ wsX5_book := by decide +kernel
theorem hd_X5_book : yX5_book.cls = RX5 ∧ yX5_book.cls ≠ "java/lang/invoke/MethodHandle" ∧ yX5_book.cls ≠ "java/lang/invoke/VarHandle" ∧ (parseMethodDescriptor yX5_book.desc).map (fun d => d.parameters.length) = some 4 := by decide +kernel
set_option maxRecDepth 100000 in
set_option maxHeartbeats 4000000 in
theorem c_X5_book (l : Launch) (D : va_G) (cI cS cL : ClassId) (a0 : Nat) (a1 : Nat) (a2 : Nat) (b0_1 : Nat) (b0_4 : Nat) (b0_10 : Nat) (b0_12 : Nat) (b0_13 : Nat) (b0_14 : Nat) (p1 : Int32) (p2 : Int32) (p3 : Int32) (p4 : Int32) (x0_kept : Int32) (x0_typed : Int32) (x0_thrown : Int32) (x0_at : Int32) (x0_isFault : Int32) (x0_value : Int32) (x0_tolds : Int32) (f1 : Nat → Int32) (f2 : Nat → Int32) (rr : Int32) (y0 : Int32) (y1 : Int32) (y2 : Nat → Int32) (y3 : Nat → Int32) (hc : f_X5_book p1 p2 p3 p4 x0_kept x0_thrown f1 f2 = some (rr, y0, y1, y2, y3)) : KM l yX5_book wsX5_book { frames := 2, cells := 0, slots := 0, locals := 45 } D (tyS cI cS cL) [.ref a0, .int p1, .int p2, .int p3, .int p4] [(a0, .inr (5, [.ref a1, .ref b0_1, .ref a2, .int x0_kept, .ref b0_4, .int x0_typed, .int x0_thrown, .int x0_at, .int x0_isFault, .int x0_value, .ref b0_10, .int x0_tolds, .ref b0_12, .ref b0_13, .ref b0_14])), (a1, .inl (cI, 41, .inl f1)), (a2, .inl (cI, 246, .inl f2))] (some (.int rr)) (fun w => w = [(a0, .inr (5, [.ref a1, .ref b0_1, .ref a2, .int y0, .ref b0_4, .int x0_typed, .int y1, .int x0_at, .int x0_isFault, .int x0_value, .ref b0_10, .int x0_tolds, .ref b0_12, .ref b0_13, .ref b0_14])), (a1, .inl (cI, 41, .inl y2)), (a2, .inl (cI, 246, .inl y3))]) 0 0 := by
  refine g_entry (cc := cX5_book) (nL := 5) (rt := (some .int)) (by decide) rfl (Nat.le_of_ble_eq_true rfl) ?_
  intro p e s m args below meth c A (X : GC p s m args c cX5_book 5 RX5 wsX5_book D (tyS cI cS cL) A) hr hlk _ _
  have h := hc
  unfold f_X5_book at h
  refine g_lv (lv' := [(0, .ref a0), (1, .int p1), (2, .int p2), (3, .int p3), (4, .int p4)]) [0, 1, 2, 3, 4] rfl ?_
  refine g_aload_n X (j := 0) dX5_book_0 rfl ?_
  refine g_iconst (v := 0) X dX5_book_1 (by decide) ?_
  refine g_put (q0 := 0) (k := 6) (ci := 5) (ws' := [(a0, .inr (5, [.ref a1, .ref b0_1, .ref a2, .int x0_kept, .ref b0_4, .int x0_typed, .int 0, .int x0_at, .int x0_isFault, .int x0_value, .ref b0_10, .int x0_tolds, .ref b0_12, .ref b0_13, .ref b0_14])), (a1, .inl (cI, 41, .inl f1)), (a2, .inl (cI, 246, .inl f2))]) X tyX5_ok nmX5 in_X5_book_X5 fl_X5_book_38 rfl rfl (Nat.le_of_ble_eq_true rfl) rfl rfl rfl (Nat.le_of_ble_eq_true rfl) dX5_book_2 rfl ?_
  refine g_iload_n X (j := 1) dX5_book_5 rfl ?_
  refine g_iconst (v := 0) X dX5_book_6 (by decide) ?_
  refine g_iconst (v := 2) X dX5_book_7 (by decide) ?_
  obtain ⟨r1, hc, h⟩ := bd1 h
  refine g_callS (is := []) (As := [.int p1, .int 0, .int 2]) (ws' := [(a0, .inr (5, [.ref a1, .ref b0_1, .ref a2, .int x0_kept, .ref b0_4, .int x0_typed, .int 0, .int x0_at, .int x0_isFault, .int x0_value, .ref b0_10, .int x0_tolds, .ref b0_12, .ref b0_13, .ref b0_14])), (a1, .inl (cI, 41, .inl f1)), (a2, .inl (cI, 246, .inl f2))]) (st := []) X (c_X5_in l D cI cS cL p1 0 2 r1 hc) gX5_book_X5_in rfl ⟨rfl, rfl⟩ hd_X5_in.2 ⟨Nat.le_of_ble_eq_true rfl, Nat.le_of_ble_eq_true rfl⟩ ⟨Nat.zero_le _, Nat.zero_le _⟩ rfl rfl rfl rfl rfl (Nat.le_of_ble_eq_true rfl) rfl dX5_book_8 ?_
  refine jn_g h (u0 ([(a0, .inr (5, [.ref a1, .ref b0_1, .ref a2, .int x0_kept, .ref b0_4, .int x0_typed, .int 0, .int x0_at, .int x0_isFault, .int x0_value, .ref b0_10, .int x0_tolds, .ref b0_12, .ref b0_13, .ref b0_14])), (a1, .inl (cI, 41, .inl f1)), (a2, .inl (cI, 246, .inl f2))])) (u0 ([(0, .ref a0)])) (u0 ([])) 40 ?_ ?_
  · rintro ⟨⟩ h
    dsimp only [u0] at h ⊢
    refine g_aload_n X (j := 0) dX5_book_40 rfl ?_
    refine g_iconst (v := 1) X dX5_book_41 (by decide) ?_
    obtain ⟨r3, o4, hc, h⟩ := bd2 h
    refine g_callV (q0 := 0) (ci := 5) (is := [0]) (As := [.int 1]) (ws' := [(a0, .inr (5, [.ref a1, .ref b0_1, .ref a2, .int x0_kept, .ref b0_4, .int x0_typed, .int o4, .int x0_at, .int x0_isFault, .int x0_value, .ref b0_10, .int x0_tolds, .ref b0_12, .ref b0_13, .ref b0_14])), (a1, .inl (cI, 41, .inl f1)), (a2, .inl (cI, 246, .inl f2))]) (st := []) X (c_X5_fails l D cI cS cL a0 a1 b0_1 a2 b0_4 b0_10 b0_12 b0_13 b0_14 1 x0_kept x0_typed 0 x0_at x0_isFault x0_value x0_tolds r3 o4 hc) gX5_book_X5_fails rfl ⟨rfl, rfl⟩ hd_X5_fails ⟨Nat.le_of_ble_eq_true rfl, Nat.le_of_ble_eq_true rfl⟩ ⟨Nat.zero_le _, Nat.zero_le _⟩ rfl rfl rfl rfl rfl rfl rfl (Nat.le_of_ble_eq_true rfl) rfl dX5_book_42 ?_
    have h := Option.some.inj h
    simp only [Prod.mk.injEq] at h
    obtain ⟨rfl, rfl, rfl, rfl, rfl⟩ := h
    exact g_iret X hr hlk dX5_book_45 rfl rfl
  · intro K2 hK2 h
    refine g_if_eq (tgt := 40) X h dX5_book_11 (by decide) (fun h => ?_) (fun h => ?_)
    · refine g_lv (lv' := [(0, .ref a0)]) [0] rfl ?_
      exact hK2 () h
    · refine g_iload_n X (j := 2) dX5_book_14 rfl ?_
      refine g_iconst (v := 0) X dX5_book_15 (by decide) ?_
      refine g_sipush (v := 4095) X dX5_book_16 (by decide) ?_
      obtain ⟨r5, hc, h⟩ := bd1 h
      refine g_callS (is := []) (As := [.int p2, .int 0, .int 4095]) (ws' := [(a0, .inr (5, [.ref a1, .ref b0_1, .ref a2, .int x0_kept, .ref b0_4, .int x0_typed, .int 0, .int x0_at, .int x0_isFault, .int x0_value, .ref b0_10, .int x0_tolds, .ref b0_12, .ref b0_13, .ref b0_14])), (a1, .inl (cI, 41, .inl f1)), (a2, .inl (cI, 246, .inl f2))]) (st := []) X (c_X5_in l D cI cS cL p2 0 4095 r5 hc) gX5_book_X5_in rfl ⟨rfl, rfl⟩ hd_X5_in.2 ⟨Nat.le_of_ble_eq_true rfl, Nat.le_of_ble_eq_true rfl⟩ ⟨Nat.zero_le _, Nat.zero_le _⟩ rfl rfl rfl rfl rfl (Nat.le_of_ble_eq_true rfl) rfl dX5_book_19 ?_
      refine g_if_eq (tgt := 40) X h dX5_book_22 (by decide) (fun h => ?_) (fun h => ?_)
      · refine g_lv (lv' := [(0, .ref a0)]) [0] rfl ?_
        exact hK2 () h
      · refine g_iload_n X (j := 3) dX5_book_25 rfl ?_
        obtain ⟨r6, hc, h⟩ := bd1 h
        refine g_callS (is := []) (As := [.int p3]) (ws' := [(a0, .inr (5, [.ref a1, .ref b0_1, .ref a2, .int x0_kept, .ref b0_4, .int x0_typed, .int 0, .int x0_at, .int x0_isFault, .int x0_value, .ref b0_10, .int x0_tolds, .ref b0_12, .ref b0_13, .ref b0_14])), (a1, .inl (cI, 41, .inl f1)), (a2, .inl (cI, 246, .inl f2))]) (st := []) X (c_X5_isMould l D cI cS cL p3 r6 hc) gX5_book_X5_isMould rfl ⟨rfl, rfl⟩ hd_X5_isMould.2 ⟨Nat.le_of_ble_eq_true rfl, Nat.le_of_ble_eq_true rfl⟩ ⟨Nat.zero_le _, Nat.zero_le _⟩ rfl rfl rfl rfl rfl (Nat.le_of_ble_eq_true rfl) rfl dX5_book_26 ?_
        refine g_if_eq (tgt := 40) X h dX5_book_29 (by decide) (fun h => ?_) (fun h => ?_)
        · refine g_lv (lv' := [(0, .ref a0)]) [0] rfl ?_
          exact hK2 () h
        · refine g_iload X (j := 4) dX5_book_32 rfl ?_
          obtain ⟨r7, hc, h⟩ := bd1 h
          refine g_callS (is := []) (As := [.int p4]) (ws' := [(a0, .inr (5, [.ref a1, .ref b0_1, .ref a2, .int x0_kept, .ref b0_4, .int x0_typed, .int 0, .int x0_at, .int x0_isFault, .int x0_value, .ref b0_10, .int x0_tolds, .ref b0_12, .ref b0_13, .ref b0_14])), (a1, .inl (cI, 41, .inl f1)), (a2, .inl (cI, 246, .inl f2))]) (st := []) X (c_X5_isYear l D cI cS cL p4 r7 hc) gX5_book_X5_isYear rfl ⟨rfl, rfl⟩ hd_X5_isYear.2 ⟨Nat.le_of_ble_eq_true rfl, Nat.le_of_ble_eq_true rfl⟩ ⟨Nat.zero_le _, Nat.zero_le _⟩ rfl rfl rfl rfl rfl (Nat.le_of_ble_eq_true rfl) rfl dX5_book_34 ?_
          refine g_if_ne (tgt := 46) X h dX5_book_37 (by decide) (fun h => ?_) (fun h => ?_)
          · refine g_aload_n X (j := 0) dX5_book_46 rfl ?_
            refine g_get (q0 := 0) (k := 0) (ci := 5) X in_X5_book_X5 fl_X5_book_7 rfl rfl (Nat.le_of_ble_eq_true rfl) rfl dX5_book_47 ?_
            refine g_bipush (v := 40) X dX5_book_50 (by decide) ?_
            refine g_iald (q0 := 1) (t0 := 0) X h rfl rfl dX5_book_52 (fun v8 h => ?_)
            refine g_bipush (v := 10) X dX5_book_53 (by decide) ?_
            refine g_icmp_ne (tgt := 64) X h dX5_book_55 (by decide) (fun h => ?_) (fun h => ?_)
            · refine g_aload_n X (j := 0) dX5_book_64 rfl ?_
              obtain ⟨o10, o11, hc, h⟩ := bd2 h
              refine g_callV (q0 := 0) (ci := 5) (is := [0, 1, 2]) (As := []) (ws' := [(a0, .inr (5, [.ref a1, .ref b0_1, .ref a2, .int o10, .ref b0_4, .int x0_typed, .int 0, .int x0_at, .int x0_isFault, .int x0_value, .ref b0_10, .int x0_tolds, .ref b0_12, .ref b0_13, .ref b0_14])), (a1, .inl (cI, 41, .inl f1)), (a2, .inl (cI, 246, .inl o11))]) (st := []) X (c_X5_saves l D cI cS cL a0 a1 a2 b0_1 b0_4 b0_10 b0_12 b0_13 b0_14 x0_kept x0_typed 0 x0_at x0_isFault x0_value x0_tolds f1 f2 o10 o11 hc) gX5_book_X5_saves rfl ⟨rfl, rfl⟩ hd_X5_saves ⟨Nat.le_of_ble_eq_true rfl, Nat.le_of_ble_eq_true rfl⟩ ⟨Nat.zero_le _, Nat.zero_le _⟩ rfl rfl rfl rfl rfl rfl rfl (Nat.le_of_ble_eq_true rfl) rfl dX5_book_65 ?_
              refine g_aload_n X (j := 0) dX5_book_68 rfl ?_
              refine g_iload_n X (j := 1) dX5_book_69 rfl ?_
              refine g_iload_n X (j := 2) dX5_book_70 rfl ?_
              refine g_iload_n X (j := 3) dX5_book_71 rfl ?_
              refine g_iload X (j := 4) dX5_book_72 rfl ?_
              obtain ⟨r12, o13, hc, h⟩ := bd2 h
              refine g_callV (q0 := 0) (ci := 5) (is := [0, 1]) (As := [.int p1, .int p2, .int p3, .int p4]) (ws' := [(a0, .inr (5, [.ref a1, .ref b0_1, .ref a2, .int o10, .ref b0_4, .int x0_typed, .int 0, .int x0_at, .int x0_isFault, .int x0_value, .ref b0_10, .int x0_tolds, .ref b0_12, .ref b0_13, .ref b0_14])), (a1, .inl (cI, 41, .inl o13)), (a2, .inl (cI, 246, .inl o11))]) (st := []) X (c_X5_comes l D cI cS cL a0 a1 b0_1 a2 b0_4 b0_10 b0_12 b0_13 b0_14 p1 p2 p3 p4 o10 x0_typed 0 x0_at x0_isFault x0_value x0_tolds f1 r12 o13 hc) gX5_book_X5_comes rfl ⟨rfl, rfl⟩ hd_X5_comes ⟨Nat.le_of_ble_eq_true rfl, Nat.le_of_ble_eq_true rfl⟩ ⟨Nat.zero_le _, Nat.zero_le _⟩ rfl rfl rfl rfl rfl rfl rfl (Nat.le_of_ble_eq_true rfl) rfl dX5_book_74 ?_
              have h := Option.some.inj h
              simp only [Prod.mk.injEq] at h
              obtain ⟨rfl, rfl, rfl, rfl, rfl⟩ := h
              exact g_iret X hr hlk dX5_book_77 rfl rfl
            · refine g_aload_n X (j := 0) dX5_book_58 rfl ?_
              refine g_iconst (v := 2) X dX5_book_59 (by decide) ?_
              obtain ⟨r14, o15, hc, h⟩ := bd2 h
              refine g_callV (q0 := 0) (ci := 5) (is := [0]) (As := [.int 2]) (ws' := [(a0, .inr (5, [.ref a1, .ref b0_1, .ref a2, .int x0_kept, .ref b0_4, .int x0_typed, .int o15, .int x0_at, .int x0_isFault, .int x0_value, .ref b0_10, .int x0_tolds, .ref b0_12, .ref b0_13, .ref b0_14])), (a1, .inl (cI, 41, .inl f1)), (a2, .inl (cI, 246, .inl f2))]) (st := []) X (c_X5_fails l D cI cS cL a0 a1 b0_1 a2 b0_4 b0_10 b0_12 b0_13 b0_14 2 x0_kept x0_typed 0 x0_at x0_isFault x0_value x0_tolds r14 o15 hc) gX5_book_X5_fails rfl ⟨rfl, rfl⟩ hd_X5_fails ⟨Nat.le_of_ble_eq_true rfl, Nat.le_of_ble_eq_true rfl⟩ ⟨Nat.zero_le _, Nat.zero_le _⟩ rfl rfl rfl rfl rfl rfl rfl (Nat.le_of_ble_eq_true rfl) rfl dX5_book_60 ?_
              have h := Option.some.inj h
              simp only [Prod.mk.injEq] at h
              obtain ⟨rfl, rfl, rfl, rfl, rfl⟩ := h
              exact g_iret X hr hlk dX5_book_63 rfl rfl
          · refine g_lv (lv' := [(0, .ref a0)]) [0] rfl ?_
            exact hK2 () h
def f_X5_take (p1 : Int32) (x0_kept : Int32) (x0_thrown : Int32) (f1 : Nat → Int32) (f2 : Nat → Int32) : Option (Int32 × Int32 × Int32 × (Nat → Int32) × (Nat → Int32)) := (f_X5_isBook p1 f1).bind (u1 fun (r1 : Int32) => (if r1 = 0 then (f_X5_fails 1 0).bind (u2 fun (r14 : Int32) (o15 : Int32) => some (r14, x0_kept, o15, f1, f2)) else (f_X5_saves x0_kept f1 f2).bind (u2 fun (o3 : Int32) (o4 : Nat → Int32) => (rdA f1 41 40).bind (fun v5 => (wrA f1 41 40 (v5 - 1)).bind (fun g6 => (wl (u2 fun (l2_7 : Int32) (w8 : Nat → Int32) => (rdA w8 41 40).bind (fun v10 => (if ((4 : Int32) * v10) ≤ l2_7 then some (Sum.inr w8) else (rdA w8 41 (l2_7 + 4)).bind (fun v11 => (wrA w8 41 l2_7 v11).bind (fun g12 => some (Sum.inl ((l2_7 + 1), g12))))))) 9999 (((4 : Int32) * p1), g6)).bind (u1 fun (w9 : Nat → Int32) => (rdA w9 41 40).bind (fun v13 => some (v13, o3, 0, w9, o4))))))))
theorem in_X5_take_X5 : ∀ w ∈ wsX50, w ∈ wsX5_take := by decide +kernel
theorem fl_X5_take_38 : Cond.fieldLink RX5 38 "ColophonHuntModel" "thrown" "I" ∈ wsX5_take := by decide +kernel
theorem fl_X5_take_7 : Cond.fieldLink RX5 7 "ColophonHuntModel" "now" "[I" ∈ wsX5_take := by decide +kernel
theorem hd_X5_take : yX5_take.cls = RX5 ∧ yX5_take.cls ≠ "java/lang/invoke/MethodHandle" ∧ yX5_take.cls ≠ "java/lang/invoke/VarHandle" ∧ (parseMethodDescriptor yX5_take.desc).map (fun d => d.parameters.length) = some 1 := by decide +kernel
set_option maxRecDepth 100000 in
set_option maxHeartbeats 4000000 in
theorem c_X5_take (l : Launch) (D : va_G) (cI cS cL : ClassId) (a0 : Nat) (a1 : Nat) (a2 : Nat) (b0_1 : Nat) (b0_4 : Nat) (b0_10 : Nat) (b0_12 : Nat) (b0_13 : Nat) (b0_14 : Nat) (p1 : Int32) (x0_kept : Int32) (x0_typed : Int32) (x0_thrown : Int32) (x0_at : Int32) (x0_isFault : Int32) (x0_value : Int32) (x0_tolds : Int32) (f1 : Nat → Int32) (f2 : Nat → Int32) (rr : Int32) (y0 : Int32) (y1 : Int32) (y2 : Nat → Int32) (y3 : Nat → Int32) (hc : f_X5_take p1 x0_kept x0_thrown f1 f2 = some (rr, y0, y1, y2, y3)) : KM l yX5_take wsX5_take { frames := 2, cells := 0, slots := 0, locals := 45 } D (tyS cI cS cL) [.ref a0, .int p1] [(a0, .inr (5, [.ref a1, .ref b0_1, .ref a2, .int x0_kept, .ref b0_4, .int x0_typed, .int x0_thrown, .int x0_at, .int x0_isFault, .int x0_value, .ref b0_10, .int x0_tolds, .ref b0_12, .ref b0_13, .ref b0_14])), (a1, .inl (cI, 41, .inl f1)), (a2, .inl (cI, 246, .inl f2))] (some (.int rr)) (fun w => w = [(a0, .inr (5, [.ref a1, .ref b0_1, .ref a2, .int y0, .ref b0_4, .int x0_typed, .int y1, .int x0_at, .int x0_isFault, .int x0_value, .ref b0_10, .int x0_tolds, .ref b0_12, .ref b0_13, .ref b0_14])), (a1, .inl (cI, 41, .inl y2)), (a2, .inl (cI, 246, .inl y3))]) 0 0 := by
  refine g_entry (cc := cX5_take) (nL := 3) (rt := (some .int)) (by decide) rfl (Nat.le_of_ble_eq_true rfl) ?_
  intro p e s m args below meth c A (X : GC p s m args c cX5_take 3 RX5 wsX5_take D (tyS cI cS cL) A) hr hlk _ _
  have h := hc
  unfold f_X5_take at h
  refine g_lv (lv' := [(0, .ref a0), (1, .int p1)]) [0, 1] rfl ?_
  refine g_aload_n X (j := 0) dX5_take_0 rfl ?_
  refine g_iconst (v := 0) X dX5_take_1 (by decide) ?_
  refine g_put (q0 := 0) (k := 6) (ci := 5) (ws' := [(a0, .inr (5, [.ref a1, .ref b0_1, .ref a2, .int x0_kept, .ref b0_4, .int x0_typed, .int 0, .int x0_at, .int x0_isFault, .int x0_value, .ref b0_10, .int x0_tolds, .ref b0_12, .ref b0_13, .ref b0_14])), (a1, .inl (cI, 41, .inl f1)), (a2, .inl (cI, 246, .inl f2))]) X tyX5_ok nmX5 in_X5_take_X5 fl_X5_take_38 rfl rfl (Nat.le_of_ble_eq_true rfl) rfl rfl rfl (Nat.le_of_ble_eq_true rfl) dX5_take_2 rfl ?_
  refine g_aload_n X (j := 0) dX5_take_5 rfl ?_
  refine g_iload_n X (j := 1) dX5_take_6 rfl ?_
  obtain ⟨r1, hc, h⟩ := bd1 h
  refine g_callV (q0 := 0) (ci := 5) (is := [0, 1]) (As := [.int p1]) (ws' := [(a0, .inr (5, [.ref a1, .ref b0_1, .ref a2, .int x0_kept, .ref b0_4, .int x0_typed, .int 0, .int x0_at, .int x0_isFault, .int x0_value, .ref b0_10, .int x0_tolds, .ref b0_12, .ref b0_13, .ref b0_14])), (a1, .inl (cI, 41, .inl f1)), (a2, .inl (cI, 246, .inl f2))]) (st := []) X (c_X5_isBook l D cI cS cL a0 a1 b0_1 a2 b0_4 b0_10 b0_12 b0_13 b0_14 p1 x0_kept x0_typed 0 x0_at x0_isFault x0_value x0_tolds f1 r1 hc) gX5_take_X5_isBook rfl ⟨rfl, rfl⟩ hd_X5_isBook ⟨Nat.le_of_ble_eq_true rfl, Nat.le_of_ble_eq_true rfl⟩ ⟨Nat.zero_le _, Nat.zero_le _⟩ rfl rfl rfl rfl rfl rfl rfl (Nat.le_of_ble_eq_true rfl) rfl dX5_take_7 ?_
  refine g_if_ne (tgt := 19) X h dX5_take_10 (by decide) (fun h => ?_) (fun h => ?_)
  · refine g_aload_n X (j := 0) dX5_take_19 rfl ?_
    obtain ⟨o3, o4, hc, h⟩ := bd2 h
    refine g_callV (q0 := 0) (ci := 5) (is := [0, 1, 2]) (As := []) (ws' := [(a0, .inr (5, [.ref a1, .ref b0_1, .ref a2, .int o3, .ref b0_4, .int x0_typed, .int 0, .int x0_at, .int x0_isFault, .int x0_value, .ref b0_10, .int x0_tolds, .ref b0_12, .ref b0_13, .ref b0_14])), (a1, .inl (cI, 41, .inl f1)), (a2, .inl (cI, 246, .inl o4))]) (st := []) X (c_X5_saves l D cI cS cL a0 a1 a2 b0_1 b0_4 b0_10 b0_12 b0_13 b0_14 x0_kept x0_typed 0 x0_at x0_isFault x0_value x0_tolds f1 f2 o3 o4 hc) gX5_take_X5_saves rfl ⟨rfl, rfl⟩ hd_X5_saves ⟨Nat.le_of_ble_eq_true rfl, Nat.le_of_ble_eq_true rfl⟩ ⟨Nat.zero_le _, Nat.zero_le _⟩ rfl rfl rfl rfl rfl rfl rfl (Nat.le_of_ble_eq_true rfl) rfl dX5_take_20 ?_
    refine g_aload_n X (j := 0) dX5_take_23 rfl ?_
    refine g_get (q0 := 0) (k := 0) (ci := 5) X in_X5_take_X5 fl_X5_take_7 rfl rfl (Nat.le_of_ble_eq_true rfl) rfl dX5_take_24 ?_
    refine g_bipush (v := 40) X dX5_take_27 (by decide) ?_
    refine g_dup2 X dX5_take_29 rfl rfl ?_
    refine g_iald (q0 := 1) (t0 := 0) X h rfl rfl dX5_take_30 (fun v5 h => ?_)
    refine g_iconst (v := 1) X dX5_take_31 (by decide) ?_
    refine g_isub X dX5_take_32 ?_
    refine g_iast (q0 := 1) (t0 := 0) (ws1 := fun g6 => [(a0, .inr (5, [.ref a1, .ref b0_1, .ref a2, .int o3, .ref b0_4, .int x0_typed, .int 0, .int x0_at, .int x0_isFault, .int x0_value, .ref b0_10, .int x0_tolds, .ref b0_12, .ref b0_13, .ref b0_14])), (a1, .inl (cI, 41, .inl g6)), (a2, .inl (cI, 246, .inl o4))]) X h rfl rfl dX5_take_33 (fun _ => rfl) (fun g6 h => ?_)
    refine g_iconst (v := 4) X dX5_take_34 (by decide) ?_
    refine g_iload_n X (j := 1) dX5_take_35 rfl ?_
    refine g_imul X dX5_take_36 ?_
    refine g_istore_n (lv' := [(2, .int ((4 : Int32) * p1)), (0, .ref a0), (1, .int p1)]) X dX5_take_37 rfl (by decide) rfl ?_
    refine g_lv (lv' := [(0, .ref a0), (2, .int ((4 : Int32) * p1))]) [1, 0] rfl ?_
    refine wl_g1 h (u2 fun l2_7 w8 => [(a0, .inr (5, [.ref a1, .ref b0_1, .ref a2, .int o3, .ref b0_4, .int x0_typed, .int 0, .int x0_at, .int x0_isFault, .int x0_value, .ref b0_10, .int x0_tolds, .ref b0_12, .ref b0_13, .ref b0_14])), (a1, .inl (cI, 41, .inl w8)), (a2, .inl (cI, 246, .inl o4))]) (u2 fun l2_7 w8 => [(0, .ref a0), (2, .int l2_7)]) rfl rfl (u1 fun w9 => [(a0, .inr (5, [.ref a1, .ref b0_1, .ref a2, .int o3, .ref b0_4, .int x0_typed, .int 0, .int x0_at, .int x0_isFault, .int x0_value, .ref b0_10, .int x0_tolds, .ref b0_12, .ref b0_13, .ref b0_14])), (a1, .inl (cI, 41, .inl w9)), (a2, .inl (cI, 246, .inl o4))]) (u1 fun w9 => [(0, .ref a0)]) 71 ?_ ?_
    · rintro w9 h
      dsimp only [u1] at h ⊢
      refine g_aload_n X (j := 0) dX5_take_71 rfl ?_
      refine g_get (q0 := 0) (k := 0) (ci := 5) X in_X5_take_X5 fl_X5_take_7 rfl rfl (Nat.le_of_ble_eq_true rfl) rfl dX5_take_72 ?_
      refine g_bipush (v := 40) X dX5_take_75 (by decide) ?_
      refine g_iald (q0 := 1) (t0 := 0) X h rfl rfl dX5_take_77 (fun v13 h => ?_)
      have h := Option.some.inj h
      simp only [Prod.mk.injEq] at h
      obtain ⟨rfl, rfl, rfl, rfl, rfl⟩ := h
      exact g_iret X hr hlk dX5_take_78 rfl rfl
    · rintro ⟨l2_7, w8⟩ o h hI hE
      dsimp only [u2] at h ⊢
      refine g_iload_n X (j := 1) dX5_take_38 rfl ?_
      refine g_iconst (v := 4) X dX5_take_39 (by decide) ?_
      refine g_aload_n X (j := 0) dX5_take_40 rfl ?_
      refine g_get (q0 := 0) (k := 0) (ci := 5) X in_X5_take_X5 fl_X5_take_7 rfl rfl (Nat.le_of_ble_eq_true rfl) rfl dX5_take_41 ?_
      refine g_bipush (v := 40) X dX5_take_44 (by decide) ?_
      refine g_iald (q0 := 1) (t0 := 0) X h rfl rfl dX5_take_46 (fun v10 h => ?_)
      refine g_imul X dX5_take_47 ?_
      refine g_icmp_ge (tgt := 71) X h dX5_take_48 (by decide) (fun h => ?_) (fun h => ?_)
      · refine g_lv (lv' := [(0, .ref a0)]) [0] rfl ?_
        exact hE w8 (Option.some.inj h).symm
      · refine g_aload_n X (j := 0) dX5_take_51 rfl ?_
        refine g_get (q0 := 0) (k := 0) (ci := 5) X in_X5_take_X5 fl_X5_take_7 rfl rfl (Nat.le_of_ble_eq_true rfl) rfl dX5_take_52 ?_
        refine g_iload_n X (j := 1) dX5_take_55 rfl ?_
        refine g_aload_n X (j := 0) dX5_take_56 rfl ?_
        refine g_get (q0 := 0) (k := 0) (ci := 5) X in_X5_take_X5 fl_X5_take_7 rfl rfl (Nat.le_of_ble_eq_true rfl) rfl dX5_take_57 ?_
        refine g_iload_n X (j := 1) dX5_take_60 rfl ?_
        refine g_iconst (v := 4) X dX5_take_61 (by decide) ?_
        refine g_iadd X dX5_take_62 ?_
        refine g_iald (q0 := 1) (t0 := 0) X h rfl rfl dX5_take_63 (fun v11 h => ?_)
        refine g_iast (q0 := 1) (t0 := 0) (ws1 := fun g12 => [(a0, .inr (5, [.ref a1, .ref b0_1, .ref a2, .int o3, .ref b0_4, .int x0_typed, .int 0, .int x0_at, .int x0_isFault, .int x0_value, .ref b0_10, .int x0_tolds, .ref b0_12, .ref b0_13, .ref b0_14])), (a1, .inl (cI, 41, .inl g12)), (a2, .inl (cI, 246, .inl o4))]) X h rfl rfl dX5_take_64 (fun _ => rfl) (fun g12 h => ?_)
        refine g_iinc (j := 1) (lv' := [(2, .int (l2_7 + 1)), (0, .ref a0)]) X (l2_7 + 1) dX5_take_65 rfl rfl (by decide) rfl ?_
        refine g_goto (tgt := 38) X dX5_take_68 (by decide) ?_
        refine g_lv (lv' := [(0, .ref a0), (2, .int (l2_7 + 1))]) [1, 0] rfl ?_
        exact hI ((l2_7 + 1), g12) (Option.some.inj h).symm
  · refine g_aload_n X (j := 0) dX5_take_13 rfl ?_
    refine g_iconst (v := 1) X dX5_take_14 (by decide) ?_
    obtain ⟨r14, o15, hc, h⟩ := bd2 h
    refine g_callV (q0 := 0) (ci := 5) (is := [0]) (As := [.int 1]) (ws' := [(a0, .inr (5, [.ref a1, .ref b0_1, .ref a2, .int x0_kept, .ref b0_4, .int x0_typed, .int o15, .int x0_at, .int x0_isFault, .int x0_value, .ref b0_10, .int x0_tolds, .ref b0_12, .ref b0_13, .ref b0_14])), (a1, .inl (cI, 41, .inl f1)), (a2, .inl (cI, 246, .inl f2))]) (st := []) X (c_X5_fails l D cI cS cL a0 a1 b0_1 a2 b0_4 b0_10 b0_12 b0_13 b0_14 1 x0_kept x0_typed 0 x0_at x0_isFault x0_value x0_tolds r14 o15 hc) gX5_take_X5_fails rfl ⟨rfl, rfl⟩ hd_X5_fails ⟨Nat.le_of_ble_eq_true rfl, Nat.le_of_ble_eq_true rfl⟩ ⟨Nat.zero_le _, Nat.zero_le _⟩ rfl rfl rfl rfl rfl rfl rfl (Nat.le_of_ble_eq_true rfl) rfl dX5_take_15 ?_
    have h := Option.some.inj h
    simp only [Prod.mk.injEq] at h
    obtain ⟨rfl, rfl, rfl, rfl, rfl⟩ := h
    exact g_iret X hr hlk dX5_take_18 rfl rfl
def f_X5_changes (p1 : Int32) (p2 : Int32) (f1 : Nat → Int32) : Option (Int32 × (Nat → Int32)) := (rdA f1 41 p1).bind (fun v1 => (wrA f1 41 p1 p2).bind (fun g2 => some (v1, g2)))
theorem in_X5_changes_X5 : ∀ w ∈ wsX50, w ∈ wsX5_changes := by decide +kernel
theorem fl_X5_changes_7 : Cond.fieldLink RX5 7 "ColophonHuntModel" "now" "[I" ∈ wsX5_changes := by decide +kernel
theorem hd_X5_changes : yX5_changes.cls = RX5 ∧ yX5_changes.cls ≠ "java/lang/invoke/MethodHandle" ∧ yX5_changes.cls ≠ "java/lang/invoke/VarHandle" ∧ (parseMethodDescriptor yX5_changes.desc).map (fun d => d.parameters.length) = some 2 := by decide +kernel
set_option maxRecDepth 100000 in
set_option maxHeartbeats 4000000 in
theorem c_X5_changes (l : Launch) (D : va_G) (cI cS cL : ClassId) (a0 : Nat) (a1 : Nat) (b0_1 : Nat) (b0_2 : Nat) (b0_4 : Nat) (b0_10 : Nat) (b0_12 : Nat) (b0_13 : Nat) (b0_14 : Nat) (p1 : Int32) (p2 : Int32) (x0_kept : Int32) (x0_typed : Int32) (x0_thrown : Int32) (x0_at : Int32) (x0_isFault : Int32) (x0_value : Int32) (x0_tolds : Int32) (f1 : Nat → Int32) (rr : Int32) (y0 : Nat → Int32) (hc : f_X5_changes p1 p2 f1 = some (rr, y0)) : KM l yX5_changes wsX5_changes { frames := 0, cells := 0, slots := 0, locals := 0 } D (tyS cI cS cL) [.ref a0, .int p1, .int p2] [(a0, .inr (5, [.ref a1, .ref b0_1, .ref b0_2, .int x0_kept, .ref b0_4, .int x0_typed, .int x0_thrown, .int x0_at, .int x0_isFault, .int x0_value, .ref b0_10, .int x0_tolds, .ref b0_12, .ref b0_13, .ref b0_14])), (a1, .inl (cI, 41, .inl f1))] (some (.int rr)) (fun w => w = [(a0, .inr (5, [.ref a1, .ref b0_1, .ref b0_2, .int x0_kept, .ref b0_4, .int x0_typed, .int x0_thrown, .int x0_at, .int x0_isFault, .int x0_value, .ref b0_10, .int x0_tolds, .ref b0_12, .ref b0_13, .ref b0_14])), (a1, .inl (cI, 41, .inl y0))]) 0 0 := by
  refine g_entry (cc := cX5_changes) (nL := 4) (rt := (some .int)) (by decide) rfl (Nat.le_of_ble_eq_true rfl) ?_
  intro p e s m args below meth c A (X : GC p s m args c cX5_changes 4 RX5 wsX5_changes D (tyS cI cS cL) A) hr hlk _ _
  have h := hc
  unfold f_X5_changes at h
  refine g_lv (lv' := [(0, .ref a0), (1, .int p1), (2, .int p2)]) [0, 1, 2] rfl ?_
  refine g_aload_n X (j := 0) dX5_changes_0 rfl ?_
  refine g_get (q0 := 0) (k := 0) (ci := 5) X in_X5_changes_X5 fl_X5_changes_7 rfl rfl (Nat.le_of_ble_eq_true rfl) rfl dX5_changes_1 ?_
  refine g_iload_n X (j := 1) dX5_changes_4 rfl ?_
  refine g_iald (q0 := 1) (t0 := 0) X h rfl rfl dX5_changes_5 (fun v1 h => ?_)
  refine g_istore_n (lv' := [(3, .int v1), (0, .ref a0), (1, .int p1), (2, .int p2)]) X dX5_changes_6 rfl (by decide) rfl ?_
  refine g_aload_n X (j := 1) dX5_changes_7 rfl ?_
  refine g_get (q0 := 0) (k := 0) (ci := 5) X in_X5_changes_X5 fl_X5_changes_7 rfl rfl (Nat.le_of_ble_eq_true rfl) rfl dX5_changes_8 ?_
  refine g_iload_n X (j := 2) dX5_changes_11 rfl ?_
  refine g_iload_n X (j := 3) dX5_changes_12 rfl ?_
  refine g_iast (q0 := 1) (t0 := 0) (ws1 := fun g2 => [(a0, .inr (5, [.ref a1, .ref b0_1, .ref b0_2, .int x0_kept, .ref b0_4, .int x0_typed, .int x0_thrown, .int x0_at, .int x0_isFault, .int x0_value, .ref b0_10, .int x0_tolds, .ref b0_12, .ref b0_13, .ref b0_14])), (a1, .inl (cI, 41, .inl g2))]) X h rfl rfl dX5_changes_13 (fun _ => rfl) (fun g2 h => ?_)
  refine g_iload_n X (j := 0) dX5_changes_14 rfl ?_
  have h := Option.some.inj h
  simp only [Prod.mk.injEq] at h
  obtain ⟨rfl, rfl⟩ := h
  exact g_iret X hr hlk dX5_changes_15 rfl rfl
def f_X5_isLetter (p0 : Int32) : Option (Int32) := (f_X5_in p0 0 11).bind (u1 fun (r1 : Int32) => gB r1 (some r1))
theorem hd_X5_isLetter : yX5_isLetter.cls = RX5 ∧ yX5_isLetter.cls ≠ "java/lang/invoke/MethodHandle" ∧ yX5_isLetter.cls ≠ "java/lang/invoke/VarHandle" ∧ (parseMethodDescriptor yX5_isLetter.desc).map (fun d => d.parameters.length) = some 1 := by decide +kernel
set_option maxRecDepth 100000 in
set_option maxHeartbeats 4000000 in
theorem c_X5_isLetter (l : Launch) (D : va_G) (cI cS cL : ClassId) (p0 : Int32) (rr : Int32) (hc : f_X5_isLetter p0 = some rr) : KM l yX5_isLetter wsX5_isLetter { frames := 1, cells := 0, slots := 0, locals := 22 } D (tyS cI cS cL) [.int p0] [] (some (.int rr)) (fun w => w = []) 0 0 := by
  refine g_entry (cc := cX5_isLetter) (nL := 1) (rt := (some .boolean)) (by decide) rfl (Nat.le_of_ble_eq_true rfl) ?_
  intro p e s m args below meth c A (X : GC p s m args c cX5_isLetter 1 RX5 wsX5_isLetter D (tyS cI cS cL) A) hr hlk _ _
  have h := hc
  unfold f_X5_isLetter at h
  refine g_lv (lv' := [(0, .int p0)]) [0] rfl ?_
  refine g_iload_n X (j := 0) dX5_isLetter_0 rfl ?_
  refine g_iconst (v := 0) X dX5_isLetter_1 (by decide) ?_
  refine g_bipush (v := 11) X dX5_isLetter_2 (by decide) ?_
  obtain ⟨r1, hc, h⟩ := bd1 h
  refine g_callS (is := []) (As := [.int p0, .int 0, .int 11]) (ws' := []) (st := []) X (c_X5_in l D cI cS cL p0 0 11 r1 hc) gX5_isLetter_X5_in rfl ⟨rfl, rfl⟩ hd_X5_in.2 ⟨Nat.le_of_ble_eq_true rfl, Nat.le_of_ble_eq_true rfl⟩ ⟨Nat.zero_le _, Nat.zero_le _⟩ rfl rfl rfl rfl rfl (Nat.le_of_ble_eq_true rfl) rfl dX5_isLetter_4 ?_
  obtain ⟨hz, h⟩ := gB_e h
  have h := Option.some.inj h
  subst h
  exact g_zret X hr hlk hz dX5_isLetter_7 rfl rfl
def f_X5_crack (p1 : Int32) (p2 : Int32) (p3 : Int32) (x0_kept : Int32) (x0_thrown : Int32) (f1 : Nat → Int32) (f2 : Nat → Int32) : Option (Int32 × Int32 × Int32 × (Nat → Int32) × (Nat → Int32)) := (f_X5_isBook p1 f1).bind (u1 fun (r1 : Int32) => (jn (u0 ((f_X5_fails 1 0).bind (u2 fun (r3 : Int32) (o4 : Int32) => some (r3, x0_kept, o4, f1, f2)))) (fun K2 => (if r1 = 0 then K2 () else (f_X5_isLetter p2).bind (u1 fun (r5 : Int32) => (if r5 = 0 then K2 () else (f_X5_saves x0_kept f1 f2).bind (u2 fun (o7 : Int32) (o8 : Nat → Int32) => (f_X5_of p1 1 41 f1).bind (u1 fun (r9 : Int32) => (jn (u1 fun (s10 : Int32) => (wrA f1 41 (((4 : Int32) * p1) + 1) s10).bind (fun g12 => some (((r9 >>> (p2 &&& 31)) &&& 1), o7, 0, g12, o8))) (fun K11 => (if p3 = 0 then K11 (r9 &&& (((1 : Int32) <<< (p2 &&& 31)) ^^^ (-1))) else K11 (r9 ||| ((1 : Int32) <<< (p2 &&& 31))))))))))))))
theorem in_X5_crack_X5 : ∀ w ∈ wsX50, w ∈ wsX5_crack := by decide +kernel
theorem fl_X5_crack_38 : Cond.fieldLink RX5 38 "ColophonHuntModel" "thrown" "I" ∈ wsX5_crack := by decide +kernel
theorem fl_X5_crack_7 : Cond.fieldLink RX5 7 "ColophonHuntModel" "now" "[I" ∈ wsX5_crack := by decide +kernel
theorem hd_X5_crack : yX5_crack.cls = RX5 ∧ yX5_crack.cls ≠ "java/lang/invoke/MethodHandle" ∧ yX5_crack.cls ≠ "java/lang/invoke/VarHandle" ∧ (parseMethodDescriptor yX5_crack.desc).map (fun d => d.parameters.length) = some 3 := by decide +kernel
set_option maxRecDepth 100000 in
set_option maxHeartbeats 4000000 in
theorem c_X5_crack (l : Launch) (D : va_G) (cI cS cL : ClassId) (a0 : Nat) (a1 : Nat) (a2 : Nat) (b0_1 : Nat) (b0_4 : Nat) (b0_10 : Nat) (b0_12 : Nat) (b0_13 : Nat) (b0_14 : Nat) (p1 : Int32) (p2 : Int32) (p3 : Int32) (x0_kept : Int32) (x0_typed : Int32) (x0_thrown : Int32) (x0_at : Int32) (x0_isFault : Int32) (x0_value : Int32) (x0_tolds : Int32) (f1 : Nat → Int32) (f2 : Nat → Int32) (rr : Int32) (y0 : Int32) (y1 : Int32) (y2 : Nat → Int32) (y3 : Nat → Int32) (hc : f_X5_crack p1 p2 p3 x0_kept x0_thrown f1 f2 = some (rr, y0, y1, y2, y3)) : KM l yX5_crack wsX5_crack { frames := 2, cells := 0, slots := 0, locals := 45 } D (tyS cI cS cL) [.ref a0, .int p1, .int p2, .int p3] [(a0, .inr (5, [.ref a1, .ref b0_1, .ref a2, .int x0_kept, .ref b0_4, .int x0_typed, .int x0_thrown, .int x0_at, .int x0_isFault, .int x0_value, .ref b0_10, .int x0_tolds, .ref b0_12, .ref b0_13, .ref b0_14])), (a1, .inl (cI, 41, .inl f1)), (a2, .inl (cI, 246, .inl f2))] (some (.int rr)) (fun w => w = [(a0, .inr (5, [.ref a1, .ref b0_1, .ref a2, .int y0, .ref b0_4, .int x0_typed, .int y1, .int x0_at, .int x0_isFault, .int x0_value, .ref b0_10, .int x0_tolds, .ref b0_12, .ref b0_13, .ref b0_14])), (a1, .inl (cI, 41, .inl y2)), (a2, .inl (cI, 246, .inl y3))]) 0 0 := by
  refine g_entry (cc := cX5_crack) (nL := 5) (rt := (some .int)) (by decide) rfl (Nat.le_of_ble_eq_true rfl) ?_
  intro p e s m args below meth c A (X : GC p s m args c cX5_crack 5 RX5 wsX5_crack D (tyS cI cS cL) A) hr hlk _ _
  have h := hc
  unfold f_X5_crack at h
  refine g_lv (lv' := [(0, .ref a0), (1, .int p1), (2, .int p2), (3, .int p3)]) [0, 1, 2, 3] rfl ?_
  refine g_aload_n X (j := 0) dX5_crack_0 rfl ?_
  refine g_iconst (v := 0) X dX5_crack_1 (by decide) ?_
  refine g_put (q0 := 0) (k := 6) (ci := 5) (ws' := [(a0, .inr (5, [.ref a1, .ref b0_1, .ref a2, .int x0_kept, .ref b0_4, .int x0_typed, .int 0, .int x0_at, .int x0_isFault, .int x0_value, .ref b0_10, .int x0_tolds, .ref b0_12, .ref b0_13, .ref b0_14])), (a1, .inl (cI, 41, .inl f1)), (a2, .inl (cI, 246, .inl f2))]) X tyX5_ok nmX5 in_X5_crack_X5 fl_X5_crack_38 rfl rfl (Nat.le_of_ble_eq_true rfl) rfl rfl rfl (Nat.le_of_ble_eq_true rfl) dX5_crack_2 rfl ?_
  refine g_aload_n X (j := 0) dX5_crack_5 rfl ?_
  refine g_iload_n X (j := 1) dX5_crack_6 rfl ?_
  obtain ⟨r1, hc, h⟩ := bd1 h
  refine g_callV (q0 := 0) (ci := 5) (is := [0, 1]) (As := [.int p1]) (ws' := [(a0, .inr (5, [.ref a1, .ref b0_1, .ref a2, .int x0_kept, .ref b0_4, .int x0_typed, .int 0, .int x0_at, .int x0_isFault, .int x0_value, .ref b0_10, .int x0_tolds, .ref b0_12, .ref b0_13, .ref b0_14])), (a1, .inl (cI, 41, .inl f1)), (a2, .inl (cI, 246, .inl f2))]) (st := []) X (c_X5_isBook l D cI cS cL a0 a1 b0_1 a2 b0_4 b0_10 b0_12 b0_13 b0_14 p1 x0_kept x0_typed 0 x0_at x0_isFault x0_value x0_tolds f1 r1 hc) gX5_crack_X5_isBook rfl ⟨rfl, rfl⟩ hd_X5_isBook ⟨Nat.le_of_ble_eq_true rfl, Nat.le_of_ble_eq_true rfl⟩ ⟨Nat.zero_le _, Nat.zero_le _⟩ rfl rfl rfl rfl rfl rfl rfl (Nat.le_of_ble_eq_true rfl) rfl dX5_crack_7 ?_
  refine jn_g h (u0 ([(a0, .inr (5, [.ref a1, .ref b0_1, .ref a2, .int x0_kept, .ref b0_4, .int x0_typed, .int 0, .int x0_at, .int x0_isFault, .int x0_value, .ref b0_10, .int x0_tolds, .ref b0_12, .ref b0_13, .ref b0_14])), (a1, .inl (cI, 41, .inl f1)), (a2, .inl (cI, 246, .inl f2))])) (u0 ([(0, .ref a0)])) (u0 ([])) 20 ?_ ?_
  · rintro ⟨⟩ h
    dsimp only [u0] at h ⊢
    refine g_aload_n X (j := 0) dX5_crack_20 rfl ?_
    refine g_iconst (v := 1) X dX5_crack_21 (by decide) ?_
    obtain ⟨r3, o4, hc, h⟩ := bd2 h
    refine g_callV (q0 := 0) (ci := 5) (is := [0]) (As := [.int 1]) (ws' := [(a0, .inr (5, [.ref a1, .ref b0_1, .ref a2, .int x0_kept, .ref b0_4, .int x0_typed, .int o4, .int x0_at, .int x0_isFault, .int x0_value, .ref b0_10, .int x0_tolds, .ref b0_12, .ref b0_13, .ref b0_14])), (a1, .inl (cI, 41, .inl f1)), (a2, .inl (cI, 246, .inl f2))]) (st := []) X (c_X5_fails l D cI cS cL a0 a1 b0_1 a2 b0_4 b0_10 b0_12 b0_13 b0_14 1 x0_kept x0_typed 0 x0_at x0_isFault x0_value x0_tolds r3 o4 hc) gX5_crack_X5_fails rfl ⟨rfl, rfl⟩ hd_X5_fails ⟨Nat.le_of_ble_eq_true rfl, Nat.le_of_ble_eq_true rfl⟩ ⟨Nat.zero_le _, Nat.zero_le _⟩ rfl rfl rfl rfl rfl rfl rfl (Nat.le_of_ble_eq_true rfl) rfl dX5_crack_22 ?_
    have h := Option.some.inj h
    simp only [Prod.mk.injEq] at h
    obtain ⟨rfl, rfl, rfl, rfl, rfl⟩ := h
    exact g_iret X hr hlk dX5_crack_25 rfl rfl
  · intro K2 hK2 h
    refine g_if_eq (tgt := 20) X h dX5_crack_10 (by decide) (fun h => ?_) (fun h => ?_)
    · refine g_lv (lv' := [(0, .ref a0)]) [0] rfl ?_
      exact hK2 () h
    · refine g_iload_n X (j := 2) dX5_crack_13 rfl ?_
      obtain ⟨r5, hc, h⟩ := bd1 h
      refine g_callS (is := []) (As := [.int p2]) (ws' := [(a0, .inr (5, [.ref a1, .ref b0_1, .ref a2, .int x0_kept, .ref b0_4, .int x0_typed, .int 0, .int x0_at, .int x0_isFault, .int x0_value, .ref b0_10, .int x0_tolds, .ref b0_12, .ref b0_13, .ref b0_14])), (a1, .inl (cI, 41, .inl f1)), (a2, .inl (cI, 246, .inl f2))]) (st := []) X (c_X5_isLetter l D cI cS cL p2 r5 hc) gX5_crack_X5_isLetter rfl ⟨rfl, rfl⟩ hd_X5_isLetter.2 ⟨Nat.le_of_ble_eq_true rfl, Nat.le_of_ble_eq_true rfl⟩ ⟨Nat.zero_le _, Nat.zero_le _⟩ rfl rfl rfl rfl rfl (Nat.le_of_ble_eq_true rfl) rfl dX5_crack_14 ?_
      refine g_if_ne (tgt := 26) X h dX5_crack_17 (by decide) (fun h => ?_) (fun h => ?_)
      · refine g_aload_n X (j := 0) dX5_crack_26 rfl ?_
        obtain ⟨o7, o8, hc, h⟩ := bd2 h
        refine g_callV (q0 := 0) (ci := 5) (is := [0, 1, 2]) (As := []) (ws' := [(a0, .inr (5, [.ref a1, .ref b0_1, .ref a2, .int o7, .ref b0_4, .int x0_typed, .int 0, .int x0_at, .int x0_isFault, .int x0_value, .ref b0_10, .int x0_tolds, .ref b0_12, .ref b0_13, .ref b0_14])), (a1, .inl (cI, 41, .inl f1)), (a2, .inl (cI, 246, .inl o8))]) (st := []) X (c_X5_saves l D cI cS cL a0 a1 a2 b0_1 b0_4 b0_10 b0_12 b0_13 b0_14 x0_kept x0_typed 0 x0_at x0_isFault x0_value x0_tolds f1 f2 o7 o8 hc) gX5_crack_X5_saves rfl ⟨rfl, rfl⟩ hd_X5_saves ⟨Nat.le_of_ble_eq_true rfl, Nat.le_of_ble_eq_true rfl⟩ ⟨Nat.zero_le _, Nat.zero_le _⟩ rfl rfl rfl rfl rfl rfl rfl (Nat.le_of_ble_eq_true rfl) rfl dX5_crack_27 ?_
        refine g_aload_n X (j := 0) dX5_crack_30 rfl ?_
        refine g_get (q0 := 0) (k := 0) (ci := 5) X in_X5_crack_X5 fl_X5_crack_7 rfl rfl (Nat.le_of_ble_eq_true rfl) rfl dX5_crack_31 ?_
        refine g_iload_n X (j := 1) dX5_crack_34 rfl ?_
        refine g_iconst (v := 1) X dX5_crack_35 (by decide) ?_
        obtain ⟨r9, hc, h⟩ := bd1 h
        refine g_callS (is := [1]) (As := [.ref a1, .int p1, .int 1]) (ws' := [(a0, .inr (5, [.ref a1, .ref b0_1, .ref a2, .int o7, .ref b0_4, .int x0_typed, .int 0, .int x0_at, .int x0_isFault, .int x0_value, .ref b0_10, .int x0_tolds, .ref b0_12, .ref b0_13, .ref b0_14])), (a1, .inl (cI, 41, .inl f1)), (a2, .inl (cI, 246, .inl o8))]) (st := []) X (c_X5_of l D cI cS cL a1 p1 1 41 f1 r9 hc) gX5_crack_X5_of rfl ⟨rfl, rfl⟩ hd_X5_of.2 ⟨Nat.le_of_ble_eq_true rfl, Nat.le_of_ble_eq_true rfl⟩ ⟨Nat.zero_le _, Nat.zero_le _⟩ rfl rfl rfl rfl rfl (Nat.le_of_ble_eq_true rfl) rfl dX5_crack_36 ?_
        refine g_istore (lv' := [(4, .int r9), (0, .ref a0), (1, .int p1), (2, .int p2), (3, .int p3)]) X dX5_crack_39 (by decide) rfl ?_
        refine g_aload_n X (j := 1) dX5_crack_41 rfl ?_
        refine g_get (q0 := 0) (k := 0) (ci := 5) X in_X5_crack_X5 fl_X5_crack_7 rfl rfl (Nat.le_of_ble_eq_true rfl) rfl dX5_crack_42 ?_
        refine g_iconst (v := 4) X dX5_crack_45 (by decide) ?_
        refine g_iload_n X (j := 2) dX5_crack_46 rfl ?_
        refine g_imul X dX5_crack_47 ?_
        refine g_iconst (v := 1) X dX5_crack_48 (by decide) ?_
        refine g_iadd X dX5_crack_49 ?_
        refine g_iload_n X (j := 4) dX5_crack_50 rfl ?_
        refine jn_g h (u1 fun s10 => [(a0, .inr (5, [.ref a1, .ref b0_1, .ref a2, .int o7, .ref b0_4, .int x0_typed, .int 0, .int x0_at, .int x0_isFault, .int x0_value, .ref b0_10, .int x0_tolds, .ref b0_12, .ref b0_13, .ref b0_14])), (a1, .inl (cI, 41, .inl f1)), (a2, .inl (cI, 246, .inl o8))]) (u1 fun s10 => [(2, .int p2), (4, .int r9)]) (u1 fun s10 => [.int s10, .int (((4 : Int32) * p1) + 1), .ref a1]) 71 ?_ ?_
        · rintro s10 h
          dsimp only [u1] at h ⊢
          refine g_iast (q0 := 1) (t0 := 0) (ws1 := fun g12 => [(a0, .inr (5, [.ref a1, .ref b0_1, .ref a2, .int o7, .ref b0_4, .int x0_typed, .int 0, .int x0_at, .int x0_isFault, .int x0_value, .ref b0_10, .int x0_tolds, .ref b0_12, .ref b0_13, .ref b0_14])), (a1, .inl (cI, 41, .inl g12)), (a2, .inl (cI, 246, .inl o8))]) X h rfl rfl dX5_crack_71 (fun _ => rfl) (fun g12 h => ?_)
          refine g_iload X (j := 1) dX5_crack_72 rfl ?_
          refine g_iload_n X (j := 0) dX5_crack_74 rfl ?_
          refine g_ishr X dX5_crack_75 ?_
          refine g_iconst (v := 1) X dX5_crack_76 (by decide) ?_
          refine g_iand X dX5_crack_77 ?_
          have h := Option.some.inj h
          simp only [Prod.mk.injEq] at h
          obtain ⟨rfl, rfl, rfl, rfl, rfl⟩ := h
          exact g_iret X hr hlk dX5_crack_78 rfl rfl
        · intro K11 hK11 h
          refine g_if_eq (tgt := 63) X h dX5_crack_51 (by decide) (fun h => ?_) (fun h => ?_)
          · refine g_iload X (j := 0) dX5_crack_63 rfl ?_
            refine g_iconst (v := 1) X dX5_crack_65 (by decide) ?_
            refine g_iload_n X (j := 3) dX5_crack_66 rfl ?_
            refine g_ishl X dX5_crack_67 ?_
            refine g_iconst (v := (-1)) X dX5_crack_68 (by decide) ?_
            refine g_ixor X dX5_crack_69 ?_
            refine g_iand X dX5_crack_70 ?_
            refine g_lv (lv' := [(2, .int p2), (4, .int r9)]) [3, 0] rfl ?_
            exact hK11 (r9 &&& (((1 : Int32) <<< (p2 &&& 31)) ^^^ (-1))) h
          · refine g_iload X (j := 0) dX5_crack_54 rfl ?_
            refine g_iconst (v := 1) X dX5_crack_56 (by decide) ?_
            refine g_iload_n X (j := 3) dX5_crack_57 rfl ?_
            refine g_ishl X dX5_crack_58 ?_
            refine g_ior X dX5_crack_59 ?_
            refine g_goto (tgt := 71) X dX5_crack_60 (by decide) ?_
            refine g_lv (lv' := [(2, .int p2), (4, .int r9)]) [3, 0] rfl ?_
            exact hK11 (r9 ||| ((1 : Int32) <<< (p2 &&& 31))) h
      · refine g_lv (lv' := [(0, .ref a0)]) [0] rfl ?_
        exact hK2 () h
