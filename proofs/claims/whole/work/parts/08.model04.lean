set_option maxRecDepth 20000 in
theorem ggX5_mould_X5_isBook : GoodIn wsX5_mould wsX5_isBook := goodIn_r _ [6, 7, 8, 9, 5, 10, 31, 32, 33, 34, 35, 36, 37, 38, 39, 40, 41, 42, 43, 44, 45] (by decide +kernel) (by decide +kernel)
set_option maxRecDepth 20000 in
theorem gX5_mould_X5_isBook : GoodIn wsX5_mould (wsV RX5 95 RX5 yX5_isBook wsX5_isBook) := goodIn_app (goodIn_of _ (by decide +kernel)) ggX5_mould_X5_isBook
set_option maxRecDepth 20000 in
theorem ggX5_mould_X5_fails : GoodIn wsX5_mould wsX5_fails := goodIn_r _ [14, 1, 31, 32, 33, 34, 35, 36, 37, 38, 39, 40, 41, 42, 43, 44, 45] (by decide +kernel) (by decide +kernel)
set_option maxRecDepth 20000 in
theorem gX5_mould_X5_fails : GoodIn wsX5_mould (wsV RX5 49 RX5 yX5_fails wsX5_fails) := goodIn_app (goodIn_of _ (by decide +kernel)) ggX5_mould_X5_fails
set_option maxRecDepth 20000 in
theorem ggX5_mould_X5_isMould : GoodIn wsX5_mould wsX5_isMould := goodIn_r _ [17, 8, 9, 5, 10] (by decide +kernel) (by decide +kernel)
set_option maxRecDepth 20000 in
theorem gX5_mould_X5_isMould : GoodIn wsX5_mould (va_wsS RX5 82 yX5_isMould wsX5_isMould) := goodIn_app (goodIn_of _ (by decide +kernel)) ggX5_mould_X5_isMould
set_option maxRecDepth 20000 in
theorem ggX5_mould_X5_saves : GoodIn wsX5_mould wsX5_saves := goodIn_r _ [21, 22, 23, 7, 24, 25, 5, 26, 31, 32, 33, 34, 35, 36, 37, 38, 39, 40, 41, 42, 43, 44, 45] (by decide +kernel) (by decide +kernel)
set_option maxRecDepth 20000 in
theorem gX5_mould_X5_saves : GoodIn wsX5_mould (wsV RX5 88 RX5 yX5_saves wsX5_saves) := goodIn_app (goodIn_of _ (by decide +kernel)) ggX5_mould_X5_saves
set_option maxRecDepth 20000 in
theorem ggX5_mould_X5_changes : GoodIn wsX5_mould wsX5_changes := goodIn_r _ [30, 7, 31, 32, 33, 34, 35, 36, 37, 38, 39, 40, 41, 42, 43, 44, 45] (by decide +kernel) (by decide +kernel)
set_option maxRecDepth 20000 in
theorem gX5_mould_X5_changes : GoodIn wsX5_mould (wsV RX5 101 RX5 yX5_changes wsX5_changes) := goodIn_app (goodIn_of _ (by decide +kernel)) ggX5_mould_X5_changes
theorem dX5_mould_0 : decode cX5_mould 0 = .ok (.aload_n 0, 1) := by decide +kernel
theorem dX5_mould_1 : decode cX5_mould 1 = .ok (.iconst 0, 1) := by decide +kernel
theorem dX5_mould_2 : decode cX5_mould 2 = .ok (.putfield 38, 3) := by decide +kernel
theorem dX5_mould_5 : decode cX5_mould 5 = .ok (.aload_n 0, 1) := by decide +kernel
theorem dX5_mould_6 : decode cX5_mould 6 = .ok (.iload_n 1, 1) := by decide +kernel
theorem dX5_mould_7 : decode cX5_mould 7 = .ok (.invokevirtual 95, 3) := by decide +kernel
theorem dX5_mould_10 : decode cX5_mould 10 = .ok (.ifCond .ne 9, 3) := by decide +kernel
theorem dX5_mould_13 : decode cX5_mould 13 = .ok (.aload_n 0, 1) := by decide +kernel
theorem dX5_mould_14 : decode cX5_mould 14 = .ok (.iconst 1, 1) := by decide +kernel
theorem dX5_mould_15 : decode cX5_mould 15 = .ok (.invokevirtual 49, 3) := by decide +kernel
theorem dX5_mould_18 : decode cX5_mould 18 = .ok (.ireturn, 1) := by decide +kernel
theorem dX5_mould_19 : decode cX5_mould 19 = .ok (.iload_n 2, 1) := by decide +kernel
theorem dX5_mould_20 : decode cX5_mould 20 = .ok (.invokestatic 82, 3) := by decide +kernel
theorem dX5_mould_23 : decode cX5_mould 23 = .ok (.ifCond .ne 9, 3) := by decide +kernel
theorem dX5_mould_26 : decode cX5_mould 26 = .ok (.aload_n 0, 1) := by decide +kernel
theorem dX5_mould_27 : decode cX5_mould 27 = .ok (.iconst 2, 1) := by decide +kernel
theorem dX5_mould_28 : decode cX5_mould 28 = .ok (.invokevirtual 49, 3) := by decide +kernel
theorem dX5_mould_31 : decode cX5_mould 31 = .ok (.ireturn, 1) := by decide +kernel
theorem dX5_mould_32 : decode cX5_mould 32 = .ok (.aload_n 0, 1) := by decide +kernel
theorem dX5_mould_33 : decode cX5_mould 33 = .ok (.invokevirtual 88, 3) := by decide +kernel
theorem dX5_mould_36 : decode cX5_mould 36 = .ok (.aload_n 0, 1) := by decide +kernel
theorem dX5_mould_37 : decode cX5_mould 37 = .ok (.iconst 4, 1) := by decide +kernel
theorem dX5_mould_38 : decode cX5_mould 38 = .ok (.iload_n 1, 1) := by decide +kernel
theorem dX5_mould_39 : decode cX5_mould 39 = .ok (.imul, 1) := by decide +kernel
theorem dX5_mould_40 : decode cX5_mould 40 = .ok (.iconst 2, 1) := by decide +kernel
theorem dX5_mould_41 : decode cX5_mould 41 = .ok (.iadd, 1) := by decide +kernel
theorem dX5_mould_42 : decode cX5_mould 42 = .ok (.iload_n 2, 1) := by decide +kernel
theorem dX5_mould_43 : decode cX5_mould 43 = .ok (.invokevirtual 101, 3) := by decide +kernel
theorem dX5_mould_46 : decode cX5_mould 46 = .ok (.ireturn, 1) := by decide +kernel
set_option maxRecDepth 20000 in
theorem ggX5_year_X5_isBook : GoodIn wsX5_year wsX5_isBook := goodIn_r _ [6, 7, 8, 9, 5, 10, 31, 32, 33, 34, 35, 36, 37, 38, 39, 40, 41, 42, 43, 44, 45] (by decide +kernel) (by decide +kernel)
set_option maxRecDepth 20000 in
theorem gX5_year_X5_isBook : GoodIn wsX5_year (wsV RX5 95 RX5 yX5_isBook wsX5_isBook) := goodIn_app (goodIn_of _ (by decide +kernel)) ggX5_year_X5_isBook
set_option maxRecDepth 20000 in
theorem ggX5_year_X5_fails : GoodIn wsX5_year wsX5_fails := goodIn_r _ [14, 1, 31, 32, 33, 34, 35, 36, 37, 38, 39, 40, 41, 42, 43, 44, 45] (by decide +kernel) (by decide +kernel)
set_option maxRecDepth 20000 in
theorem gX5_year_X5_fails : GoodIn wsX5_year (wsV RX5 49 RX5 yX5_fails wsX5_fails) := goodIn_app (goodIn_of _ (by decide +kernel)) ggX5_year_X5_fails
set_option maxRecDepth 20000 in
theorem ggX5_year_X5_isYear : GoodIn wsX5_year wsX5_isYear := goodIn_r _ [17, 8, 9, 5, 10] (by decide +kernel) (by decide +kernel)
set_option maxRecDepth 20000 in
theorem gX5_year_X5_isYear : GoodIn wsX5_year (va_wsS RX5 85 yX5_isYear wsX5_isYear) := goodIn_app (goodIn_of _ (by decide +kernel)) ggX5_year_X5_isYear
set_option maxRecDepth 20000 in
theorem ggX5_year_X5_saves : GoodIn wsX5_year wsX5_saves := goodIn_r _ [21, 22, 23, 7, 24, 25, 5, 26, 31, 32, 33, 34, 35, 36, 37, 38, 39, 40, 41, 42, 43, 44, 45] (by decide +kernel) (by decide +kernel)
set_option maxRecDepth 20000 in
theorem gX5_year_X5_saves : GoodIn wsX5_year (wsV RX5 88 RX5 yX5_saves wsX5_saves) := goodIn_app (goodIn_of _ (by decide +kernel)) ggX5_year_X5_saves
set_option maxRecDepth 20000 in
theorem ggX5_year_X5_changes : GoodIn wsX5_year wsX5_changes := goodIn_r _ [30, 7, 31, 32, 33, 34, 35, 36, 37, 38, 39, 40, 41, 42, 43, 44, 45] (by decide +kernel) (by decide +kernel)
set_option maxRecDepth 20000 in
theorem gX5_year_X5_changes : GoodIn wsX5_year (wsV RX5 101 RX5 yX5_changes wsX5_changes) := goodIn_app (goodIn_of _ (by decide +kernel)) ggX5_year_X5_changes
theorem dX5_year_0 : decode cX5_year 0 = .ok (.aload_n 0, 1) := by decide +kernel
theorem dX5_year_1 : decode cX5_year 1 = .ok (.iconst 0, 1) := by decide +kernel
theorem dX5_year_2 : decode cX5_year 2 = .ok (.putfield 38, 3) := by decide +kernel
theorem dX5_year_5 : decode cX5_year 5 = .ok (.aload_n 0, 1) := by decide +kernel
theorem dX5_year_6 : decode cX5_year 6 = .ok (.iload_n 1, 1) := by decide +kernel
theorem dX5_year_7 : decode cX5_year 7 = .ok (.invokevirtual 95, 3) := by decide +kernel
theorem dX5_year_10 : decode cX5_year 10 = .ok (.ifCond .ne 9, 3) := by decide +kernel
theorem dX5_year_13 : decode cX5_year 13 = .ok (.aload_n 0, 1) := by decide +kernel
theorem dX5_year_14 : decode cX5_year 14 = .ok (.iconst 1, 1) := by decide +kernel
theorem dX5_year_15 : decode cX5_year 15 = .ok (.invokevirtual 49, 3) := by decide +kernel
theorem dX5_year_18 : decode cX5_year 18 = .ok (.ireturn, 1) := by decide +kernel
theorem dX5_year_19 : decode cX5_year 19 = .ok (.iload_n 2, 1) := by decide +kernel
theorem dX5_year_20 : decode cX5_year 20 = .ok (.invokestatic 85, 3) := by decide +kernel
theorem dX5_year_23 : decode cX5_year 23 = .ok (.ifCond .ne 9, 3) := by decide +kernel
theorem dX5_year_26 : decode cX5_year 26 = .ok (.aload_n 0, 1) := by decide +kernel
theorem dX5_year_27 : decode cX5_year 27 = .ok (.iconst 2, 1) := by decide +kernel
theorem dX5_year_28 : decode cX5_year 28 = .ok (.invokevirtual 49, 3) := by decide +kernel
theorem dX5_year_31 : decode cX5_year 31 = .ok (.ireturn, 1) := by decide +kernel
theorem dX5_year_32 : decode cX5_year 32 = .ok (.aload_n 0, 1) := by decide +kernel
theorem dX5_year_33 : decode cX5_year 33 = .ok (.invokevirtual 88, 3) := by decide +kernel
theorem dX5_year_36 : decode cX5_year 36 = .ok (.aload_n 0, 1) := by decide +kernel
theorem dX5_year_37 : decode cX5_year 37 = .ok (.iconst 4, 1) := by decide +kernel
theorem dX5_year_38 : decode cX5_year 38 = .ok (.iload_n 1, 1) := by decide +kernel
theorem dX5_year_39 : decode cX5_year 39 = .ok (.imul, 1) := by decide +kernel
theorem dX5_year_40 : decode cX5_year 40 = .ok (.iconst 3, 1) := by decide +kernel
theorem dX5_year_41 : decode cX5_year 41 = .ok (.iadd, 1) := by decide +kernel
theorem dX5_year_42 : decode cX5_year 42 = .ok (.iload_n 2, 1) := by decide +kernel
theorem dX5_year_43 : decode cX5_year 43 = .ok (.invokevirtual 101, 3) := by decide +kernel
theorem dX5_year_46 : decode cX5_year 46 = .ok (.ireturn, 1) := by decide +kernel
set_option maxRecDepth 20000 in
theorem ggX5_press_X5_isBook : GoodIn wsX5_press wsX5_isBook := goodIn_r _ [6, 7, 8, 9, 5, 10, 28, 29, 30, 31, 32, 33, 34, 35, 36, 37, 38, 39, 40, 41, 42] (by decide +kernel) (by decide +kernel)
set_option maxRecDepth 20000 in
theorem gX5_press_X5_isBook : GoodIn wsX5_press (wsV RX5 95 RX5 yX5_isBook wsX5_isBook) := goodIn_app (goodIn_of _ (by decide +kernel)) ggX5_press_X5_isBook
set_option maxRecDepth 20000 in
theorem ggX5_press_X5_fails : GoodIn wsX5_press wsX5_fails := goodIn_r _ [14, 1, 28, 29, 30, 31, 32, 33, 34, 35, 36, 37, 38, 39, 40, 41, 42] (by decide +kernel) (by decide +kernel)
set_option maxRecDepth 20000 in
theorem gX5_press_X5_fails : GoodIn wsX5_press (wsV RX5 49 RX5 yX5_fails wsX5_fails) := goodIn_app (goodIn_of _ (by decide +kernel)) ggX5_press_X5_fails
set_option maxRecDepth 20000 in
theorem ggX5_press_X5_in : GoodIn wsX5_press wsX5_in := goodIn_r _ [10] (by decide +kernel) (by decide +kernel)
set_option maxRecDepth 20000 in
theorem gX5_press_X5_in : GoodIn wsX5_press (va_wsS RX5 41 yX5_in wsX5_in) := goodIn_app (goodIn_of _ (by decide +kernel)) ggX5_press_X5_in
set_option maxRecDepth 20000 in
theorem ggX5_press_X5_saves : GoodIn wsX5_press wsX5_saves := goodIn_r _ [18, 19, 20, 7, 21, 22, 5, 23, 28, 29, 30, 31, 32, 33, 34, 35, 36, 37, 38, 39, 40, 41, 42] (by decide +kernel) (by decide +kernel)
set_option maxRecDepth 20000 in
theorem gX5_press_X5_saves : GoodIn wsX5_press (wsV RX5 88 RX5 yX5_saves wsX5_saves) := goodIn_app (goodIn_of _ (by decide +kernel)) ggX5_press_X5_saves
set_option maxRecDepth 20000 in
theorem ggX5_press_X5_changes : GoodIn wsX5_press wsX5_changes := goodIn_r _ [27, 7, 28, 29, 30, 31, 32, 33, 34, 35, 36, 37, 38, 39, 40, 41, 42] (by decide +kernel) (by decide +kernel)
set_option maxRecDepth 20000 in
theorem gX5_press_X5_changes : GoodIn wsX5_press (wsV RX5 101 RX5 yX5_changes wsX5_changes) := goodIn_app (goodIn_of _ (by decide +kernel)) ggX5_press_X5_changes
theorem dX5_press_0 : decode cX5_press 0 = .ok (.aload_n 0, 1) := by decide +kernel
theorem dX5_press_1 : decode cX5_press 1 = .ok (.iconst 0, 1) := by decide +kernel
theorem dX5_press_2 : decode cX5_press 2 = .ok (.putfield 38, 3) := by decide +kernel
theorem dX5_press_5 : decode cX5_press 5 = .ok (.aload_n 0, 1) := by decide +kernel
theorem dX5_press_6 : decode cX5_press 6 = .ok (.iload_n 1, 1) := by decide +kernel
theorem dX5_press_7 : decode cX5_press 7 = .ok (.invokevirtual 95, 3) := by decide +kernel
theorem dX5_press_10 : decode cX5_press 10 = .ok (.ifCond .ne 9, 3) := by decide +kernel
theorem dX5_press_13 : decode cX5_press 13 = .ok (.aload_n 0, 1) := by decide +kernel
theorem dX5_press_14 : decode cX5_press 14 = .ok (.iconst 1, 1) := by decide +kernel
theorem dX5_press_15 : decode cX5_press 15 = .ok (.invokevirtual 49, 3) := by decide +kernel
theorem dX5_press_18 : decode cX5_press 18 = .ok (.ireturn, 1) := by decide +kernel
theorem dX5_press_19 : decode cX5_press 19 = .ok (.iload_n 2, 1) := by decide +kernel
theorem dX5_press_20 : decode cX5_press 20 = .ok (.iconst 0, 1) := by decide +kernel
theorem dX5_press_21 : decode cX5_press 21 = .ok (.iconst 2, 1) := by decide +kernel
theorem dX5_press_22 : decode cX5_press 22 = .ok (.invokestatic 41, 3) := by decide +kernel
theorem dX5_press_25 : decode cX5_press 25 = .ok (.ifCond .ne 9, 3) := by decide +kernel
theorem dX5_press_28 : decode cX5_press 28 = .ok (.aload_n 0, 1) := by decide +kernel
theorem dX5_press_29 : decode cX5_press 29 = .ok (.iconst 2, 1) := by decide +kernel
theorem dX5_press_30 : decode cX5_press 30 = .ok (.invokevirtual 49, 3) := by decide +kernel
theorem dX5_press_33 : decode cX5_press 33 = .ok (.ireturn, 1) := by decide +kernel
theorem dX5_press_34 : decode cX5_press 34 = .ok (.aload_n 0, 1) := by decide +kernel
theorem dX5_press_35 : decode cX5_press 35 = .ok (.invokevirtual 88, 3) := by decide +kernel
theorem dX5_press_38 : decode cX5_press 38 = .ok (.aload_n 0, 1) := by decide +kernel
theorem dX5_press_39 : decode cX5_press 39 = .ok (.iconst 4, 1) := by decide +kernel
theorem dX5_press_40 : decode cX5_press 40 = .ok (.iload_n 1, 1) := by decide +kernel
theorem dX5_press_41 : decode cX5_press 41 = .ok (.imul, 1) := by decide +kernel
theorem dX5_press_42 : decode cX5_press 42 = .ok (.iload_n 2, 1) := by decide +kernel
theorem dX5_press_43 : decode cX5_press 43 = .ok (.invokevirtual 101, 3) := by decide +kernel
theorem dX5_press_46 : decode cX5_press 46 = .ok (.ireturn, 1) := by decide +kernel
set_option maxRecDepth 20000 in
theorem ggX5_date_X5_saves : GoodIn wsX5_date wsX5_saves := goodIn_r _ [8, 9, 10, 2, 11, 12, 7, 13, 36, 37, 38, 39, 40, 41, 42, 43, 44, 45, 46, 47, 48, 49, 50] (by decide +kernel) (by decide +kernel)
set_option maxRecDepth 20000 in
theorem gX5_date_X5_saves : GoodIn wsX5_date (wsV RX5 88 RX5 yX5_saves wsX5_saves) := goodIn_app (goodIn_of _ (by decide +kernel)) ggX5_date_X5_saves
set_option maxRecDepth 20000 in
theorem ggX5_date_X5_dates : GoodIn wsX5_date wsX5_dates := goodIn_r _ [17, 3, 18, 19, 20, 21, 7, 22, 23, 24, 25, 26, 27, 28, 29, 30, 31, 36, 37, 38, 39, 40, 41, 42, 43, 44, 45, 46, 47, 48, 49, 50] (by decide +kernel) (by decide +kernel)
set_option maxRecDepth 20000 in
theorem gX5_date_X5_dates : GoodIn wsX5_date (wsV RX5 75 RX5 yX5_dates wsX5_dates) := goodIn_app (goodIn_of _ (by decide +kernel)) ggX5_date_X5_dates
set_option maxRecDepth 20000 in
theorem ggX5_date_X5_of : GoodIn wsX5_date wsX5_of := goodIn_r _ [28] (by decide +kernel) (by decide +kernel)
set_option maxRecDepth 20000 in
theorem gX5_date_X5_of : GoodIn wsX5_date (va_wsS RX5 53 yX5_of wsX5_of) := goodIn_app (goodIn_of _ (by decide +kernel)) ggX5_date_X5_of
set_option maxRecDepth 20000 in
theorem ggX5_date_X5_isDated : GoodIn wsX5_date wsX5_isDated := goodIn_r _ [35, 3, 36, 37, 38, 39, 40, 41, 42, 43, 44, 45, 46, 47, 48, 49, 50] (by decide +kernel) (by decide +kernel)
set_option maxRecDepth 20000 in
theorem gX5_date_X5_isDated : GoodIn wsX5_date (wsV RX5 78 RX5 yX5_isDated wsX5_isDated) := goodIn_app (goodIn_of _ (by decide +kernel)) ggX5_date_X5_isDated
theorem dX5_date_0 : decode cX5_date 0 = .ok (.aload_n 0, 1) := by decide +kernel
theorem dX5_date_1 : decode cX5_date 1 = .ok (.iconst 0, 1) := by decide +kernel
theorem dX5_date_2 : decode cX5_date 2 = .ok (.putfield 38, 3) := by decide +kernel
theorem dX5_date_5 : decode cX5_date 5 = .ok (.aload_n 0, 1) := by decide +kernel
theorem dX5_date_6 : decode cX5_date 6 = .ok (.invokevirtual 88, 3) := by decide +kernel
theorem dX5_date_9 : decode cX5_date 9 = .ok (.aload_n 0, 1) := by decide +kernel
theorem dX5_date_10 : decode cX5_date 10 = .ok (.aload_n 0, 1) := by decide +kernel
theorem dX5_date_11 : decode cX5_date 11 = .ok (.getfield 7, 3) := by decide +kernel
theorem dX5_date_14 : decode cX5_date 14 = .ok (.invokevirtual 75, 3) := by decide +kernel
theorem dX5_date_17 : decode cX5_date 17 = .ok (.iconst 0, 1) := by decide +kernel
theorem dX5_date_18 : decode cX5_date 18 = .ok (.istore_n 1, 1) := by decide +kernel
theorem dX5_date_19 : decode cX5_date 19 = .ok (.iconst 0, 1) := by decide +kernel
theorem dX5_date_20 : decode cX5_date 20 = .ok (.istore_n 2, 1) := by decide +kernel
theorem dX5_date_21 : decode cX5_date 21 = .ok (.iload_n 2, 1) := by decide +kernel
theorem dX5_date_22 : decode cX5_date 22 = .ok (.aload_n 0, 1) := by decide +kernel
theorem dX5_date_23 : decode cX5_date 23 = .ok (.getfield 7, 3) := by decide +kernel
theorem dX5_date_26 : decode cX5_date 26 = .ok (.bipush 40, 2) := by decide +kernel
theorem dX5_date_28 : decode cX5_date 28 = .ok (.iaload, 1) := by decide +kernel
theorem dX5_date_29 : decode cX5_date 29 = .ok (.if_icmp .ge 51, 3) := by decide +kernel
theorem dX5_date_32 : decode cX5_date 32 = .ok (.aload_n 0, 1) := by decide +kernel
theorem dX5_date_33 : decode cX5_date 33 = .ok (.getfield 7, 3) := by decide +kernel
theorem dX5_date_36 : decode cX5_date 36 = .ok (.iload_n 2, 1) := by decide +kernel
theorem dX5_date_37 : decode cX5_date 37 = .ok (.iconst 3, 1) := by decide +kernel
theorem dX5_date_38 : decode cX5_date 38 = .ok (.invokestatic 53, 3) := by decide +kernel
theorem dX5_date_41 : decode cX5_date 41 = .ok (.iconst (-1), 1) := by decide +kernel
theorem dX5_date_42 : decode cX5_date 42 = .ok (.if_icmp .ne 32, 3) := by decide +kernel
theorem dX5_date_45 : decode cX5_date 45 = .ok (.aload_n 0, 1) := by decide +kernel
theorem dX5_date_46 : decode cX5_date 46 = .ok (.iload_n 2, 1) := by decide +kernel
theorem dX5_date_47 : decode cX5_date 47 = .ok (.invokevirtual 78, 3) := by decide +kernel
theorem dX5_date_50 : decode cX5_date 50 = .ok (.ifCond .eq 24, 3) := by decide +kernel
theorem dX5_date_53 : decode cX5_date 53 = .ok (.aload_n 0, 1) := by decide +kernel
theorem dX5_date_54 : decode cX5_date 54 = .ok (.getfield 7, 3) := by decide +kernel
theorem dX5_date_57 : decode cX5_date 57 = .ok (.iconst 4, 1) := by decide +kernel
theorem dX5_date_58 : decode cX5_date 58 = .ok (.iload_n 2, 1) := by decide +kernel
theorem dX5_date_59 : decode cX5_date 59 = .ok (.imul, 1) := by decide +kernel
theorem dX5_date_60 : decode cX5_date 60 = .ok (.iconst 3, 1) := by decide +kernel
theorem dX5_date_61 : decode cX5_date 61 = .ok (.iadd, 1) := by decide +kernel
theorem dX5_date_62 : decode cX5_date 62 = .ok (.aload_n 0, 1) := by decide +kernel
theorem dX5_date_63 : decode cX5_date 63 = .ok (.getfield 31, 3) := by decide +kernel
theorem dX5_date_66 : decode cX5_date 66 = .ok (.iconst 2, 1) := by decide +kernel
theorem dX5_date_67 : decode cX5_date 67 = .ok (.iload_n 2, 1) := by decide +kernel
theorem dX5_date_68 : decode cX5_date 68 = .ok (.imul, 1) := by decide +kernel
theorem dX5_date_69 : decode cX5_date 69 = .ok (.iaload, 1) := by decide +kernel
theorem dX5_date_70 : decode cX5_date 70 = .ok (.iastore, 1) := by decide +kernel
theorem dX5_date_71 : decode cX5_date 71 = .ok (.iinc 1 1, 3) := by decide +kernel
theorem dX5_date_74 : decode cX5_date 74 = .ok (.iinc 2 1, 3) := by decide +kernel
theorem dX5_date_77 : decode cX5_date 77 = .ok (.goto (-56), 3) := by decide +kernel
theorem dX5_date_80 : decode cX5_date 80 = .ok (.iload_n 1, 1) := by decide +kernel
theorem dX5_date_81 : decode cX5_date 81 = .ok (.ireturn, 1) := by decide +kernel
set_option maxRecDepth 20000 in
theorem ggX5_append_X5_in : GoodIn wsX5_append wsX5_in := goodIn_r _ [7] (by decide +kernel) (by decide +kernel)
set_option maxRecDepth 20000 in
theorem gX5_append_X5_in : GoodIn wsX5_append (va_wsS RX5 41 yX5_in wsX5_in) := goodIn_app (goodIn_of _ (by decide +kernel)) ggX5_append_X5_in
set_option maxRecDepth 20000 in
theorem ggX5_append_X5_fails : GoodIn wsX5_append wsX5_fails := goodIn_r _ [11, 1, 12, 13, 14, 15, 16, 17, 18, 19, 20, 21, 22, 23, 24, 25, 26] (by decide +kernel) (by decide +kernel)
set_option maxRecDepth 20000 in
theorem gX5_append_X5_fails : GoodIn wsX5_append (wsV RX5 49 RX5 yX5_fails wsX5_fails) := goodIn_app (goodIn_of _ (by decide +kernel)) ggX5_append_X5_fails
theorem dX5_append_0 : decode cX5_append 0 = .ok (.aload_n 0, 1) := by decide +kernel
theorem dX5_append_1 : decode cX5_append 1 = .ok (.iconst 0, 1) := by decide +kernel
theorem dX5_append_2 : decode cX5_append 2 = .ok (.putfield 38, 3) := by decide +kernel
theorem dX5_append_5 : decode cX5_append 5 = .ok (.iload_n 1, 1) := by decide +kernel
theorem dX5_append_6 : decode cX5_append 6 = .ok (.bipush 33, 2) := by decide +kernel
theorem dX5_append_8 : decode cX5_append 8 = .ok (.bipush 126, 2) := by decide +kernel
theorem dX5_append_10 : decode cX5_append 10 = .ok (.invokestatic 41, 3) := by decide +kernel
theorem dX5_append_13 : decode cX5_append 13 = .ok (.ifCond .ne 9, 3) := by decide +kernel
theorem dX5_append_16 : decode cX5_append 16 = .ok (.aload_n 0, 1) := by decide +kernel
theorem dX5_append_17 : decode cX5_append 17 = .ok (.iconst 1, 1) := by decide +kernel
theorem dX5_append_18 : decode cX5_append 18 = .ok (.invokevirtual 49, 3) := by decide +kernel
theorem dX5_append_21 : decode cX5_append 21 = .ok (.ireturn, 1) := by decide +kernel
theorem dX5_append_22 : decode cX5_append 22 = .ok (.aload_n 0, 1) := by decide +kernel
theorem dX5_append_23 : decode cX5_append 23 = .ok (.getfield 105, 3) := by decide +kernel
theorem dX5_append_26 : decode cX5_append 26 = .ok (.bipush 60, 2) := by decide +kernel
theorem dX5_append_28 : decode cX5_append 28 = .ok (.if_icmp .ne 9, 3) := by decide +kernel
theorem dX5_append_31 : decode cX5_append 31 = .ok (.aload_n 0, 1) := by decide +kernel
theorem dX5_append_32 : decode cX5_append 32 = .ok (.iconst 2, 1) := by decide +kernel
theorem dX5_append_33 : decode cX5_append 33 = .ok (.invokevirtual 49, 3) := by decide +kernel
theorem dX5_append_36 : decode cX5_append 36 = .ok (.ireturn, 1) := by decide +kernel
theorem dX5_append_37 : decode cX5_append 37 = .ok (.aload_n 0, 1) := by decide +kernel
theorem dX5_append_38 : decode cX5_append 38 = .ok (.getfield 19, 3) := by decide +kernel
theorem dX5_append_41 : decode cX5_append 41 = .ok (.aload_n 0, 1) := by decide +kernel
theorem dX5_append_42 : decode cX5_append 42 = .ok (.getfield 105, 3) := by decide +kernel
theorem dX5_append_45 : decode cX5_append 45 = .ok (.iload_n 1, 1) := by decide +kernel
theorem dX5_append_46 : decode cX5_append 46 = .ok (.iastore, 1) := by decide +kernel
theorem dX5_append_47 : decode cX5_append 47 = .ok (.aload_n 0, 1) := by decide +kernel
theorem dX5_append_48 : decode cX5_append 48 = .ok (.dup, 1) := by decide +kernel
theorem dX5_append_49 : decode cX5_append 49 = .ok (.getfield 105, 3) := by decide +kernel
theorem dX5_append_52 : decode cX5_append 52 = .ok (.iconst 1, 1) := by decide +kernel
theorem dX5_append_53 : decode cX5_append 53 = .ok (.iadd, 1) := by decide +kernel
theorem dX5_append_54 : decode cX5_append 54 = .ok (.putfield 105, 3) := by decide +kernel
theorem dX5_append_57 : decode cX5_append 57 = .ok (.aload_n 0, 1) := by decide +kernel
theorem dX5_append_58 : decode cX5_append 58 = .ok (.getfield 105, 3) := by decide +kernel
theorem dX5_append_61 : decode cX5_append 61 = .ok (.ireturn, 1) := by decide +kernel
theorem dX5_clearBuffer_0 : decode cX5_clearBuffer 0 = .ok (.aload_n 0, 1) := by decide +kernel
theorem dX5_clearBuffer_1 : decode cX5_clearBuffer 1 = .ok (.iconst 0, 1) := by decide +kernel
theorem dX5_clearBuffer_2 : decode cX5_clearBuffer 2 = .ok (.putfield 38, 3) := by decide +kernel
theorem dX5_clearBuffer_5 : decode cX5_clearBuffer 5 = .ok (.aload_n 0, 1) := by decide +kernel
theorem dX5_clearBuffer_6 : decode cX5_clearBuffer 6 = .ok (.getfield 105, 3) := by decide +kernel
theorem dX5_clearBuffer_9 : decode cX5_clearBuffer 9 = .ok (.istore_n 1, 1) := by decide +kernel
theorem dX5_clearBuffer_10 : decode cX5_clearBuffer 10 = .ok (.aload_n 0, 1) := by decide +kernel
theorem dX5_clearBuffer_11 : decode cX5_clearBuffer 11 = .ok (.iconst 0, 1) := by decide +kernel
theorem dX5_clearBuffer_12 : decode cX5_clearBuffer 12 = .ok (.putfield 105, 3) := by decide +kernel
theorem dX5_clearBuffer_15 : decode cX5_clearBuffer 15 = .ok (.iload_n 1, 1) := by decide +kernel
theorem dX5_clearBuffer_16 : decode cX5_clearBuffer 16 = .ok (.ireturn, 1) := by decide +kernel
set_option maxRecDepth 20000 in
theorem ggX5_isAt_X5_in : GoodIn wsX5_isAt wsX5_in := goodIn_r _ [7] (by decide +kernel) (by decide +kernel)
set_option maxRecDepth 20000 in
theorem gX5_isAt_X5_in : GoodIn wsX5_isAt (va_wsS RX5 41 yX5_in wsX5_in) := goodIn_app (goodIn_of _ (by decide +kernel)) ggX5_isAt_X5_in
theorem dX5_isAt_0 : decode cX5_isAt 0 = .ok (.aload_n 0, 1) := by decide +kernel
theorem dX5_isAt_1 : decode cX5_isAt 1 = .ok (.getfield 108, 3) := by decide +kernel
theorem dX5_isAt_4 : decode cX5_isAt 4 = .ok (.aload_n 0, 1) := by decide +kernel
theorem dX5_isAt_5 : decode cX5_isAt 5 = .ok (.getfield 105, 3) := by decide +kernel
theorem dX5_isAt_8 : decode cX5_isAt 8 = .ok (.if_icmp .ge 24, 3) := by decide +kernel
theorem dX5_isAt_11 : decode cX5_isAt 11 = .ok (.aload_n 0, 1) := by decide +kernel
theorem dX5_isAt_12 : decode cX5_isAt 12 = .ok (.getfield 19, 3) := by decide +kernel
theorem dX5_isAt_15 : decode cX5_isAt 15 = .ok (.aload_n 0, 1) := by decide +kernel
theorem dX5_isAt_16 : decode cX5_isAt 16 = .ok (.getfield 108, 3) := by decide +kernel
theorem dX5_isAt_19 : decode cX5_isAt 19 = .ok (.iaload, 1) := by decide +kernel
theorem dX5_isAt_20 : decode cX5_isAt 20 = .ok (.iload_n 1, 1) := by decide +kernel
theorem dX5_isAt_21 : decode cX5_isAt 21 = .ok (.iload_n 2, 1) := by decide +kernel
theorem dX5_isAt_22 : decode cX5_isAt 22 = .ok (.invokestatic 41, 3) := by decide +kernel
theorem dX5_isAt_25 : decode cX5_isAt 25 = .ok (.ifCond .eq 7, 3) := by decide +kernel
theorem dX5_isAt_28 : decode cX5_isAt 28 = .ok (.iconst 1, 1) := by decide +kernel
theorem dX5_isAt_29 : decode cX5_isAt 29 = .ok (.goto 4, 3) := by decide +kernel
theorem dX5_isAt_32 : decode cX5_isAt 32 = .ok (.iconst 0, 1) := by decide +kernel
theorem dX5_isAt_33 : decode cX5_isAt 33 = .ok (.ireturn, 1) := by decide +kernel
theorem dX5_stops_0 : decode cX5_stops 0 = .ok (.aload_n 0, 1) := by decide +kernel
theorem dX5_stops_1 : decode cX5_stops 1 = .ok (.aload_n 0, 1) := by decide +kernel
theorem dX5_stops_2 : decode cX5_stops 2 = .ok (.getfield 108, 3) := by decide +kernel
theorem dX5_stops_5 : decode cX5_stops 5 = .ok (.aload_n 0, 1) := by decide +kernel
theorem dX5_stops_6 : decode cX5_stops 6 = .ok (.getfield 105, 3) := by decide +kernel
theorem dX5_stops_9 : decode cX5_stops 9 = .ok (.if_icmp .ge 7, 3) := by decide +kernel
theorem dX5_stops_12 : decode cX5_stops 12 = .ok (.iconst 1, 1) := by decide +kernel
theorem dX5_stops_13 : decode cX5_stops 13 = .ok (.goto 4, 3) := by decide +kernel
theorem dX5_stops_16 : decode cX5_stops 16 = .ok (.iconst 0, 1) := by decide +kernel
theorem dX5_stops_17 : decode cX5_stops 17 = .ok (.putfield 111, 3) := by decide +kernel
theorem dX5_stops_20 : decode cX5_stops 20 = .ok (.iconst 0, 1) := by decide +kernel
theorem dX5_stops_21 : decode cX5_stops 21 = .ok (.ireturn, 1) := by decide +kernel
set_option maxRecDepth 20000 in
theorem ggX5_areLetters_X5_isAt : GoodIn wsX5_areLetters wsX5_isAt := goodIn_r _ [8, 2, 9, 3, 10, 11, 7, 12, 18, 19, 20, 21, 22, 23, 24, 25, 26, 27, 28, 29, 30, 31, 32] (by decide +kernel) (by decide +kernel)
set_option maxRecDepth 20000 in
theorem gX5_areLetters_X5_isAt : GoodIn wsX5_areLetters (wsV RX5 115 RX5 yX5_isAt wsX5_isAt) := goodIn_app (goodIn_of _ (by decide +kernel)) ggX5_areLetters_X5_isAt
set_option maxRecDepth 20000 in
theorem ggX5_areLetters_X5_stops : GoodIn wsX5_areLetters wsX5_stops := goodIn_r _ [16, 2, 9, 17, 18, 19, 20, 21, 22, 23, 24, 25, 26, 27, 28, 29, 30, 31, 32] (by decide +kernel) (by decide +kernel)
set_option maxRecDepth 20000 in
theorem gX5_areLetters_X5_stops : GoodIn wsX5_areLetters (wsV RX5 118 RX5 yX5_stops wsX5_stops) := goodIn_app (goodIn_of _ (by decide +kernel)) ggX5_areLetters_X5_stops
theorem dX5_areLetters_0 : decode cX5_areLetters 0 = .ok (.aload_n 0, 1) := by decide +kernel
theorem dX5_areLetters_1 : decode cX5_areLetters 1 = .ok (.getfield 22, 3) := by decide +kernel
theorem dX5_areLetters_4 : decode cX5_areLetters 4 = .ok (.iload_n 1, 1) := by decide +kernel
theorem dX5_areLetters_5 : decode cX5_areLetters 5 = .ok (.iconst 1, 1) := by decide +kernel
theorem dX5_areLetters_6 : decode cX5_areLetters 6 = .ok (.iadd, 1) := by decide +kernel
theorem dX5_areLetters_7 : decode cX5_areLetters 7 = .ok (.iconst 0, 1) := by decide +kernel
theorem dX5_areLetters_8 : decode cX5_areLetters 8 = .ok (.iastore, 1) := by decide +kernel
theorem dX5_areLetters_9 : decode cX5_areLetters 9 = .ok (.aload_n 0, 1) := by decide +kernel
theorem dX5_areLetters_10 : decode cX5_areLetters 10 = .ok (.bipush 45, 2) := by decide +kernel
theorem dX5_areLetters_12 : decode cX5_areLetters 12 = .ok (.bipush 45, 2) := by decide +kernel
theorem dX5_areLetters_14 : decode cX5_areLetters 14 = .ok (.invokevirtual 115, 3) := by decide +kernel
theorem dX5_areLetters_17 : decode cX5_areLetters 17 = .ok (.ifCond .eq 15, 3) := by decide +kernel
theorem dX5_areLetters_20 : decode cX5_areLetters 20 = .ok (.aload_n 0, 1) := by decide +kernel
theorem dX5_areLetters_21 : decode cX5_areLetters 21 = .ok (.dup, 1) := by decide +kernel
theorem dX5_areLetters_22 : decode cX5_areLetters 22 = .ok (.getfield 108, 3) := by decide +kernel
theorem dX5_areLetters_25 : decode cX5_areLetters 25 = .ok (.iconst 1, 1) := by decide +kernel
theorem dX5_areLetters_26 : decode cX5_areLetters 26 = .ok (.iadd, 1) := by decide +kernel
theorem dX5_areLetters_27 : decode cX5_areLetters 27 = .ok (.putfield 108, 3) := by decide +kernel
theorem dX5_areLetters_30 : decode cX5_areLetters 30 = .ok (.iconst 1, 1) := by decide +kernel
theorem dX5_areLetters_31 : decode cX5_areLetters 31 = .ok (.ireturn, 1) := by decide +kernel
theorem dX5_areLetters_32 : decode cX5_areLetters 32 = .ok (.aload_n 0, 1) := by decide +kernel
theorem dX5_areLetters_33 : decode cX5_areLetters 33 = .ok (.bipush 97, 2) := by decide +kernel
theorem dX5_areLetters_35 : decode cX5_areLetters 35 = .ok (.bipush 108, 2) := by decide +kernel
theorem dX5_areLetters_37 : decode cX5_areLetters 37 = .ok (.invokevirtual 115, 3) := by decide +kernel
theorem dX5_areLetters_40 : decode cX5_areLetters 40 = .ok (.ifCond .ne 8, 3) := by decide +kernel
theorem dX5_areLetters_43 : decode cX5_areLetters 43 = .ok (.aload_n 0, 1) := by decide +kernel
theorem dX5_areLetters_44 : decode cX5_areLetters 44 = .ok (.invokevirtual 118, 3) := by decide +kernel
theorem dX5_areLetters_47 : decode cX5_areLetters 47 = .ok (.ireturn, 1) := by decide +kernel
theorem dX5_areLetters_48 : decode cX5_areLetters 48 = .ok (.bipush 97, 2) := by decide +kernel
theorem dX5_areLetters_50 : decode cX5_areLetters 50 = .ok (.istore_n 2, 1) := by decide +kernel
theorem dX5_areLetters_51 : decode cX5_areLetters 51 = .ok (.aload_n 0, 1) := by decide +kernel
theorem dX5_areLetters_52 : decode cX5_areLetters 52 = .ok (.iload_n 2, 1) := by decide +kernel
theorem dX5_areLetters_53 : decode cX5_areLetters 53 = .ok (.bipush 108, 2) := by decide +kernel
theorem dX5_areLetters_55 : decode cX5_areLetters 55 = .ok (.invokevirtual 115, 3) := by decide +kernel
theorem dX5_areLetters_58 : decode cX5_areLetters 58 = .ok (.ifCond .eq 53, 3) := by decide +kernel
theorem dX5_areLetters_61 : decode cX5_areLetters 61 = .ok (.aload_n 0, 1) := by decide +kernel
theorem dX5_areLetters_62 : decode cX5_areLetters 62 = .ok (.getfield 22, 3) := by decide +kernel
theorem dX5_areLetters_65 : decode cX5_areLetters 65 = .ok (.iload_n 1, 1) := by decide +kernel
theorem dX5_areLetters_66 : decode cX5_areLetters 66 = .ok (.iconst 1, 1) := by decide +kernel
theorem dX5_areLetters_67 : decode cX5_areLetters 67 = .ok (.iadd, 1) := by decide +kernel
theorem dX5_areLetters_68 : decode cX5_areLetters 68 = .ok (.dup2, 1) := by decide +kernel
theorem dX5_areLetters_69 : decode cX5_areLetters 69 = .ok (.iaload, 1) := by decide +kernel
theorem dX5_areLetters_70 : decode cX5_areLetters 70 = .ok (.iconst 1, 1) := by decide +kernel
theorem dX5_areLetters_71 : decode cX5_areLetters 71 = .ok (.aload_n 0, 1) := by decide +kernel
theorem dX5_areLetters_72 : decode cX5_areLetters 72 = .ok (.getfield 19, 3) := by decide +kernel
theorem dX5_areLetters_75 : decode cX5_areLetters 75 = .ok (.aload_n 0, 1) := by decide +kernel
theorem dX5_areLetters_76 : decode cX5_areLetters 76 = .ok (.getfield 108, 3) := by decide +kernel
theorem dX5_areLetters_79 : decode cX5_areLetters 79 = .ok (.iaload, 1) := by decide +kernel
theorem dX5_areLetters_80 : decode cX5_areLetters 80 = .ok (.bipush 97, 2) := by decide +kernel
theorem dX5_areLetters_82 : decode cX5_areLetters 82 = .ok (.isub, 1) := by decide +kernel
theorem dX5_areLetters_83 : decode cX5_areLetters 83 = .ok (.ishl, 1) := by decide +kernel
theorem dX5_areLetters_84 : decode cX5_areLetters 84 = .ok (.ior, 1) := by decide +kernel
theorem dX5_areLetters_85 : decode cX5_areLetters 85 = .ok (.iastore, 1) := by decide +kernel
theorem dX5_areLetters_86 : decode cX5_areLetters 86 = .ok (.aload_n 0, 1) := by decide +kernel
theorem dX5_areLetters_87 : decode cX5_areLetters 87 = .ok (.getfield 19, 3) := by decide +kernel
theorem dX5_areLetters_90 : decode cX5_areLetters 90 = .ok (.aload_n 0, 1) := by decide +kernel
theorem dX5_areLetters_91 : decode cX5_areLetters 91 = .ok (.getfield 108, 3) := by decide +kernel
theorem dX5_areLetters_94 : decode cX5_areLetters 94 = .ok (.iaload, 1) := by decide +kernel
theorem dX5_areLetters_95 : decode cX5_areLetters 95 = .ok (.iconst 1, 1) := by decide +kernel
theorem dX5_areLetters_96 : decode cX5_areLetters 96 = .ok (.iadd, 1) := by decide +kernel
theorem dX5_areLetters_97 : decode cX5_areLetters 97 = .ok (.istore_n 2, 1) := by decide +kernel
theorem dX5_areLetters_98 : decode cX5_areLetters 98 = .ok (.aload_n 0, 1) := by decide +kernel
theorem dX5_areLetters_99 : decode cX5_areLetters 99 = .ok (.dup, 1) := by decide +kernel
theorem dX5_areLetters_100 : decode cX5_areLetters 100 = .ok (.getfield 108, 3) := by decide +kernel
theorem dX5_areLetters_103 : decode cX5_areLetters 103 = .ok (.iconst 1, 1) := by decide +kernel
theorem dX5_areLetters_104 : decode cX5_areLetters 104 = .ok (.iadd, 1) := by decide +kernel
theorem dX5_areLetters_105 : decode cX5_areLetters 105 = .ok (.putfield 108, 3) := by decide +kernel
theorem dX5_areLetters_108 : decode cX5_areLetters 108 = .ok (.goto (-57), 3) := by decide +kernel
theorem dX5_areLetters_111 : decode cX5_areLetters 111 = .ok (.iconst 1, 1) := by decide +kernel
theorem dX5_areLetters_112 : decode cX5_areLetters 112 = .ok (.ireturn, 1) := by decide +kernel
def f_X5_mould (p1 : Int32) (p2 : Int32) (x0_kept : Int32) (x0_thrown : Int32) (f1 : Nat → Int32) (f2 : Nat → Int32) : Option (Int32 × Int32 × Int32 × (Nat → Int32) × (Nat → Int32)) := (f_X5_isBook p1 f1).bind (u1 fun (r1 : Int32) => (if r1 = 0 then (f_X5_fails 1 0).bind (u2 fun (r10 : Int32) (o11 : Int32) => some (r10, x0_kept, o11, f1, f2)) else (f_X5_isMould p2).bind (u1 fun (r2 : Int32) => (if r2 = 0 then (f_X5_fails 2 0).bind (u2 fun (r8 : Int32) (o9 : Int32) => some (r8, x0_kept, o9, f1, f2)) else (f_X5_saves x0_kept f1 f2).bind (u2 fun (o4 : Int32) (o5 : Nat → Int32) => (f_X5_changes (((4 : Int32) * p1) + 2) p2 f1).bind (u2 fun (r6 : Int32) (o7 : Nat → Int32) => some (r6, o4, 0, o7, o5)))))))
theorem in_X5_mould_X5 : ∀ w ∈ wsX50, w ∈ wsX5_mould := by decide +kernel
theorem fl_X5_mould_38 : Cond.fieldLink RX5 38 "ColophonHuntModel" "thrown" "I" ∈ wsX5_mould := by decide +kernel
theorem hd_X5_mould : yX5_mould.cls = RX5 ∧ yX5_mould.cls ≠ "java/lang/invoke/MethodHandle" ∧ yX5_mould.cls ≠ "java/lang/invoke/VarHandle" ∧ (parseMethodDescriptor yX5_mould.desc).map (fun d => d.parameters.length) = some 2 := by decide +kernel
set_option maxRecDepth 100000 in
set_option maxHeartbeats 4000000 in
theorem c_X5_mould (l : Launch) (D : va_G) (cI cS cL : ClassId) (a0 : Nat) (a1 : Nat) (a2 : Nat) (b0_1 : Nat) (b0_4 : Nat) (b0_10 : Nat) (b0_12 : Nat) (b0_13 : Nat) (b0_14 : Nat) (p1 : Int32) (p2 : Int32) (x0_kept : Int32) (x0_typed : Int32) (x0_thrown : Int32) (x0_at : Int32) (x0_isFault : Int32) (x0_value : Int32) (x0_tolds : Int32) (f1 : Nat → Int32) (f2 : Nat → Int32) (rr : Int32) (y0 : Int32) (y1 : Int32) (y2 : Nat → Int32) (y3 : Nat → Int32) (hc : f_X5_mould p1 p2 x0_kept x0_thrown f1 f2 = some (rr, y0, y1, y2, y3)) : KM l yX5_mould wsX5_mould { frames := 2, cells := 0, slots := 0, locals := 45 } D (tyS cI cS cL) [.ref a0, .int p1, .int p2] [(a0, .inr (5, [.ref a1, .ref b0_1, .ref a2, .int x0_kept, .ref b0_4, .int x0_typed, .int x0_thrown, .int x0_at, .int x0_isFault, .int x0_value, .ref b0_10, .int x0_tolds, .ref b0_12, .ref b0_13, .ref b0_14])), (a1, .inl (cI, 41, .inl f1)), (a2, .inl (cI, 246, .inl f2))] (some (.int rr)) (fun w => w = [(a0, .inr (5, [.ref a1, .ref b0_1, .ref a2, .int y0, .ref b0_4, .int x0_typed, .int y1, .int x0_at, .int x0_isFault, .int x0_value, .ref b0_10, .int x0_tolds, .ref b0_12, .ref b0_13, .ref b0_14])), (a1, .inl (cI, 41, .inl y2)), (a2, .inl (cI, 246, .inl y3))]) 0 0 := by
  refine g_entry (cc := cX5_mould) (nL := 3) (rt := (some .int)) (by decide) rfl (Nat.le_of_ble_eq_true rfl) ?_
  intro p e s m args below meth c A (X : GC p s m args c cX5_mould 3 RX5 wsX5_mould D (tyS cI cS cL) A) hr hlk _ _
  have h := hc
  unfold f_X5_mould at h
  refine g_lv (lv' := [(0, .ref a0), (1, .int p1), (2, .int p2)]) [0, 1, 2] rfl ?_
  refine g_aload_n X (j := 0) dX5_mould_0 rfl ?_
  refine g_iconst (v := 0) X dX5_mould_1 (by decide) ?_
  refine g_put (q0 := 0) (k := 6) (ci := 5) (ws' := [(a0, .inr (5, [.ref a1, .ref b0_1, .ref a2, .int x0_kept, .ref b0_4, .int x0_typed, .int 0, .int x0_at, .int x0_isFault, .int x0_value, .ref b0_10, .int x0_tolds, .ref b0_12, .ref b0_13, .ref b0_14])), (a1, .inl (cI, 41, .inl f1)), (a2, .inl (cI, 246, .inl f2))]) X tyX5_ok nmX5 in_X5_mould_X5 fl_X5_mould_38 rfl rfl (Nat.le_of_ble_eq_true rfl) rfl rfl rfl (Nat.le_of_ble_eq_true rfl) dX5_mould_2 rfl ?_
  refine g_aload_n X (j := 0) dX5_mould_5 rfl ?_
  refine g_iload_n X (j := 1) dX5_mould_6 rfl ?_
  obtain ⟨r1, hc, h⟩ := bd1 h
  refine g_callV (q0 := 0) (ci := 5) (is := [0, 1]) (As := [.int p1]) (ws' := [(a0, .inr (5, [.ref a1, .ref b0_1, .ref a2, .int x0_kept, .ref b0_4, .int x0_typed, .int 0, .int x0_at, .int x0_isFault, .int x0_value, .ref b0_10, .int x0_tolds, .ref b0_12, .ref b0_13, .ref b0_14])), (a1, .inl (cI, 41, .inl f1)), (a2, .inl (cI, 246, .inl f2))]) (st := []) X (c_X5_isBook l D cI cS cL a0 a1 b0_1 a2 b0_4 b0_10 b0_12 b0_13 b0_14 p1 x0_kept x0_typed 0 x0_at x0_isFault x0_value x0_tolds f1 r1 hc) gX5_mould_X5_isBook rfl ⟨rfl, rfl⟩ hd_X5_isBook ⟨Nat.le_of_ble_eq_true rfl, Nat.le_of_ble_eq_true rfl⟩ ⟨Nat.zero_le _, Nat.zero_le _⟩ rfl rfl rfl rfl rfl rfl rfl (Nat.le_of_ble_eq_true rfl) rfl dX5_mould_7 ?_
  refine g_if_ne (tgt := 19) X h dX5_mould_10 (by decide) (fun h => ?_) (fun h => ?_)
  · refine g_iload_n X (j := 2) dX5_mould_19 rfl ?_
    obtain ⟨r2, hc, h⟩ := bd1 h
    refine g_callS (is := []) (As := [.int p2]) (ws' := [(a0, .inr (5, [.ref a1, .ref b0_1, .ref a2, .int x0_kept, .ref b0_4, .int x0_typed, .int 0, .int x0_at, .int x0_isFault, .int x0_value, .ref b0_10, .int x0_tolds, .ref b0_12, .ref b0_13, .ref b0_14])), (a1, .inl (cI, 41, .inl f1)), (a2, .inl (cI, 246, .inl f2))]) (st := []) X (c_X5_isMould l D cI cS cL p2 r2 hc) gX5_mould_X5_isMould rfl ⟨rfl, rfl⟩ hd_X5_isMould.2 ⟨Nat.le_of_ble_eq_true rfl, Nat.le_of_ble_eq_true rfl⟩ ⟨Nat.zero_le _, Nat.zero_le _⟩ rfl rfl rfl rfl rfl (Nat.le_of_ble_eq_true rfl) rfl dX5_mould_20 ?_
    refine g_if_ne (tgt := 32) X h dX5_mould_23 (by decide) (fun h => ?_) (fun h => ?_)
    · refine g_aload_n X (j := 0) dX5_mould_32 rfl ?_
      obtain ⟨o4, o5, hc, h⟩ := bd2 h
      refine g_callV (q0 := 0) (ci := 5) (is := [0, 1, 2]) (As := []) (ws' := [(a0, .inr (5, [.ref a1, .ref b0_1, .ref a2, .int o4, .ref b0_4, .int x0_typed, .int 0, .int x0_at, .int x0_isFault, .int x0_value, .ref b0_10, .int x0_tolds, .ref b0_12, .ref b0_13, .ref b0_14])), (a1, .inl (cI, 41, .inl f1)), (a2, .inl (cI, 246, .inl o5))]) (st := []) X (c_X5_saves l D cI cS cL a0 a1 a2 b0_1 b0_4 b0_10 b0_12 b0_13 b0_14 x0_kept x0_typed 0 x0_at x0_isFault x0_value x0_tolds f1 f2 o4 o5 hc) gX5_mould_X5_saves rfl ⟨rfl, rfl⟩ hd_X5_saves ⟨Nat.le_of_ble_eq_true rfl, Nat.le_of_ble_eq_true rfl⟩ ⟨Nat.zero_le _, Nat.zero_le _⟩ rfl rfl rfl rfl rfl rfl rfl (Nat.le_of_ble_eq_true rfl) rfl dX5_mould_33 ?_
      refine g_aload_n X (j := 0) dX5_mould_36 rfl ?_
      refine g_iconst (v := 4) X dX5_mould_37 (by decide) ?_
      refine g_iload_n X (j := 1) dX5_mould_38 rfl ?_
      refine g_imul X dX5_mould_39 ?_
      refine g_iconst (v := 2) X dX5_mould_40 (by decide) ?_
      refine g_iadd X dX5_mould_41 ?_
      refine g_iload_n X (j := 2) dX5_mould_42 rfl ?_
      obtain ⟨r6, o7, hc, h⟩ := bd2 h
      refine g_callV (q0 := 0) (ci := 5) (is := [0, 1]) (As := [.int (((4 : Int32) * p1) + 2), .int p2]) (ws' := [(a0, .inr (5, [.ref a1, .ref b0_1, .ref a2, .int o4, .ref b0_4, .int x0_typed, .int 0, .int x0_at, .int x0_isFault, .int x0_value, .ref b0_10, .int x0_tolds, .ref b0_12, .ref b0_13, .ref b0_14])), (a1, .inl (cI, 41, .inl o7)), (a2, .inl (cI, 246, .inl o5))]) (st := []) X (c_X5_changes l D cI cS cL a0 a1 b0_1 a2 b0_4 b0_10 b0_12 b0_13 b0_14 (((4 : Int32) * p1) + 2) p2 o4 x0_typed 0 x0_at x0_isFault x0_value x0_tolds f1 r6 o7 hc) gX5_mould_X5_changes rfl ⟨rfl, rfl⟩ hd_X5_changes ⟨Nat.le_of_ble_eq_true rfl, Nat.le_of_ble_eq_true rfl⟩ ⟨Nat.zero_le _, Nat.zero_le _⟩ rfl rfl rfl rfl rfl rfl rfl (Nat.le_of_ble_eq_true rfl) rfl dX5_mould_43 ?_
      have h := Option.some.inj h
      simp only [Prod.mk.injEq] at h
      obtain ⟨rfl, rfl, rfl, rfl, rfl⟩ := h
      exact g_iret X hr hlk dX5_mould_46 rfl rfl
    · refine g_aload_n X (j := 0) dX5_mould_26 rfl ?_
      refine g_iconst (v := 2) X dX5_mould_27 (by decide) ?_
      obtain ⟨r8, o9, hc, h⟩ := bd2 h
      refine g_callV (q0 := 0) (ci := 5) (is := [0]) (As := [.int 2]) (ws' := [(a0, .inr (5, [.ref a1, .ref b0_1, .ref a2, .int x0_kept, .ref b0_4, .int x0_typed, .int o9, .int x0_at, .int x0_isFault, .int x0_value, .ref b0_10, .int x0_tolds, .ref b0_12, .ref b0_13, .ref b0_14])), (a1, .inl (cI, 41, .inl f1)), (a2, .inl (cI, 246, .inl f2))]) (st := []) X (c_X5_fails l D cI cS cL a0 a1 b0_1 a2 b0_4 b0_10 b0_12 b0_13 b0_14 2 x0_kept x0_typed 0 x0_at x0_isFault x0_value x0_tolds r8 o9 hc) gX5_mould_X5_fails rfl ⟨rfl, rfl⟩ hd_X5_fails ⟨Nat.le_of_ble_eq_true rfl, Nat.le_of_ble_eq_true rfl⟩ ⟨Nat.zero_le _, Nat.zero_le _⟩ rfl rfl rfl rfl rfl rfl rfl (Nat.le_of_ble_eq_true rfl) rfl dX5_mould_28 ?_
      have h := Option.some.inj h
      simp only [Prod.mk.injEq] at h
      obtain ⟨rfl, rfl, rfl, rfl, rfl⟩ := h
      exact g_iret X hr hlk dX5_mould_31 rfl rfl
  · refine g_aload_n X (j := 0) dX5_mould_13 rfl ?_
    refine g_iconst (v := 1) X dX5_mould_14 (by decide) ?_
    obtain ⟨r10, o11, hc, h⟩ := bd2 h
    refine g_callV (q0 := 0) (ci := 5) (is := [0]) (As := [.int 1]) (ws' := [(a0, .inr (5, [.ref a1, .ref b0_1, .ref a2, .int x0_kept, .ref b0_4, .int x0_typed, .int o11, .int x0_at, .int x0_isFault, .int x0_value, .ref b0_10, .int x0_tolds, .ref b0_12, .ref b0_13, .ref b0_14])), (a1, .inl (cI, 41, .inl f1)), (a2, .inl (cI, 246, .inl f2))]) (st := []) X (c_X5_fails l D cI cS cL a0 a1 b0_1 a2 b0_4 b0_10 b0_12 b0_13 b0_14 1 x0_kept x0_typed 0 x0_at x0_isFault x0_value x0_tolds r10 o11 hc) gX5_mould_X5_fails rfl ⟨rfl, rfl⟩ hd_X5_fails ⟨Nat.le_of_ble_eq_true rfl, Nat.le_of_ble_eq_true rfl⟩ ⟨Nat.zero_le _, Nat.zero_le _⟩ rfl rfl rfl rfl rfl rfl rfl (Nat.le_of_ble_eq_true rfl) rfl dX5_mould_15 ?_
    have h := Option.some.inj h
    simp only [Prod.mk.injEq] at h
    obtain ⟨rfl, rfl, rfl, rfl, rfl⟩ := h
    exact g_iret X hr hlk dX5_mould_18 rfl rfl
def f_X5_year (p1 : Int32) (p2 : Int32) (x0_kept : Int32) (x0_thrown : Int32) (f1 : Nat → Int32) (f2 : Nat → Int32) : Option (Int32 × Int32 × Int32 × (Nat → Int32) × (Nat → Int32)) := (f_X5_isBook p1 f1).bind (u1 fun (r1 : Int32) => (if r1 = 0 then (f_X5_fails 1 0).bind (u2 fun (r10 : Int32) (o11 : Int32) => some (r10, x0_kept, o11, f1, f2)) else (f_X5_isYear p2).bind (u1 fun (r2 : Int32) => (if r2 = 0 then (f_X5_fails 2 0).bind (u2 fun (r8 : Int32) (o9 : Int32) => some (r8, x0_kept, o9, f1, f2)) else (f_X5_saves x0_kept f1 f2).bind (u2 fun (o4 : Int32) (o5 : Nat → Int32) => (f_X5_changes (((4 : Int32) * p1) + 3) p2 f1).bind (u2 fun (r6 : Int32) (o7 : Nat → Int32) => some (r6, o4, 0, o7, o5)))))))
theorem in_X5_year_X5 : ∀ w ∈ wsX50, w ∈ wsX5_year := by decide +kernel
theorem fl_X5_year_38 : Cond.fieldLink RX5 38 "ColophonHuntModel" "thrown" "I" ∈ wsX5_year := by decide +kernel
theorem hd_X5_year : yX5_year.cls = RX5 ∧ yX5_year.cls ≠ "java/lang/invoke/MethodHandle" ∧ yX5_year.cls ≠ "java/lang/invoke/VarHandle" ∧ (parseMethodDescriptor yX5_year.desc).map (fun d => d.parameters.length) = some 2 := by decide +kernel
set_option maxRecDepth 100000 in
set_option maxHeartbeats 4000000 in
theorem c_X5_year (l : Launch) (D : va_G) (cI cS cL : ClassId) (a0 : Nat) (a1 : Nat) (a2 : Nat) (b0_1 : Nat) (b0_4 : Nat) (b0_10 : Nat) (b0_12 : Nat) (b0_13 : Nat) (b0_14 : Nat) (p1 : Int32) (p2 : Int32) (x0_kept : Int32) (x0_typed : Int32) (x0_thrown : Int32) (x0_at : Int32) (x0_isFault : Int32) (x0_value : Int32) (x0_tolds : Int32) (f1 : Nat → Int32) (f2 : Nat → Int32) (rr : Int32) (y0 : Int32) (y1 : Int32) (y2 : Nat → Int32) (y3 : Nat → Int32) (hc : f_X5_year p1 p2 x0_kept x0_thrown f1 f2 = some (rr, y0, y1, y2, y3)) : KM l yX5_year wsX5_year { frames := 2, cells := 0, slots := 0, locals := 45 } D (tyS cI cS cL) [.ref a0, .int p1, .int p2] [(a0, .inr (5, [.ref a1, .ref b0_1, .ref a2, .int x0_kept, .ref b0_4, .int x0_typed, .int x0_thrown, .int x0_at, .int x0_isFault, .int x0_value, .ref b0_10, .int x0_tolds, .ref b0_12, .ref b0_13, .ref b0_14])), (a1, .inl (cI, 41, .inl f1)), (a2, .inl (cI, 246, .inl f2))] (some (.int rr)) (fun w => w = [(a0, .inr (5, [.ref a1, .ref b0_1, .ref a2, .int y0, .ref b0_4, .int x0_typed, .int y1, .int x0_at, .int x0_isFault, .int x0_value, .ref b0_10, .int x0_tolds, .ref b0_12, .ref b0_13, .ref b0_14])), (a1, .inl (cI, 41, .inl y2)), (a2, .inl (cI, 246, .inl y3))]) 0 0 := by
  refine g_entry (cc := cX5_year) (nL := 3) (rt := (some .int)) (by decide) rfl (Nat.le_of_ble_eq_true rfl) ?_
  intro p e s m args below meth c A (X : GC p s m args c cX5_year 3 RX5 wsX5_year D (tyS cI cS cL) A) hr hlk _ _
  have h := hc
  unfold f_X5_year at h
  refine g_lv (lv' := [(0, .ref a0), (1, .int p1), (2, .int p2)]) [0, 1, 2] rfl ?_
  refine g_aload_n X (j := 0) dX5_year_0 rfl ?_
  refine g_iconst (v := 0) X dX5_year_1 (by decide) ?_
  refine g_put (q0 := 0) (k := 6) (ci := 5) (ws' := [(a0, .inr (5, [.ref a1, .ref b0_1, .ref a2, .int x0_kept, .ref b0_4, .int x0_typed, .int 0, .int x0_at, .int x0_isFault, .int x0_value, .ref b0_10, .int x0_tolds, .ref b0_12, .ref b0_13, .ref b0_14])), (a1, .inl (cI, 41, .inl f1)), (a2, .inl (cI, 246, .inl f2))]) X tyX5_ok nmX5 in_X5_year_X5 fl_X5_year_38 rfl rfl (Nat.le_of_ble_eq_true rfl) rfl rfl rfl (Nat.le_of_ble_eq_true rfl) dX5_year_2 rfl ?_
  refine g_aload_n X (j := 0) dX5_year_5 rfl ?_
  refine g_iload_n X (j := 1) dX5_year_6 rfl ?_
  obtain ⟨r1, hc, h⟩ := bd1 h
  refine g_callV (q0 := 0) (ci := 5) (is := [0, 1]) (As := [.int p1]) (ws' := [(a0, .inr (5, [.ref a1, .ref b0_1, .ref a2, .int x0_kept, .ref b0_4, .int x0_typed, .int 0, .int x0_at, .int x0_isFault, .int x0_value, .ref b0_10, .int x0_tolds, .ref b0_12, .ref b0_13, .ref b0_14])), (a1, .inl (cI, 41, .inl f1)), (a2, .inl (cI, 246, .inl f2))]) (st := []) X (c_X5_isBook l D cI cS cL a0 a1 b0_1 a2 b0_4 b0_10 b0_12 b0_13 b0_14 p1 x0_kept x0_typed 0 x0_at x0_isFault x0_value x0_tolds f1 r1 hc) gX5_year_X5_isBook rfl ⟨rfl, rfl⟩ hd_X5_isBook ⟨Nat.le_of_ble_eq_true rfl, Nat.le_of_ble_eq_true rfl⟩ ⟨Nat.zero_le _, Nat.zero_le _⟩ rfl rfl rfl rfl rfl rfl rfl (Nat.le_of_ble_eq_true rfl) rfl dX5_year_7 ?_
  refine g_if_ne (tgt := 19) X h dX5_year_10 (by decide) (fun h => ?_) (fun h => ?_)
  · refine g_iload_n X (j := 2) dX5_year_19 rfl ?_
    obtain ⟨r2, hc, h⟩ := bd1 h
    refine g_callS (is := []) (As := [.int p2]) (ws' := [(a0, .inr (5, [.ref a1, .ref b0_1, .ref a2, .int x0_kept, .ref b0_4, .int x0_typed, .int 0, .int x0_at, .int x0_isFault, .int x0_value, .ref b0_10, .int x0_tolds, .ref b0_12, .ref b0_13, .ref b0_14])), (a1, .inl (cI, 41, .inl f1)), (a2, .inl (cI, 246, .inl f2))]) (st := []) X (c_X5_isYear l D cI cS cL p2 r2 hc) gX5_year_X5_isYear rfl ⟨rfl, rfl⟩ hd_X5_isYear.2 ⟨Nat.le_of_ble_eq_true rfl, Nat.le_of_ble_eq_true rfl⟩ ⟨Nat.zero_le _, Nat.zero_le _⟩ rfl rfl rfl rfl rfl (Nat.le_of_ble_eq_true rfl) rfl dX5_year_20 ?_
    refine g_if_ne (tgt := 32) X h dX5_year_23 (by decide) (fun h => ?_) (fun h => ?_)
    · refine g_aload_n X (j := 0) dX5_year_32 rfl ?_
      obtain ⟨o4, o5, hc, h⟩ := bd2 h
      refine g_callV (q0 := 0) (ci := 5) (is := [0, 1, 2]) (As := []) (ws' := [(a0, .inr (5, [.ref a1, .ref b0_1, .ref a2, .int o4, .ref b0_4, .int x0_typed, .int 0, .int x0_at, .int x0_isFault, .int x0_value, .ref b0_10, .int x0_tolds, .ref b0_12, .ref b0_13, .ref b0_14])), (a1, .inl (cI, 41, .inl f1)), (a2, .inl (cI, 246, .inl o5))]) (st := []) X (c_X5_saves l D cI cS cL a0 a1 a2 b0_1 b0_4 b0_10 b0_12 b0_13 b0_14 x0_kept x0_typed 0 x0_at x0_isFault x0_value x0_tolds f1 f2 o4 o5 hc) gX5_year_X5_saves rfl ⟨rfl, rfl⟩ hd_X5_saves ⟨Nat.le_of_ble_eq_true rfl, Nat.le_of_ble_eq_true rfl⟩ ⟨Nat.zero_le _, Nat.zero_le _⟩ rfl rfl rfl rfl rfl rfl rfl (Nat.le_of_ble_eq_true rfl) rfl dX5_year_33 ?_
      refine g_aload_n X (j := 0) dX5_year_36 rfl ?_
      refine g_iconst (v := 4) X dX5_year_37 (by decide) ?_
      refine g_iload_n X (j := 1) dX5_year_38 rfl ?_
      refine g_imul X dX5_year_39 ?_
      refine g_iconst (v := 3) X dX5_year_40 (by decide) ?_
      refine g_iadd X dX5_year_41 ?_
      refine g_iload_n X (j := 2) dX5_year_42 rfl ?_
      obtain ⟨r6, o7, hc, h⟩ := bd2 h
      refine g_callV (q0 := 0) (ci := 5) (is := [0, 1]) (As := [.int (((4 : Int32) * p1) + 3), .int p2]) (ws' := [(a0, .inr (5, [.ref a1, .ref b0_1, .ref a2, .int o4, .ref b0_4, .int x0_typed, .int 0, .int x0_at, .int x0_isFault, .int x0_value, .ref b0_10, .int x0_tolds, .ref b0_12, .ref b0_13, .ref b0_14])), (a1, .inl (cI, 41, .inl o7)), (a2, .inl (cI, 246, .inl o5))]) (st := []) X (c_X5_changes l D cI cS cL a0 a1 b0_1 a2 b0_4 b0_10 b0_12 b0_13 b0_14 (((4 : Int32) * p1) + 3) p2 o4 x0_typed 0 x0_at x0_isFault x0_value x0_tolds f1 r6 o7 hc) gX5_year_X5_changes rfl ⟨rfl, rfl⟩ hd_X5_changes ⟨Nat.le_of_ble_eq_true rfl, Nat.le_of_ble_eq_true rfl⟩ ⟨Nat.zero_le _, Nat.zero_le _⟩ rfl rfl rfl rfl rfl rfl rfl (Nat.le_of_ble_eq_true rfl) rfl dX5_year_43 ?_
      have h := Option.some.inj h
      simp only [Prod.mk.injEq] at h
      obtain ⟨rfl, rfl, rfl, rfl, rfl⟩ := h
      exact g_iret X hr hlk dX5_year_46 rfl rfl
    · refine g_aload_n X (j := 0) dX5_year_26 rfl ?_
      refine g_iconst (v := 2) X dX5_year_27 (by decide) ?_
      obtain ⟨r8, o9, hc, h⟩ := bd2 h
      refine g_callV (q0 := 0) (ci := 5) (is := [0]) (As := [.int 2]) (ws' := [(a0, .inr (5, [.ref a1, .ref b0_1, .ref a2, .int x0_kept, .ref b0_4, .int x0_typed, .int o9, .int x0_at, .int x0_isFault, .int x0_value, .ref b0_10, .int x0_tolds, .ref b0_12, .ref b0_13, .ref b0_14])), (a1, .inl (cI, 41, .inl f1)), (a2, .inl (cI, 246, .inl f2))]) (st := []) X (c_X5_fails l D cI cS cL a0 a1 b0_1 a2 b0_4 b0_10 b0_12 b0_13 b0_14 2 x0_kept x0_typed 0 x0_at x0_isFault x0_value x0_tolds r8 o9 hc) gX5_year_X5_fails rfl ⟨rfl, rfl⟩ hd_X5_fails ⟨Nat.le_of_ble_eq_true rfl, Nat.le_of_ble_eq_true rfl⟩ ⟨Nat.zero_le _, Nat.zero_le _⟩ rfl rfl rfl rfl rfl rfl rfl (Nat.le_of_ble_eq_true rfl) rfl dX5_year_28 ?_
      have h := Option.some.inj h
      simp only [Prod.mk.injEq] at h
      obtain ⟨rfl, rfl, rfl, rfl, rfl⟩ := h
      exact g_iret X hr hlk dX5_year_31 rfl rfl
  · refine g_aload_n X (j := 0) dX5_year_13 rfl ?_
    refine g_iconst (v := 1) X dX5_year_14 (by decide) ?_
    obtain ⟨r10, o11, hc, h⟩ := bd2 h
    refine g_callV (q0 := 0) (ci := 5) (is := [0]) (As := [.int 1]) (ws' := [(a0, .inr (5, [.ref a1, .ref b0_1, .ref a2, .int x0_kept, .ref b0_4, .int x0_typed, .int o11, .int x0_at, .int x0_isFault, .int x0_value, .ref b0_10, .int x0_tolds, .ref b0_12, .ref b0_13, .ref b0_14])), (a1, .inl (cI, 41, .inl f1)), (a2, .inl (cI, 246, .inl f2))]) (st := []) X (c_X5_fails l D cI cS cL a0 a1 b0_1 a2 b0_4 b0_10 b0_12 b0_13 b0_14 1 x0_kept x0_typed 0 x0_at x0_isFault x0_value x0_tolds r10 o11 hc) gX5_year_X5_fails rfl ⟨rfl, rfl⟩ hd_X5_fails ⟨Nat.le_of_ble_eq_true rfl, Nat.le_of_ble_eq_true rfl⟩ ⟨Nat.zero_le _, Nat.zero_le _⟩ rfl rfl rfl rfl rfl rfl rfl (Nat.le_of_ble_eq_true rfl) rfl dX5_year_15 ?_
    have h := Option.some.inj h
    simp only [Prod.mk.injEq] at h
    obtain ⟨rfl, rfl, rfl, rfl, rfl⟩ := h
    exact g_iret X hr hlk dX5_year_18 rfl rfl
def f_X5_press (p1 : Int32) (p2 : Int32) (x0_kept : Int32) (x0_thrown : Int32) (f1 : Nat → Int32) (f2 : Nat → Int32) : Option (Int32 × Int32 × Int32 × (Nat → Int32) × (Nat → Int32)) := (f_X5_isBook p1 f1).bind (u1 fun (r1 : Int32) => (if r1 = 0 then (f_X5_fails 1 0).bind (u2 fun (r10 : Int32) (o11 : Int32) => some (r10, x0_kept, o11, f1, f2)) else (f_X5_in p2 0 2).bind (u1 fun (r2 : Int32) => (if r2 = 0 then (f_X5_fails 2 0).bind (u2 fun (r8 : Int32) (o9 : Int32) => some (r8, x0_kept, o9, f1, f2)) else (f_X5_saves x0_kept f1 f2).bind (u2 fun (o4 : Int32) (o5 : Nat → Int32) => (f_X5_changes ((4 : Int32) * p1) p2 f1).bind (u2 fun (r6 : Int32) (o7 : Nat → Int32) => some (r6, o4, 0, o7, o5)))))))
theorem in_X5_press_X5 : ∀ w ∈ wsX50, w ∈ wsX5_press := by decide +kernel
theorem fl_X5_press_38 : Cond.fieldLink RX5 38 "ColophonHuntModel" "thrown" "I" ∈ wsX5_press := by decide +kernel
theorem hd_X5_press : yX5_press.cls = RX5 ∧ yX5_press.cls ≠ "java/lang/invoke/MethodHandle" ∧ yX5_press.cls ≠ "java/lang/invoke/VarHandle" ∧ (parseMethodDescriptor yX5_press.desc).map (fun d => d.parameters.length) = some 2 := by decide +kernel
set_option maxRecDepth 100000 in
set_option maxHeartbeats 4000000 in
theorem c_X5_press (l : Launch) (D : va_G) (cI cS cL : ClassId) (a0 : Nat) (a1 : Nat) (a2 : Nat) (b0_1 : Nat) (b0_4 : Nat) (b0_10 : Nat) (b0_12 : Nat) (b0_13 : Nat) (b0_14 : Nat) (p1 : Int32) (p2 : Int32) (x0_kept : Int32) (x0_typed : Int32) (x0_thrown : Int32) (x0_at : Int32) (x0_isFault : Int32) (x0_value : Int32) (x0_tolds : Int32) (f1 : Nat → Int32) (f2 : Nat → Int32) (rr : Int32) (y0 : Int32) (y1 : Int32) (y2 : Nat → Int32) (y3 : Nat → Int32) (hc : f_X5_press p1 p2 x0_kept x0_thrown f1 f2 = some (rr, y0, y1, y2, y3)) : KM l yX5_press wsX5_press { frames := 2, cells := 0, slots := 0, locals := 45 } D (tyS cI cS cL) [.ref a0, .int p1, .int p2] [(a0, .inr (5, [.ref a1, .ref b0_1, .ref a2, .int x0_kept, .ref b0_4, .int x0_typed, .int x0_thrown, .int x0_at, .int x0_isFault, .int x0_value, .ref b0_10, .int x0_tolds, .ref b0_12, .ref b0_13, .ref b0_14])), (a1, .inl (cI, 41, .inl f1)), (a2, .inl (cI, 246, .inl f2))] (some (.int rr)) (fun w => w = [(a0, .inr (5, [.ref a1, .ref b0_1, .ref a2, .int y0, .ref b0_4, .int x0_typed, .int y1, .int x0_at, .int x0_isFault, .int x0_value, .ref b0_10, .int x0_tolds, .ref b0_12, .ref b0_13, .ref b0_14])), (a1, .inl (cI, 41, .inl y2)), (a2, .inl (cI, 246, .inl y3))]) 0 0 := by
  refine g_entry (cc := cX5_press) (nL := 3) (rt := (some .int)) (by decide) rfl (Nat.le_of_ble_eq_true rfl) ?_
  intro p e s m args below meth c A (X : GC p s m args c cX5_press 3 RX5 wsX5_press D (tyS cI cS cL) A) hr hlk _ _
  have h := hc
  unfold f_X5_press at h
  refine g_lv (lv' := [(0, .ref a0), (1, .int p1), (2, .int p2)]) [0, 1, 2] rfl ?_
  refine g_aload_n X (j := 0) dX5_press_0 rfl ?_
  refine g_iconst (v := 0) X dX5_press_1 (by decide) ?_
  refine g_put (q0 := 0) (k := 6) (ci := 5) (ws' := [(a0, .inr (5, [.ref a1, .ref b0_1, .ref a2, .int x0_kept, .ref b0_4, .int x0_typed, .int 0, .int x0_at, .int x0_isFault, .int x0_value, .ref b0_10, .int x0_tolds, .ref b0_12, .ref b0_13, .ref b0_14])), (a1, .inl (cI, 41, .inl f1)), (a2, .inl (cI, 246, .inl f2))]) X tyX5_ok nmX5 in_X5_press_X5 fl_X5_press_38 rfl rfl (Nat.le_of_ble_eq_true rfl) rfl rfl rfl (Nat.le_of_ble_eq_true rfl) dX5_press_2 rfl ?_
  refine g_aload_n X (j := 0) dX5_press_5 rfl ?_
  refine g_iload_n X (j := 1) dX5_press_6 rfl ?_
  obtain ⟨r1, hc, h⟩ := bd1 h
  refine g_callV (q0 := 0) (ci := 5) (is := [0, 1]) (As := [.int p1]) (ws' := [(a0, .inr (5, [.ref a1, .ref b0_1, .ref a2, .int x0_kept, .ref b0_4, .int x0_typed, .int 0, .int x0_at, .int x0_isFault, .int x0_value, .ref b0_10, .int x0_tolds, .ref b0_12, .ref b0_13, .ref b0_14])), (a1, .inl (cI, 41, .inl f1)), (a2, .inl (cI, 246, .inl f2))]) (st := []) X (c_X5_isBook l D cI cS cL a0 a1 b0_1 a2 b0_4 b0_10 b0_12 b0_13 b0_14 p1 x0_kept x0_typed 0 x0_at x0_isFault x0_value x0_tolds f1 r1 hc) gX5_press_X5_isBook rfl ⟨rfl, rfl⟩ hd_X5_isBook ⟨Nat.le_of_ble_eq_true rfl, Nat.le_of_ble_eq_true rfl⟩ ⟨Nat.zero_le _, Nat.zero_le _⟩ rfl rfl rfl rfl rfl rfl rfl (Nat.le_of_ble_eq_true rfl) rfl dX5_press_7 ?_
  refine g_if_ne (tgt := 19) X h dX5_press_10 (by decide) (fun h => ?_) (fun h => ?_)
  · refine g_iload_n X (j := 2) dX5_press_19 rfl ?_
    refine g_iconst (v := 0) X dX5_press_20 (by decide) ?_
    refine g_iconst (v := 2) X dX5_press_21 (by decide) ?_
    obtain ⟨r2, hc, h⟩ := bd1 h
    refine g_callS (is := []) (As := [.int p2, .int 0, .int 2]) (ws' := [(a0, .inr (5, [.ref a1, .ref b0_1, .ref a2, .int x0_kept, .ref b0_4, .int x0_typed, .int 0, .int x0_at, .int x0_isFault, .int x0_value, .ref b0_10, .int x0_tolds, .ref b0_12, .ref b0_13, .ref b0_14])), (a1, .inl (cI, 41, .inl f1)), (a2, .inl (cI, 246, .inl f2))]) (st := []) X (c_X5_in l D cI cS cL p2 0 2 r2 hc) gX5_press_X5_in rfl ⟨rfl, rfl⟩ hd_X5_in.2 ⟨Nat.le_of_ble_eq_true rfl, Nat.le_of_ble_eq_true rfl⟩ ⟨Nat.zero_le _, Nat.zero_le _⟩ rfl rfl rfl rfl rfl (Nat.le_of_ble_eq_true rfl) rfl dX5_press_22 ?_
    refine g_if_ne (tgt := 34) X h dX5_press_25 (by decide) (fun h => ?_) (fun h => ?_)
    · refine g_aload_n X (j := 0) dX5_press_34 rfl ?_
      obtain ⟨o4, o5, hc, h⟩ := bd2 h
      refine g_callV (q0 := 0) (ci := 5) (is := [0, 1, 2]) (As := []) (ws' := [(a0, .inr (5, [.ref a1, .ref b0_1, .ref a2, .int o4, .ref b0_4, .int x0_typed, .int 0, .int x0_at, .int x0_isFault, .int x0_value, .ref b0_10, .int x0_tolds, .ref b0_12, .ref b0_13, .ref b0_14])), (a1, .inl (cI, 41, .inl f1)), (a2, .inl (cI, 246, .inl o5))]) (st := []) X (c_X5_saves l D cI cS cL a0 a1 a2 b0_1 b0_4 b0_10 b0_12 b0_13 b0_14 x0_kept x0_typed 0 x0_at x0_isFault x0_value x0_tolds f1 f2 o4 o5 hc) gX5_press_X5_saves rfl ⟨rfl, rfl⟩ hd_X5_saves ⟨Nat.le_of_ble_eq_true rfl, Nat.le_of_ble_eq_true rfl⟩ ⟨Nat.zero_le _, Nat.zero_le _⟩ rfl rfl rfl rfl rfl rfl rfl (Nat.le_of_ble_eq_true rfl) rfl dX5_press_35 ?_
      refine g_aload_n X (j := 0) dX5_press_38 rfl ?_
      refine g_iconst (v := 4) X dX5_press_39 (by decide) ?_
      refine g_iload_n X (j := 1) dX5_press_40 rfl ?_
      refine g_imul X dX5_press_41 ?_
      refine g_iload_n X (j := 2) dX5_press_42 rfl ?_
      obtain ⟨r6, o7, hc, h⟩ := bd2 h
      refine g_callV (q0 := 0) (ci := 5) (is := [0, 1]) (As := [.int ((4 : Int32) * p1), .int p2]) (ws' := [(a0, .inr (5, [.ref a1, .ref b0_1, .ref a2, .int o4, .ref b0_4, .int x0_typed, .int 0, .int x0_at, .int x0_isFault, .int x0_value, .ref b0_10, .int x0_tolds, .ref b0_12, .ref b0_13, .ref b0_14])), (a1, .inl (cI, 41, .inl o7)), (a2, .inl (cI, 246, .inl o5))]) (st := []) X (c_X5_changes l D cI cS cL a0 a1 b0_1 a2 b0_4 b0_10 b0_12 b0_13 b0_14 ((4 : Int32) * p1) p2 o4 x0_typed 0 x0_at x0_isFault x0_value x0_tolds f1 r6 o7 hc) gX5_press_X5_changes rfl ⟨rfl, rfl⟩ hd_X5_changes ⟨Nat.le_of_ble_eq_true rfl, Nat.le_of_ble_eq_true rfl⟩ ⟨Nat.zero_le _, Nat.zero_le _⟩ rfl rfl rfl rfl rfl rfl rfl (Nat.le_of_ble_eq_true rfl) rfl dX5_press_43 ?_
      have h := Option.some.inj h
      simp only [Prod.mk.injEq] at h
      obtain ⟨rfl, rfl, rfl, rfl, rfl⟩ := h
      exact g_iret X hr hlk dX5_press_46 rfl rfl
    · refine g_aload_n X (j := 0) dX5_press_28 rfl ?_
      refine g_iconst (v := 2) X dX5_press_29 (by decide) ?_
      obtain ⟨r8, o9, hc, h⟩ := bd2 h
      refine g_callV (q0 := 0) (ci := 5) (is := [0]) (As := [.int 2]) (ws' := [(a0, .inr (5, [.ref a1, .ref b0_1, .ref a2, .int x0_kept, .ref b0_4, .int x0_typed, .int o9, .int x0_at, .int x0_isFault, .int x0_value, .ref b0_10, .int x0_tolds, .ref b0_12, .ref b0_13, .ref b0_14])), (a1, .inl (cI, 41, .inl f1)), (a2, .inl (cI, 246, .inl f2))]) (st := []) X (c_X5_fails l D cI cS cL a0 a1 b0_1 a2 b0_4 b0_10 b0_12 b0_13 b0_14 2 x0_kept x0_typed 0 x0_at x0_isFault x0_value x0_tolds r8 o9 hc) gX5_press_X5_fails rfl ⟨rfl, rfl⟩ hd_X5_fails ⟨Nat.le_of_ble_eq_true rfl, Nat.le_of_ble_eq_true rfl⟩ ⟨Nat.zero_le _, Nat.zero_le _⟩ rfl rfl rfl rfl rfl rfl rfl (Nat.le_of_ble_eq_true rfl) rfl dX5_press_30 ?_
      have h := Option.some.inj h
      simp only [Prod.mk.injEq] at h
      obtain ⟨rfl, rfl, rfl, rfl, rfl⟩ := h
      exact g_iret X hr hlk dX5_press_33 rfl rfl
  · refine g_aload_n X (j := 0) dX5_press_13 rfl ?_
    refine g_iconst (v := 1) X dX5_press_14 (by decide) ?_
    obtain ⟨r10, o11, hc, h⟩ := bd2 h
    refine g_callV (q0 := 0) (ci := 5) (is := [0]) (As := [.int 1]) (ws' := [(a0, .inr (5, [.ref a1, .ref b0_1, .ref a2, .int x0_kept, .ref b0_4, .int x0_typed, .int o11, .int x0_at, .int x0_isFault, .int x0_value, .ref b0_10, .int x0_tolds, .ref b0_12, .ref b0_13, .ref b0_14])), (a1, .inl (cI, 41, .inl f1)), (a2, .inl (cI, 246, .inl f2))]) (st := []) X (c_X5_fails l D cI cS cL a0 a1 b0_1 a2 b0_4 b0_10 b0_12 b0_13 b0_14 1 x0_kept x0_typed 0 x0_at x0_isFault x0_value x0_tolds r10 o11 hc) gX5_press_X5_fails rfl ⟨rfl, rfl⟩ hd_X5_fails ⟨Nat.le_of_ble_eq_true rfl, Nat.le_of_ble_eq_true rfl⟩ ⟨Nat.zero_le _, Nat.zero_le _⟩ rfl rfl rfl rfl rfl rfl rfl (Nat.le_of_ble_eq_true rfl) rfl dX5_press_15 ?_
    have h := Option.some.inj h
    simp only [Prod.mk.injEq] at h
    obtain ⟨rfl, rfl, rfl, rfl, rfl⟩ := h
    exact g_iret X hr hlk dX5_press_18 rfl rfl
def f_X5_date (x0_kept : Int32) (x0_thrown : Int32) (f1 : Nat → Int32) (f2 : Nat → Int32) (f3 : Nat → Int32) (f4 : Nat → Int32) : Option (Int32 × Int32 × Int32 × (Nat → Int32) × (Nat → Int32) × (Nat → Int32) × (Nat → Int32)) := (f_X5_saves x0_kept f1 f2).bind (u2 fun (o2 : Int32) (o3 : Nat → Int32) => (f_X5_dates f3 f4 41 f1).bind (u2 fun (o5 : Nat → Int32) (o6 : Nat → Int32) => (wl (u3 fun (l1_7 : Int32) (l2_8 : Int32) (w9 : Nat → Int32) => (rdA w9 41 40).bind (fun v12 => (if v12 ≤ l2_8 then some (Sum.inr (l1_7, w9)) else (f_X5_of l2_8 3 41 w9).bind (u1 fun (r13 : Int32) => (jn (u2 fun (l1_14 : Int32) (w15 : Nat → Int32) => some (Sum.inl (l1_14, (l2_8 + 1), w15))) (fun K16 => (if r13 = (-1) then (f_X5_isDated l2_8 o6).bind (u1 fun (r17 : Int32) => (if r17 = 0 then K16 (l1_7, w9) else (rdA o6 20 ((2 : Int32) * l2_8)).bind (fun v18 => (wrA w9 41 (((4 : Int32) * l2_8) + 3) v18).bind (fun g19 => K16 ((l1_7 + 1), g19))))) else K16 (l1_7, w9)))))))) 9999 (0, 0, f1)).bind (u2 fun (l1_10 : Int32) (w11 : Nat → Int32) => some (l1_10, o2, 0, w11, o3, o5, o6))))
theorem in_X5_date_X5 : ∀ w ∈ wsX50, w ∈ wsX5_date := by decide +kernel
theorem fl_X5_date_38 : Cond.fieldLink RX5 38 "ColophonHuntModel" "thrown" "I" ∈ wsX5_date := by decide +kernel
theorem fl_X5_date_7 : Cond.fieldLink RX5 7 "ColophonHuntModel" "now" "[I" ∈ wsX5_date := by decide +kernel
theorem fl_X5_date_31 : Cond.fieldLink RX5 31 "ColophonHuntModel" "years" "[I" ∈ wsX5_date := by decide +kernel
theorem hd_X5_date : yX5_date.cls = RX5 ∧ yX5_date.cls ≠ "java/lang/invoke/MethodHandle" ∧ yX5_date.cls ≠ "java/lang/invoke/VarHandle" ∧ (parseMethodDescriptor yX5_date.desc).map (fun d => d.parameters.length) = some 0 := by decide +kernel
set_option maxRecDepth 100000 in
set_option maxHeartbeats 4000000 in
theorem c_X5_date (l : Launch) (D : va_G) (cI cS cL : ClassId) (a0 : Nat) (a1 : Nat) (a2 : Nat) (a3 : Nat) (a4 : Nat) (b0_1 : Nat) (b0_4 : Nat) (b0_10 : Nat) (b0_13 : Nat) (x0_kept : Int32) (x0_typed : Int32) (x0_thrown : Int32) (x0_at : Int32) (x0_isFault : Int32) (x0_value : Int32) (x0_tolds : Int32) (f1 : Nat → Int32) (f2 : Nat → Int32) (f3 : Nat → Int32) (f4 : Nat → Int32) (rr : Int32) (y0 : Int32) (y1 : Int32) (y2 : Nat → Int32) (y3 : Nat → Int32) (y4 : Nat → Int32) (y5 : Nat → Int32) (hc : f_X5_date x0_kept x0_thrown f1 f2 f3 f4 = some (rr, y0, y1, y2, y3, y4, y5)) : KM l yX5_date wsX5_date { frames := 4, cells := 0, slots := 0, locals := 94 } D (tyS cI cS cL) [.ref a0] [(a0, .inr (5, [.ref a1, .ref b0_1, .ref a2, .int x0_kept, .ref b0_4, .int x0_typed, .int x0_thrown, .int x0_at, .int x0_isFault, .int x0_value, .ref b0_10, .int x0_tolds, .ref a3, .ref b0_13, .ref a4])), (a1, .inl (cI, 41, .inl f1)), (a2, .inl (cI, 246, .inl f2)), (a3, .inl (cI, 10, .inl f3)), (a4, .inl (cI, 20, .inl f4))] (some (.int rr)) (fun w => w = [(a0, .inr (5, [.ref a1, .ref b0_1, .ref a2, .int y0, .ref b0_4, .int x0_typed, .int y1, .int x0_at, .int x0_isFault, .int x0_value, .ref b0_10, .int x0_tolds, .ref a3, .ref b0_13, .ref a4])), (a1, .inl (cI, 41, .inl y2)), (a2, .inl (cI, 246, .inl y3)), (a3, .inl (cI, 10, .inl y4)), (a4, .inl (cI, 20, .inl y5))]) 0 0 := by
  refine g_entry (cc := cX5_date) (nL := 3) (rt := (some .int)) (by decide) rfl (Nat.le_of_ble_eq_true rfl) ?_
  intro p e s m args below meth c A (X : GC p s m args c cX5_date 3 RX5 wsX5_date D (tyS cI cS cL) A) hr hlk _ _
  have h := hc
  unfold f_X5_date at h
  refine g_lv (lv' := [(0, .ref a0)]) [0] rfl ?_
  refine g_aload_n X (j := 0) dX5_date_0 rfl ?_
  refine g_iconst (v := 0) X dX5_date_1 (by decide) ?_
  refine g_put (q0 := 0) (k := 6) (ci := 5) (ws' := [(a0, .inr (5, [.ref a1, .ref b0_1, .ref a2, .int x0_kept, .ref b0_4, .int x0_typed, .int 0, .int x0_at, .int x0_isFault, .int x0_value, .ref b0_10, .int x0_tolds, .ref a3, .ref b0_13, .ref a4])), (a1, .inl (cI, 41, .inl f1)), (a2, .inl (cI, 246, .inl f2)), (a3, .inl (cI, 10, .inl f3)), (a4, .inl (cI, 20, .inl f4))]) X tyX5_ok nmX5 in_X5_date_X5 fl_X5_date_38 rfl rfl (Nat.le_of_ble_eq_true rfl) rfl rfl rfl (Nat.le_of_ble_eq_true rfl) dX5_date_2 rfl ?_
  refine g_aload_n X (j := 0) dX5_date_5 rfl ?_
  obtain ⟨o2, o3, hc, h⟩ := bd2 h
  refine g_callV (q0 := 0) (ci := 5) (is := [0, 1, 2]) (As := []) (ws' := [(a0, .inr (5, [.ref a1, .ref b0_1, .ref a2, .int o2, .ref b0_4, .int x0_typed, .int 0, .int x0_at, .int x0_isFault, .int x0_value, .ref b0_10, .int x0_tolds, .ref a3, .ref b0_13, .ref a4])), (a1, .inl (cI, 41, .inl f1)), (a2, .inl (cI, 246, .inl o3)), (a3, .inl (cI, 10, .inl f3)), (a4, .inl (cI, 20, .inl f4))]) (st := []) X (c_X5_saves l D cI cS cL a0 a1 a2 b0_1 b0_4 b0_10 a3 b0_13 a4 x0_kept x0_typed 0 x0_at x0_isFault x0_value x0_tolds f1 f2 o2 o3 hc) gX5_date_X5_saves rfl ⟨rfl, rfl⟩ hd_X5_saves ⟨Nat.le_of_ble_eq_true rfl, Nat.le_of_ble_eq_true rfl⟩ ⟨Nat.zero_le _, Nat.zero_le _⟩ rfl rfl rfl rfl rfl rfl rfl (Nat.le_of_ble_eq_true rfl) rfl dX5_date_6 ?_
  refine g_aload_n X (j := 0) dX5_date_9 rfl ?_
  refine g_aload_n X (j := 0) dX5_date_10 rfl ?_
  refine g_get (q0 := 0) (k := 0) (ci := 5) X in_X5_date_X5 fl_X5_date_7 rfl rfl (Nat.le_of_ble_eq_true rfl) rfl dX5_date_11 ?_
  obtain ⟨o5, o6, hc, h⟩ := bd2 h
  refine g_callV (q0 := 0) (ci := 5) (is := [0, 3, 4, 1]) (As := [.ref a1]) (ws' := [(a0, .inr (5, [.ref a1, .ref b0_1, .ref a2, .int o2, .ref b0_4, .int x0_typed, .int 0, .int x0_at, .int x0_isFault, .int x0_value, .ref b0_10, .int x0_tolds, .ref a3, .ref b0_13, .ref a4])), (a1, .inl (cI, 41, .inl f1)), (a2, .inl (cI, 246, .inl o3)), (a3, .inl (cI, 10, .inl o5)), (a4, .inl (cI, 20, .inl o6))]) (st := []) X (c_X5_dates l D cI cS cL a0 a3 a4 a1 a1 b0_1 a2 b0_4 b0_10 b0_13 o2 x0_typed 0 x0_at x0_isFault x0_value x0_tolds f3 f4 41 f1 o5 o6 hc) gX5_date_X5_dates rfl ⟨rfl, rfl⟩ hd_X5_dates ⟨Nat.le_of_ble_eq_true rfl, Nat.le_of_ble_eq_true rfl⟩ ⟨Nat.zero_le _, Nat.zero_le _⟩ rfl rfl rfl rfl rfl rfl rfl (Nat.le_of_ble_eq_true rfl) rfl dX5_date_14 ?_
  refine g_iconst (v := 0) X dX5_date_17 (by decide) ?_
  refine g_istore_n (lv' := [(1, .int 0), (0, .ref a0)]) X dX5_date_18 rfl (by decide) rfl ?_
  refine g_iconst (v := 0) X dX5_date_19 (by decide) ?_
  refine g_istore_n (lv' := [(2, .int 0), (1, .int 0), (0, .ref a0)]) X dX5_date_20 rfl (by decide) rfl ?_
  refine g_lv (lv' := [(0, .ref a0), (1, .int 0), (2, .int 0)]) [2, 1, 0] rfl ?_
  refine wl_g1 h (u3 fun l1_7 l2_8 w9 => [(a0, .inr (5, [.ref a1, .ref b0_1, .ref a2, .int o2, .ref b0_4, .int x0_typed, .int 0, .int x0_at, .int x0_isFault, .int x0_value, .ref b0_10, .int x0_tolds, .ref a3, .ref b0_13, .ref a4])), (a1, .inl (cI, 41, .inl w9)), (a2, .inl (cI, 246, .inl o3)), (a3, .inl (cI, 10, .inl o5)), (a4, .inl (cI, 20, .inl o6))]) (u3 fun l1_7 l2_8 w9 => [(0, .ref a0), (1, .int l1_7), (2, .int l2_8)]) rfl rfl (u2 fun l1_10 w11 => [(a0, .inr (5, [.ref a1, .ref b0_1, .ref a2, .int o2, .ref b0_4, .int x0_typed, .int 0, .int x0_at, .int x0_isFault, .int x0_value, .ref b0_10, .int x0_tolds, .ref a3, .ref b0_13, .ref a4])), (a1, .inl (cI, 41, .inl w11)), (a2, .inl (cI, 246, .inl o3)), (a3, .inl (cI, 10, .inl o5)), (a4, .inl (cI, 20, .inl o6))]) (u2 fun l1_10 w11 => [(1, .int l1_10)]) 80 ?_ ?_
  · rintro ⟨l1_10, w11⟩ h
    dsimp only [u2] at h ⊢
    refine g_iload_n X (j := 0) dX5_date_80 rfl ?_
    have h := Option.some.inj h
    simp only [Prod.mk.injEq] at h
    obtain ⟨rfl, rfl, rfl, rfl, rfl, rfl, rfl⟩ := h
    exact g_iret X hr hlk dX5_date_81 rfl rfl
  · rintro ⟨l1_7, l2_8, w9⟩ o h hI hE
    dsimp only [u3] at h ⊢
    refine g_iload_n X (j := 2) dX5_date_21 rfl ?_
    refine g_aload_n X (j := 0) dX5_date_22 rfl ?_
    refine g_get (q0 := 0) (k := 0) (ci := 5) X in_X5_date_X5 fl_X5_date_7 rfl rfl (Nat.le_of_ble_eq_true rfl) rfl dX5_date_23 ?_
    refine g_bipush (v := 40) X dX5_date_26 (by decide) ?_
    refine g_iald (q0 := 1) (t0 := 0) X h rfl rfl dX5_date_28 (fun v12 h => ?_)
    refine g_icmp_ge (tgt := 80) X h dX5_date_29 (by decide) (fun h => ?_) (fun h => ?_)
    · refine g_lv (lv' := [(1, .int l1_7)]) [1] rfl ?_
      exact hE (l1_7, w9) (Option.some.inj h).symm
    · refine g_aload_n X (j := 0) dX5_date_32 rfl ?_
      refine g_get (q0 := 0) (k := 0) (ci := 5) X in_X5_date_X5 fl_X5_date_7 rfl rfl (Nat.le_of_ble_eq_true rfl) rfl dX5_date_33 ?_
      refine g_iload_n X (j := 2) dX5_date_36 rfl ?_
      refine g_iconst (v := 3) X dX5_date_37 (by decide) ?_
      obtain ⟨r13, hc, h⟩ := bd1 h
      refine g_callS (is := [1]) (As := [.ref a1, .int l2_8, .int 3]) (ws' := [(a0, .inr (5, [.ref a1, .ref b0_1, .ref a2, .int o2, .ref b0_4, .int x0_typed, .int 0, .int x0_at, .int x0_isFault, .int x0_value, .ref b0_10, .int x0_tolds, .ref a3, .ref b0_13, .ref a4])), (a1, .inl (cI, 41, .inl w9)), (a2, .inl (cI, 246, .inl o3)), (a3, .inl (cI, 10, .inl o5)), (a4, .inl (cI, 20, .inl o6))]) (st := []) X (c_X5_of l D cI cS cL a1 l2_8 3 41 w9 r13 hc) gX5_date_X5_of rfl ⟨rfl, rfl⟩ hd_X5_of.2 ⟨Nat.le_of_ble_eq_true rfl, Nat.le_of_ble_eq_true rfl⟩ ⟨Nat.zero_le _, Nat.zero_le _⟩ rfl rfl rfl rfl rfl (Nat.le_of_ble_eq_true rfl) rfl dX5_date_38 ?_
      refine g_iconst (v := (-1)) X dX5_date_41 (by decide) ?_
      refine jn_g h (u2 fun l1_14 w15 => [(a0, .inr (5, [.ref a1, .ref b0_1, .ref a2, .int o2, .ref b0_4, .int x0_typed, .int 0, .int x0_at, .int x0_isFault, .int x0_value, .ref b0_10, .int x0_tolds, .ref a3, .ref b0_13, .ref a4])), (a1, .inl (cI, 41, .inl w15)), (a2, .inl (cI, 246, .inl o3)), (a3, .inl (cI, 10, .inl o5)), (a4, .inl (cI, 20, .inl o6))]) (u2 fun l1_14 w15 => [(0, .ref a0), (1, .int l1_14), (2, .int l2_8)]) (u2 fun l1_14 w15 => []) 74 ?_ ?_
      · rintro ⟨l1_14, w15⟩ h
        dsimp only [u2] at h ⊢
        refine g_iinc (j := 2) (lv' := [(2, .int (l2_8 + 1)), (0, .ref a0), (1, .int l1_14)]) X (l2_8 + 1) dX5_date_74 rfl rfl (by decide) rfl ?_
        refine g_goto (tgt := 21) X dX5_date_77 (by decide) ?_
        refine g_lv (lv' := [(0, .ref a0), (1, .int l1_14), (2, .int (l2_8 + 1))]) [1, 2, 0] rfl ?_
        exact hI (l1_14, (l2_8 + 1), w15) (Option.some.inj h).symm
      · intro K16 hK16 h
        refine g_icmp_ne (tgt := 74) X h dX5_date_42 (by decide) (fun h => ?_) (fun h => ?_)
        · exact hK16 (l1_7, w9) h
        · refine g_aload_n X (j := 0) dX5_date_45 rfl ?_
          refine g_iload_n X (j := 2) dX5_date_46 rfl ?_
          obtain ⟨r17, hc, h⟩ := bd1 h
          refine g_callV (q0 := 0) (ci := 5) (is := [0, 4]) (As := [.int l2_8]) (ws' := [(a0, .inr (5, [.ref a1, .ref b0_1, .ref a2, .int o2, .ref b0_4, .int x0_typed, .int 0, .int x0_at, .int x0_isFault, .int x0_value, .ref b0_10, .int x0_tolds, .ref a3, .ref b0_13, .ref a4])), (a1, .inl (cI, 41, .inl w9)), (a2, .inl (cI, 246, .inl o3)), (a3, .inl (cI, 10, .inl o5)), (a4, .inl (cI, 20, .inl o6))]) (st := []) X (c_X5_isDated l D cI cS cL a0 a4 a1 b0_1 a2 b0_4 b0_10 a3 b0_13 l2_8 o2 x0_typed 0 x0_at x0_isFault x0_value x0_tolds o6 r17 hc) gX5_date_X5_isDated rfl ⟨rfl, rfl⟩ hd_X5_isDated ⟨Nat.le_of_ble_eq_true rfl, Nat.le_of_ble_eq_true rfl⟩ ⟨Nat.zero_le _, Nat.zero_le _⟩ rfl rfl rfl rfl rfl rfl rfl (Nat.le_of_ble_eq_true rfl) rfl dX5_date_47 ?_
          refine g_if_eq (tgt := 74) X h dX5_date_50 (by decide) (fun h => ?_) (fun h => ?_)
          · exact hK16 (l1_7, w9) h
          · refine g_aload_n X (j := 0) dX5_date_53 rfl ?_
            refine g_get (q0 := 0) (k := 0) (ci := 5) X in_X5_date_X5 fl_X5_date_7 rfl rfl (Nat.le_of_ble_eq_true rfl) rfl dX5_date_54 ?_
            refine g_iconst (v := 4) X dX5_date_57 (by decide) ?_
            refine g_iload_n X (j := 2) dX5_date_58 rfl ?_
            refine g_imul X dX5_date_59 ?_
            refine g_iconst (v := 3) X dX5_date_60 (by decide) ?_
            refine g_iadd X dX5_date_61 ?_
            refine g_aload_n X (j := 0) dX5_date_62 rfl ?_
            refine g_get (q0 := 0) (k := 14) (ci := 5) X in_X5_date_X5 fl_X5_date_31 rfl rfl (Nat.le_of_ble_eq_true rfl) rfl dX5_date_63 ?_
            refine g_iconst (v := 2) X dX5_date_66 (by decide) ?_
            refine g_iload_n X (j := 2) dX5_date_67 rfl ?_
            refine g_imul X dX5_date_68 ?_
            refine g_iald (q0 := 4) (t0 := 0) X h rfl rfl dX5_date_69 (fun v18 h => ?_)
            refine g_iast (q0 := 1) (t0 := 0) (ws1 := fun g19 => [(a0, .inr (5, [.ref a1, .ref b0_1, .ref a2, .int o2, .ref b0_4, .int x0_typed, .int 0, .int x0_at, .int x0_isFault, .int x0_value, .ref b0_10, .int x0_tolds, .ref a3, .ref b0_13, .ref a4])), (a1, .inl (cI, 41, .inl g19)), (a2, .inl (cI, 246, .inl o3)), (a3, .inl (cI, 10, .inl o5)), (a4, .inl (cI, 20, .inl o6))]) X h rfl rfl dX5_date_70 (fun _ => rfl) (fun g19 h => ?_)
            refine g_iinc (j := 1) (lv' := [(1, .int (l1_7 + 1)), (0, .ref a0), (2, .int l2_8)]) X (l1_7 + 1) dX5_date_71 rfl rfl (by decide) rfl ?_
            refine g_lv (lv' := [(0, .ref a0), (1, .int (l1_7 + 1)), (2, .int l2_8)]) [1, 0, 2] rfl ?_
            exact hK16 ((l1_7 + 1), g19) h
def f_X5_append (p1 : Int32) (x0_typed : Int32) (x0_thrown : Int32) (f1 : Nat → Int32) : Option (Int32 × Int32 × Int32 × (Nat → Int32)) := (f_X5_in p1 33 126).bind (u1 fun (r1 : Int32) => (if r1 = 0 then (f_X5_fails 1 0).bind (u2 fun (r5 : Int32) (o6 : Int32) => some (r5, x0_typed, o6, f1)) else (if x0_typed = 60 then (f_X5_fails 2 0).bind (u2 fun (r3 : Int32) (o4 : Int32) => some (r3, x0_typed, o4, f1)) else (wrA f1 60 x0_typed p1).bind (fun g2 => some ((x0_typed + 1), (x0_typed + 1), 0, g2)))))
theorem in_X5_append_X5 : ∀ w ∈ wsX50, w ∈ wsX5_append := by decide +kernel
theorem fl_X5_append_38 : Cond.fieldLink RX5 38 "ColophonHuntModel" "thrown" "I" ∈ wsX5_append := by decide +kernel
theorem fl_X5_append_105 : Cond.fieldLink RX5 105 "ColophonHuntModel" "typed" "I" ∈ wsX5_append := by decide +kernel
theorem fl_X5_append_19 : Cond.fieldLink RX5 19 "ColophonHuntModel" "text" "[I" ∈ wsX5_append := by decide +kernel
theorem hd_X5_append : yX5_append.cls = RX5 ∧ yX5_append.cls ≠ "java/lang/invoke/MethodHandle" ∧ yX5_append.cls ≠ "java/lang/invoke/VarHandle" ∧ (parseMethodDescriptor yX5_append.desc).map (fun d => d.parameters.length) = some 1 := by decide +kernel
set_option maxRecDepth 100000 in
set_option maxHeartbeats 4000000 in
theorem c_X5_append (l : Launch) (D : va_G) (cI cS cL : ClassId) (a0 : Nat) (a1 : Nat) (b0_0 : Nat) (b0_1 : Nat) (b0_2 : Nat) (b0_10 : Nat) (b0_12 : Nat) (b0_13 : Nat) (b0_14 : Nat) (p1 : Int32) (x0_kept : Int32) (x0_typed : Int32) (x0_thrown : Int32) (x0_at : Int32) (x0_isFault : Int32) (x0_value : Int32) (x0_tolds : Int32) (f1 : Nat → Int32) (rr : Int32) (y0 : Int32) (y1 : Int32) (y2 : Nat → Int32) (hc : f_X5_append p1 x0_typed x0_thrown f1 = some (rr, y0, y1, y2)) : KM l yX5_append wsX5_append { frames := 1, cells := 0, slots := 0, locals := 22 } D (tyS cI cS cL) [.ref a0, .int p1] [(a0, .inr (5, [.ref b0_0, .ref b0_1, .ref b0_2, .int x0_kept, .ref a1, .int x0_typed, .int x0_thrown, .int x0_at, .int x0_isFault, .int x0_value, .ref b0_10, .int x0_tolds, .ref b0_12, .ref b0_13, .ref b0_14])), (a1, .inl (cI, 60, .inl f1))] (some (.int rr)) (fun w => w = [(a0, .inr (5, [.ref b0_0, .ref b0_1, .ref b0_2, .int x0_kept, .ref a1, .int y0, .int y1, .int x0_at, .int x0_isFault, .int x0_value, .ref b0_10, .int x0_tolds, .ref b0_12, .ref b0_13, .ref b0_14])), (a1, .inl (cI, 60, .inl y2))]) 0 0 := by
  refine g_entry (cc := cX5_append) (nL := 2) (rt := (some .int)) (by decide) rfl (Nat.le_of_ble_eq_true rfl) ?_
  intro p e s m args below meth c A (X : GC p s m args c cX5_append 2 RX5 wsX5_append D (tyS cI cS cL) A) hr hlk _ _
  have h := hc
  unfold f_X5_append at h
  refine g_lv (lv' := [(0, .ref a0), (1, .int p1)]) [0, 1] rfl ?_
  refine g_aload_n X (j := 0) dX5_append_0 rfl ?_
  refine g_iconst (v := 0) X dX5_append_1 (by decide) ?_
  refine g_put (q0 := 0) (k := 6) (ci := 5) (ws' := [(a0, .inr (5, [.ref b0_0, .ref b0_1, .ref b0_2, .int x0_kept, .ref a1, .int x0_typed, .int 0, .int x0_at, .int x0_isFault, .int x0_value, .ref b0_10, .int x0_tolds, .ref b0_12, .ref b0_13, .ref b0_14])), (a1, .inl (cI, 60, .inl f1))]) X tyX5_ok nmX5 in_X5_append_X5 fl_X5_append_38 rfl rfl (Nat.le_of_ble_eq_true rfl) rfl rfl rfl (Nat.le_of_ble_eq_true rfl) dX5_append_2 rfl ?_
  refine g_iload_n X (j := 1) dX5_append_5 rfl ?_
  refine g_bipush (v := 33) X dX5_append_6 (by decide) ?_
  refine g_bipush (v := 126) X dX5_append_8 (by decide) ?_
  obtain ⟨r1, hc, h⟩ := bd1 h
  refine g_callS (is := []) (As := [.int p1, .int 33, .int 126]) (ws' := [(a0, .inr (5, [.ref b0_0, .ref b0_1, .ref b0_2, .int x0_kept, .ref a1, .int x0_typed, .int 0, .int x0_at, .int x0_isFault, .int x0_value, .ref b0_10, .int x0_tolds, .ref b0_12, .ref b0_13, .ref b0_14])), (a1, .inl (cI, 60, .inl f1))]) (st := []) X (c_X5_in l D cI cS cL p1 33 126 r1 hc) gX5_append_X5_in rfl ⟨rfl, rfl⟩ hd_X5_in.2 ⟨Nat.le_of_ble_eq_true rfl, Nat.le_of_ble_eq_true rfl⟩ ⟨Nat.zero_le _, Nat.zero_le _⟩ rfl rfl rfl rfl rfl (Nat.le_of_ble_eq_true rfl) rfl dX5_append_10 ?_
  refine g_if_ne (tgt := 22) X h dX5_append_13 (by decide) (fun h => ?_) (fun h => ?_)
  · refine g_aload_n X (j := 0) dX5_append_22 rfl ?_
    refine g_get (q0 := 0) (k := 5) (ci := 5) X in_X5_append_X5 fl_X5_append_105 rfl rfl (Nat.le_of_ble_eq_true rfl) rfl dX5_append_23 ?_
    refine g_bipush (v := 60) X dX5_append_26 (by decide) ?_
    refine g_icmp_ne (tgt := 37) X h dX5_append_28 (by decide) (fun h => ?_) (fun h => ?_)
    · refine g_aload_n X (j := 0) dX5_append_37 rfl ?_
      refine g_get (q0 := 0) (k := 4) (ci := 5) X in_X5_append_X5 fl_X5_append_19 rfl rfl (Nat.le_of_ble_eq_true rfl) rfl dX5_append_38 ?_
      refine g_aload_n X (j := 0) dX5_append_41 rfl ?_
      refine g_get (q0 := 0) (k := 5) (ci := 5) X in_X5_append_X5 fl_X5_append_105 rfl rfl (Nat.le_of_ble_eq_true rfl) rfl dX5_append_42 ?_
      refine g_iload_n X (j := 1) dX5_append_45 rfl ?_
      refine g_iast (q0 := 1) (t0 := 0) (ws1 := fun g2 => [(a0, .inr (5, [.ref b0_0, .ref b0_1, .ref b0_2, .int x0_kept, .ref a1, .int x0_typed, .int 0, .int x0_at, .int x0_isFault, .int x0_value, .ref b0_10, .int x0_tolds, .ref b0_12, .ref b0_13, .ref b0_14])), (a1, .inl (cI, 60, .inl g2))]) X h rfl rfl dX5_append_46 (fun _ => rfl) (fun g2 h => ?_)
      refine g_aload_n X (j := 0) dX5_append_47 rfl ?_
      refine g_dup X dX5_append_48 rfl ?_
      refine g_get (q0 := 0) (k := 5) (ci := 5) X in_X5_append_X5 fl_X5_append_105 rfl rfl (Nat.le_of_ble_eq_true rfl) rfl dX5_append_49 ?_
      refine g_iconst (v := 1) X dX5_append_52 (by decide) ?_
      refine g_iadd X dX5_append_53 ?_
      refine g_put (q0 := 0) (k := 5) (ci := 5) (ws' := [(a0, .inr (5, [.ref b0_0, .ref b0_1, .ref b0_2, .int x0_kept, .ref a1, .int (x0_typed + 1), .int 0, .int x0_at, .int x0_isFault, .int x0_value, .ref b0_10, .int x0_tolds, .ref b0_12, .ref b0_13, .ref b0_14])), (a1, .inl (cI, 60, .inl g2))]) X tyX5_ok nmX5 in_X5_append_X5 fl_X5_append_105 rfl rfl (Nat.le_of_ble_eq_true rfl) rfl rfl rfl (Nat.le_of_ble_eq_true rfl) dX5_append_54 rfl ?_
      refine g_aload_n X (j := 0) dX5_append_57 rfl ?_
      refine g_get (q0 := 0) (k := 5) (ci := 5) X in_X5_append_X5 fl_X5_append_105 rfl rfl (Nat.le_of_ble_eq_true rfl) rfl dX5_append_58 ?_
      have h := Option.some.inj h
      simp only [Prod.mk.injEq] at h
      obtain ⟨rfl, rfl, rfl, rfl⟩ := h
      exact g_iret X hr hlk dX5_append_61 rfl rfl
    · refine g_aload_n X (j := 0) dX5_append_31 rfl ?_
      refine g_iconst (v := 2) X dX5_append_32 (by decide) ?_
      obtain ⟨r3, o4, hc, h⟩ := bd2 h
      refine g_callV (q0 := 0) (ci := 5) (is := [0]) (As := [.int 2]) (ws' := [(a0, .inr (5, [.ref b0_0, .ref b0_1, .ref b0_2, .int x0_kept, .ref a1, .int x0_typed, .int o4, .int x0_at, .int x0_isFault, .int x0_value, .ref b0_10, .int x0_tolds, .ref b0_12, .ref b0_13, .ref b0_14])), (a1, .inl (cI, 60, .inl f1))]) (st := []) X (c_X5_fails l D cI cS cL a0 b0_0 b0_1 b0_2 a1 b0_10 b0_12 b0_13 b0_14 2 x0_kept x0_typed 0 x0_at x0_isFault x0_value x0_tolds r3 o4 hc) gX5_append_X5_fails rfl ⟨rfl, rfl⟩ hd_X5_fails ⟨Nat.le_of_ble_eq_true rfl, Nat.le_of_ble_eq_true rfl⟩ ⟨Nat.zero_le _, Nat.zero_le _⟩ rfl rfl rfl rfl rfl rfl rfl (Nat.le_of_ble_eq_true rfl) rfl dX5_append_33 ?_
      have h := Option.some.inj h
      simp only [Prod.mk.injEq] at h
      obtain ⟨rfl, rfl, rfl, rfl⟩ := h
      exact g_iret X hr hlk dX5_append_36 rfl rfl
  · refine g_aload_n X (j := 0) dX5_append_16 rfl ?_
    refine g_iconst (v := 1) X dX5_append_17 (by decide) ?_
    obtain ⟨r5, o6, hc, h⟩ := bd2 h
    refine g_callV (q0 := 0) (ci := 5) (is := [0]) (As := [.int 1]) (ws' := [(a0, .inr (5, [.ref b0_0, .ref b0_1, .ref b0_2, .int x0_kept, .ref a1, .int x0_typed, .int o6, .int x0_at, .int x0_isFault, .int x0_value, .ref b0_10, .int x0_tolds, .ref b0_12, .ref b0_13, .ref b0_14])), (a1, .inl (cI, 60, .inl f1))]) (st := []) X (c_X5_fails l D cI cS cL a0 b0_0 b0_1 b0_2 a1 b0_10 b0_12 b0_13 b0_14 1 x0_kept x0_typed 0 x0_at x0_isFault x0_value x0_tolds r5 o6 hc) gX5_append_X5_fails rfl ⟨rfl, rfl⟩ hd_X5_fails ⟨Nat.le_of_ble_eq_true rfl, Nat.le_of_ble_eq_true rfl⟩ ⟨Nat.zero_le _, Nat.zero_le _⟩ rfl rfl rfl rfl rfl rfl rfl (Nat.le_of_ble_eq_true rfl) rfl dX5_append_18 ?_
    have h := Option.some.inj h
    simp only [Prod.mk.injEq] at h
    obtain ⟨rfl, rfl, rfl, rfl⟩ := h
    exact g_iret X hr hlk dX5_append_21 rfl rfl
def f_X5_clearBuffer (x0_typed : Int32) (x0_thrown : Int32) : Option (Int32 × Int32 × Int32) := some (x0_typed, 0, 0)
theorem in_X5_clearBuffer_X5 : ∀ w ∈ wsX50, w ∈ wsX5_clearBuffer := by decide +kernel
theorem fl_X5_clearBuffer_38 : Cond.fieldLink RX5 38 "ColophonHuntModel" "thrown" "I" ∈ wsX5_clearBuffer := by decide +kernel
theorem fl_X5_clearBuffer_105 : Cond.fieldLink RX5 105 "ColophonHuntModel" "typed" "I" ∈ wsX5_clearBuffer := by decide +kernel
theorem hd_X5_clearBuffer : yX5_clearBuffer.cls = RX5 ∧ yX5_clearBuffer.cls ≠ "java/lang/invoke/MethodHandle" ∧ yX5_clearBuffer.cls ≠ "java/lang/invoke/VarHandle" ∧ (parseMethodDescriptor yX5_clearBuffer.desc).map (fun d => d.parameters.length) = some 0 := by decide +kernel
set_option maxRecDepth 100000 in
set_option maxHeartbeats 4000000 in
theorem c_X5_clearBuffer (l : Launch) (D : va_G) (cI cS cL : ClassId) (a0 : Nat) (b0_0 : Nat) (b0_1 : Nat) (b0_2 : Nat) (b0_4 : Nat) (b0_10 : Nat) (b0_12 : Nat) (b0_13 : Nat) (b0_14 : Nat) (x0_kept : Int32) (x0_typed : Int32) (x0_thrown : Int32) (x0_at : Int32) (x0_isFault : Int32) (x0_value : Int32) (x0_tolds : Int32) (rr : Int32) (y0 : Int32) (y1 : Int32) (hc : f_X5_clearBuffer x0_typed x0_thrown = some (rr, y0, y1)) : KM l yX5_clearBuffer wsX5_clearBuffer { frames := 0, cells := 0, slots := 0, locals := 0 } D (tyS cI cS cL) [.ref a0] [(a0, .inr (5, [.ref b0_0, .ref b0_1, .ref b0_2, .int x0_kept, .ref b0_4, .int x0_typed, .int x0_thrown, .int x0_at, .int x0_isFault, .int x0_value, .ref b0_10, .int x0_tolds, .ref b0_12, .ref b0_13, .ref b0_14]))] (some (.int rr)) (fun w => w = [(a0, .inr (5, [.ref b0_0, .ref b0_1, .ref b0_2, .int x0_kept, .ref b0_4, .int y0, .int y1, .int x0_at, .int x0_isFault, .int x0_value, .ref b0_10, .int x0_tolds, .ref b0_12, .ref b0_13, .ref b0_14]))]) 0 0 := by
  refine g_entry (cc := cX5_clearBuffer) (nL := 2) (rt := (some .int)) (by decide) rfl (Nat.le_of_ble_eq_true rfl) ?_
  intro p e s m args below meth c A (X : GC p s m args c cX5_clearBuffer 2 RX5 wsX5_clearBuffer D (tyS cI cS cL) A) hr hlk _ _
  have h := hc
  unfold f_X5_clearBuffer at h
  refine g_lv (lv' := [(0, .ref a0)]) [0] rfl ?_
  refine g_aload_n X (j := 0) dX5_clearBuffer_0 rfl ?_
  refine g_iconst (v := 0) X dX5_clearBuffer_1 (by decide) ?_
  refine g_put (q0 := 0) (k := 6) (ci := 5) (ws' := [(a0, .inr (5, [.ref b0_0, .ref b0_1, .ref b0_2, .int x0_kept, .ref b0_4, .int x0_typed, .int 0, .int x0_at, .int x0_isFault, .int x0_value, .ref b0_10, .int x0_tolds, .ref b0_12, .ref b0_13, .ref b0_14]))]) X tyX5_ok nmX5 in_X5_clearBuffer_X5 fl_X5_clearBuffer_38 rfl rfl (Nat.le_of_ble_eq_true rfl) rfl rfl rfl (Nat.le_of_ble_eq_true rfl) dX5_clearBuffer_2 rfl ?_
  refine g_aload_n X (j := 0) dX5_clearBuffer_5 rfl ?_
  refine g_get (q0 := 0) (k := 5) (ci := 5) X in_X5_clearBuffer_X5 fl_X5_clearBuffer_105 rfl rfl (Nat.le_of_ble_eq_true rfl) rfl dX5_clearBuffer_6 ?_
  refine g_istore_n (lv' := [(1, .int x0_typed), (0, .ref a0)]) X dX5_clearBuffer_9 rfl (by decide) rfl ?_
  refine g_aload_n X (j := 1) dX5_clearBuffer_10 rfl ?_
  refine g_iconst (v := 0) X dX5_clearBuffer_11 (by decide) ?_
  refine g_put (q0 := 0) (k := 5) (ci := 5) (ws' := [(a0, .inr (5, [.ref b0_0, .ref b0_1, .ref b0_2, .int x0_kept, .ref b0_4, .int 0, .int 0, .int x0_at, .int x0_isFault, .int x0_value, .ref b0_10, .int x0_tolds, .ref b0_12, .ref b0_13, .ref b0_14]))]) X tyX5_ok nmX5 in_X5_clearBuffer_X5 fl_X5_clearBuffer_105 rfl rfl (Nat.le_of_ble_eq_true rfl) rfl rfl rfl (Nat.le_of_ble_eq_true rfl) dX5_clearBuffer_12 rfl ?_
  refine g_iload_n X (j := 0) dX5_clearBuffer_15 rfl ?_
  have h := Option.some.inj h
  simp only [Prod.mk.injEq] at h
  obtain ⟨rfl, rfl, rfl⟩ := h
  exact g_iret X hr hlk dX5_clearBuffer_16 rfl rfl
def f_X5_isAt (p1 : Int32) (p2 : Int32) (x0_typed : Int32) (x0_at : Int32) (f1 : Nat → Int32) : Option (Int32) := (jn (u1 fun (s1 : Int32) => gB s1 (some s1)) (fun K2 => jn (u0 (K2 0)) (fun K3 => (if x0_typed ≤ x0_at then K3 () else (rdA f1 60 x0_at).bind (fun v4 => (f_X5_in v4 p1 p2).bind (u1 fun (r5 : Int32) => (if r5 = 0 then K3 () else K2 1)))))))
theorem in_X5_isAt_X5 : ∀ w ∈ wsX50, w ∈ wsX5_isAt := by decide +kernel
theorem fl_X5_isAt_108 : Cond.fieldLink RX5 108 "ColophonHuntModel" "at" "I" ∈ wsX5_isAt := by decide +kernel
theorem fl_X5_isAt_105 : Cond.fieldLink RX5 105 "ColophonHuntModel" "typed" "I" ∈ wsX5_isAt := by decide +kernel
theorem fl_X5_isAt_19 : Cond.fieldLink RX5 19 "ColophonHuntModel" "text" "[I" ∈ wsX5_isAt := by decide +kernel
theorem hd_X5_isAt : yX5_isAt.cls = RX5 ∧ yX5_isAt.cls ≠ "java/lang/invoke/MethodHandle" ∧ yX5_isAt.cls ≠ "java/lang/invoke/VarHandle" ∧ (parseMethodDescriptor yX5_isAt.desc).map (fun d => d.parameters.length) = some 2 := by decide +kernel
set_option maxRecDepth 100000 in
set_option maxHeartbeats 4000000 in
theorem c_X5_isAt (l : Launch) (D : va_G) (cI cS cL : ClassId) (a0 : Nat) (a1 : Nat) (b0_0 : Nat) (b0_1 : Nat) (b0_2 : Nat) (b0_10 : Nat) (b0_12 : Nat) (b0_13 : Nat) (b0_14 : Nat) (p1 : Int32) (p2 : Int32) (x0_kept : Int32) (x0_typed : Int32) (x0_thrown : Int32) (x0_at : Int32) (x0_isFault : Int32) (x0_value : Int32) (x0_tolds : Int32) (f1 : Nat → Int32) (rr : Int32) (hc : f_X5_isAt p1 p2 x0_typed x0_at f1 = some rr) : KM l yX5_isAt wsX5_isAt { frames := 1, cells := 0, slots := 0, locals := 22 } D (tyS cI cS cL) [.ref a0, .int p1, .int p2] [(a0, .inr (5, [.ref b0_0, .ref b0_1, .ref b0_2, .int x0_kept, .ref a1, .int x0_typed, .int x0_thrown, .int x0_at, .int x0_isFault, .int x0_value, .ref b0_10, .int x0_tolds, .ref b0_12, .ref b0_13, .ref b0_14])), (a1, .inl (cI, 60, .inl f1))] (some (.int rr)) (fun w => w = [(a0, .inr (5, [.ref b0_0, .ref b0_1, .ref b0_2, .int x0_kept, .ref a1, .int x0_typed, .int x0_thrown, .int x0_at, .int x0_isFault, .int x0_value, .ref b0_10, .int x0_tolds, .ref b0_12, .ref b0_13, .ref b0_14])), (a1, .inl (cI, 60, .inl f1))]) 0 0 := by
  refine g_entry (cc := cX5_isAt) (nL := 3) (rt := (some .boolean)) (by decide) rfl (Nat.le_of_ble_eq_true rfl) ?_
  intro p e s m args below meth c A (X : GC p s m args c cX5_isAt 3 RX5 wsX5_isAt D (tyS cI cS cL) A) hr hlk _ _
  have h := hc
  unfold f_X5_isAt at h
  refine g_lv (lv' := [(0, .ref a0), (1, .int p1), (2, .int p2)]) [0, 1, 2] rfl ?_
  refine g_aload_n X (j := 0) dX5_isAt_0 rfl ?_
  refine g_get (q0 := 0) (k := 7) (ci := 5) X in_X5_isAt_X5 fl_X5_isAt_108 rfl rfl (Nat.le_of_ble_eq_true rfl) rfl dX5_isAt_1 ?_
  refine g_aload_n X (j := 0) dX5_isAt_4 rfl ?_
  refine g_get (q0 := 0) (k := 5) (ci := 5) X in_X5_isAt_X5 fl_X5_isAt_105 rfl rfl (Nat.le_of_ble_eq_true rfl) rfl dX5_isAt_5 ?_
  refine jn_g h (u1 fun s1 => [(a0, .inr (5, [.ref b0_0, .ref b0_1, .ref b0_2, .int x0_kept, .ref a1, .int x0_typed, .int x0_thrown, .int x0_at, .int x0_isFault, .int x0_value, .ref b0_10, .int x0_tolds, .ref b0_12, .ref b0_13, .ref b0_14])), (a1, .inl (cI, 60, .inl f1))]) (u1 fun s1 => []) (u1 fun s1 => [.int s1]) 33 ?_ ?_
  · rintro s1 h
    dsimp only [u1] at h ⊢
    obtain ⟨hz, h⟩ := gB_e h
    have h := Option.some.inj h
    subst h
    exact g_zret X hr hlk hz dX5_isAt_33 rfl rfl
  · intro K2 hK2 h
    refine jn_g h (u0 ([(a0, .inr (5, [.ref b0_0, .ref b0_1, .ref b0_2, .int x0_kept, .ref a1, .int x0_typed, .int x0_thrown, .int x0_at, .int x0_isFault, .int x0_value, .ref b0_10, .int x0_tolds, .ref b0_12, .ref b0_13, .ref b0_14])), (a1, .inl (cI, 60, .inl f1))])) (u0 ([])) (u0 ([])) 32 ?_ ?_
    · rintro ⟨⟩ h
      dsimp only [u0] at h ⊢
      refine g_iconst (v := 0) X dX5_isAt_32 (by decide) ?_
      exact hK2 0 h
    · intro K3 hK3 h
      refine g_icmp_ge (tgt := 32) X h dX5_isAt_8 (by decide) (fun h => ?_) (fun h => ?_)
      · refine g_lv (lv' := []) [] rfl ?_
        exact hK3 () h
      · refine g_aload_n X (j := 0) dX5_isAt_11 rfl ?_
        refine g_get (q0 := 0) (k := 4) (ci := 5) X in_X5_isAt_X5 fl_X5_isAt_19 rfl rfl (Nat.le_of_ble_eq_true rfl) rfl dX5_isAt_12 ?_
        refine g_aload_n X (j := 0) dX5_isAt_15 rfl ?_
        refine g_get (q0 := 0) (k := 7) (ci := 5) X in_X5_isAt_X5 fl_X5_isAt_108 rfl rfl (Nat.le_of_ble_eq_true rfl) rfl dX5_isAt_16 ?_
        refine g_iald (q0 := 1) (t0 := 0) X h rfl rfl dX5_isAt_19 (fun v4 h => ?_)
        refine g_iload_n X (j := 1) dX5_isAt_20 rfl ?_
        refine g_iload_n X (j := 2) dX5_isAt_21 rfl ?_
        obtain ⟨r5, hc, h⟩ := bd1 h
        refine g_callS (is := []) (As := [.int v4, .int p1, .int p2]) (ws' := [(a0, .inr (5, [.ref b0_0, .ref b0_1, .ref b0_2, .int x0_kept, .ref a1, .int x0_typed, .int x0_thrown, .int x0_at, .int x0_isFault, .int x0_value, .ref b0_10, .int x0_tolds, .ref b0_12, .ref b0_13, .ref b0_14])), (a1, .inl (cI, 60, .inl f1))]) (st := []) X (c_X5_in l D cI cS cL v4 p1 p2 r5 hc) gX5_isAt_X5_in rfl ⟨rfl, rfl⟩ hd_X5_in.2 ⟨Nat.le_of_ble_eq_true rfl, Nat.le_of_ble_eq_true rfl⟩ ⟨Nat.zero_le _, Nat.zero_le _⟩ rfl rfl rfl rfl rfl (Nat.le_of_ble_eq_true rfl) rfl dX5_isAt_22 ?_
        refine g_if_eq (tgt := 32) X h dX5_isAt_25 (by decide) (fun h => ?_) (fun h => ?_)
        · refine g_lv (lv' := []) [] rfl ?_
          exact hK3 () h
        · refine g_iconst (v := 1) X dX5_isAt_28 (by decide) ?_
          refine g_goto (tgt := 33) X dX5_isAt_29 (by decide) ?_
          refine g_lv (lv' := []) [] rfl ?_
          exact hK2 1 h
def f_X5_stops (x0_typed : Int32) (x0_at : Int32) (x0_isFault : Int32) : Option (Int32 × Int32) := (jn (u1 fun (s1 : Int32) => gB s1 (some (0, s1))) (fun K2 => (if x0_typed ≤ x0_at then K2 0 else K2 1)))
theorem in_X5_stops_X5 : ∀ w ∈ wsX50, w ∈ wsX5_stops := by decide +kernel
theorem fl_X5_stops_108 : Cond.fieldLink RX5 108 "ColophonHuntModel" "at" "I" ∈ wsX5_stops := by decide +kernel
theorem fl_X5_stops_105 : Cond.fieldLink RX5 105 "ColophonHuntModel" "typed" "I" ∈ wsX5_stops := by decide +kernel
theorem fl_X5_stops_111 : Cond.fieldLink RX5 111 "ColophonHuntModel" "isFault" "Z" ∈ wsX5_stops := by decide +kernel
theorem hd_X5_stops : yX5_stops.cls = RX5 ∧ yX5_stops.cls ≠ "java/lang/invoke/MethodHandle" ∧ yX5_stops.cls ≠ "java/lang/invoke/VarHandle" ∧ (parseMethodDescriptor yX5_stops.desc).map (fun d => d.parameters.length) = some 0 := by decide +kernel
set_option maxRecDepth 100000 in
set_option maxHeartbeats 4000000 in
theorem c_X5_stops (l : Launch) (D : va_G) (cI cS cL : ClassId) (a0 : Nat) (b0_0 : Nat) (b0_1 : Nat) (b0_2 : Nat) (b0_4 : Nat) (b0_10 : Nat) (b0_12 : Nat) (b0_13 : Nat) (b0_14 : Nat) (x0_kept : Int32) (x0_typed : Int32) (x0_thrown : Int32) (x0_at : Int32) (x0_isFault : Int32) (x0_value : Int32) (x0_tolds : Int32) (rr : Int32) (y0 : Int32) (hc : f_X5_stops x0_typed x0_at x0_isFault = some (rr, y0)) : KM l yX5_stops wsX5_stops { frames := 0, cells := 0, slots := 0, locals := 0 } D (tyS cI cS cL) [.ref a0] [(a0, .inr (5, [.ref b0_0, .ref b0_1, .ref b0_2, .int x0_kept, .ref b0_4, .int x0_typed, .int x0_thrown, .int x0_at, .int x0_isFault, .int x0_value, .ref b0_10, .int x0_tolds, .ref b0_12, .ref b0_13, .ref b0_14]))] (some (.int rr)) (fun w => w = [(a0, .inr (5, [.ref b0_0, .ref b0_1, .ref b0_2, .int x0_kept, .ref b0_4, .int x0_typed, .int x0_thrown, .int x0_at, .int y0, .int x0_value, .ref b0_10, .int x0_tolds, .ref b0_12, .ref b0_13, .ref b0_14]))]) 0 0 := by
  refine g_entry (cc := cX5_stops) (nL := 1) (rt := (some .boolean)) (by decide) rfl (Nat.le_of_ble_eq_true rfl) ?_
  intro p e s m args below meth c A (X : GC p s m args c cX5_stops 1 RX5 wsX5_stops D (tyS cI cS cL) A) hr hlk _ _
  have h := hc
  unfold f_X5_stops at h
  refine g_lv (lv' := [(0, .ref a0)]) [0] rfl ?_
  refine g_aload_n X (j := 0) dX5_stops_0 rfl ?_
  refine g_aload_n X (j := 0) dX5_stops_1 rfl ?_
  refine g_get (q0 := 0) (k := 7) (ci := 5) X in_X5_stops_X5 fl_X5_stops_108 rfl rfl (Nat.le_of_ble_eq_true rfl) rfl dX5_stops_2 ?_
  refine g_aload_n X (j := 0) dX5_stops_5 rfl ?_
  refine g_get (q0 := 0) (k := 5) (ci := 5) X in_X5_stops_X5 fl_X5_stops_105 rfl rfl (Nat.le_of_ble_eq_true rfl) rfl dX5_stops_6 ?_
  refine jn_g h (u1 fun s1 => [(a0, .inr (5, [.ref b0_0, .ref b0_1, .ref b0_2, .int x0_kept, .ref b0_4, .int x0_typed, .int x0_thrown, .int x0_at, .int x0_isFault, .int x0_value, .ref b0_10, .int x0_tolds, .ref b0_12, .ref b0_13, .ref b0_14]))]) (u1 fun s1 => []) (u1 fun s1 => [.int s1, .ref a0]) 17 ?_ ?_
  · rintro s1 h
    dsimp only [u1] at h ⊢
    obtain ⟨hz, h⟩ := gB_e h
    refine g_put (q0 := 0) (k := 8) (ci := 5) (ws' := [(a0, .inr (5, [.ref b0_0, .ref b0_1, .ref b0_2, .int x0_kept, .ref b0_4, .int x0_typed, .int x0_thrown, .int x0_at, .int s1, .int x0_value, .ref b0_10, .int x0_tolds, .ref b0_12, .ref b0_13, .ref b0_14]))]) X tyX5_ok nmX5 in_X5_stops_X5 fl_X5_stops_111 rfl rfl (Nat.le_of_ble_eq_true rfl) rfl (g_zeroI hz) (g_zeroF hz) (Nat.le_of_ble_eq_true rfl) dX5_stops_17 rfl ?_
    refine g_iconst (v := 0) X dX5_stops_20 (by decide) ?_
    have h := Option.some.inj h
    simp only [Prod.mk.injEq] at h
    obtain ⟨rfl, rfl⟩ := h
    exact g_zret X hr hlk (by decide) dX5_stops_21 rfl rfl
  · intro K2 hK2 h
    refine g_icmp_ge (tgt := 16) X h dX5_stops_9 (by decide) (fun h => ?_) (fun h => ?_)
    · refine g_iconst (v := 0) X dX5_stops_16 (by decide) ?_
      refine g_lv (lv' := []) [] rfl ?_
      exact hK2 0 h
    · refine g_iconst (v := 1) X dX5_stops_12 (by decide) ?_
      refine g_goto (tgt := 17) X dX5_stops_13 (by decide) ?_
      refine g_lv (lv' := []) [] rfl ?_
      exact hK2 1 h
def f_X5_areLetters (p1 : Int32) (x0_typed : Int32) (x0_at : Int32) (x0_isFault : Int32) (f1 : Nat → Int32) (f2 : Nat → Int32) : Option (Int32 × Int32 × Int32 × (Nat → Int32)) := (wrA f2 124 (p1 + 1) 0).bind (fun g1 => (f_X5_isAt 45 45 x0_typed x0_at f1).bind (u1 fun (r2 : Int32) => (if r2 = 0 then (f_X5_isAt 97 108 x0_typed x0_at f1).bind (u1 fun (r3 : Int32) => (if r3 = 0 then (f_X5_stops x0_typed x0_at x0_isFault).bind (u2 fun (r14 : Int32) (o15 : Int32) => gB r14 (some (r14, x0_at, o15, g1))) else (wl (u3 fun (l2_4 : Int32) (w5 : Int32) (w6 : Nat → Int32) => (f_X5_isAt l2_4 108 x0_typed w5 f1).bind (u1 fun (r9 : Int32) => (if r9 = 0 then some (Sum.inr (w5, w6)) else (rdA w6 124 (p1 + 1)).bind (fun v10 => (rdA f1 60 w5).bind (fun v11 => (wrA w6 124 (p1 + 1) (v10 ||| ((1 : Int32) <<< ((v11 - 97) &&& 31)))).bind (fun g12 => (rdA f1 60 w5).bind (fun v13 => some (Sum.inl ((v13 + 1), (w5 + 1), g12))))))))) 9999 (97, x0_at, g1)).bind (u2 fun (w7 : Int32) (w8 : Nat → Int32) => some (1, w7, x0_isFault, w8)))) else some (1, (x0_at + 1), x0_isFault, g1))))
theorem in_X5_areLetters_X5 : ∀ w ∈ wsX50, w ∈ wsX5_areLetters := by decide +kernel
theorem fl_X5_areLetters_22 : Cond.fieldLink RX5 22 "ColophonHuntModel" "told" "[I" ∈ wsX5_areLetters := by decide +kernel
theorem fl_X5_areLetters_19 : Cond.fieldLink RX5 19 "ColophonHuntModel" "text" "[I" ∈ wsX5_areLetters := by decide +kernel
theorem fl_X5_areLetters_108 : Cond.fieldLink RX5 108 "ColophonHuntModel" "at" "I" ∈ wsX5_areLetters := by decide +kernel
theorem hd_X5_areLetters : yX5_areLetters.cls = RX5 ∧ yX5_areLetters.cls ≠ "java/lang/invoke/MethodHandle" ∧ yX5_areLetters.cls ≠ "java/lang/invoke/VarHandle" ∧ (parseMethodDescriptor yX5_areLetters.desc).map (fun d => d.parameters.length) = some 1 := by decide +kernel
set_option maxRecDepth 100000 in
set_option maxHeartbeats 4000000 in
theorem c_X5_areLetters (l : Launch) (D : va_G) (cI cS cL : ClassId) (a0 : Nat) (a1 : Nat) (a2 : Nat) (b0_0 : Nat) (b0_1 : Nat) (b0_2 : Nat) (b0_12 : Nat) (b0_13 : Nat) (b0_14 : Nat) (p1 : Int32) (x0_kept : Int32) (x0_typed : Int32) (x0_thrown : Int32) (x0_at : Int32) (x0_isFault : Int32) (x0_value : Int32) (x0_tolds : Int32) (f1 : Nat → Int32) (f2 : Nat → Int32) (rr : Int32) (y0 : Int32) (y1 : Int32) (y2 : Nat → Int32) (hc : f_X5_areLetters p1 x0_typed x0_at x0_isFault f1 f2 = some (rr, y0, y1, y2)) : KM l yX5_areLetters wsX5_areLetters { frames := 2, cells := 0, slots := 0, locals := 44 } D (tyS cI cS cL) [.ref a0, .int p1] [(a0, .inr (5, [.ref b0_0, .ref b0_1, .ref b0_2, .int x0_kept, .ref a1, .int x0_typed, .int x0_thrown, .int x0_at, .int x0_isFault, .int x0_value, .ref a2, .int x0_tolds, .ref b0_12, .ref b0_13, .ref b0_14])), (a1, .inl (cI, 60, .inl f1)), (a2, .inl (cI, 124, .inl f2))] (some (.int rr)) (fun w => w = [(a0, .inr (5, [.ref b0_0, .ref b0_1, .ref b0_2, .int x0_kept, .ref a1, .int x0_typed, .int x0_thrown, .int y0, .int y1, .int x0_value, .ref a2, .int x0_tolds, .ref b0_12, .ref b0_13, .ref b0_14])), (a1, .inl (cI, 60, .inl f1)), (a2, .inl (cI, 124, .inl y2))]) 0 0 := by
  refine g_entry (cc := cX5_areLetters) (nL := 3) (rt := (some .boolean)) (by decide) rfl (Nat.le_of_ble_eq_true rfl) ?_
  intro p e s m args below meth c A (X : GC p s m args c cX5_areLetters 3 RX5 wsX5_areLetters D (tyS cI cS cL) A) hr hlk _ _
  have h := hc
  unfold f_X5_areLetters at h
  refine g_lv (lv' := [(0, .ref a0), (1, .int p1)]) [0, 1] rfl ?_
  refine g_aload_n X (j := 0) dX5_areLetters_0 rfl ?_
  refine g_get (q0 := 0) (k := 10) (ci := 5) X in_X5_areLetters_X5 fl_X5_areLetters_22 rfl rfl (Nat.le_of_ble_eq_true rfl) rfl dX5_areLetters_1 ?_
  refine g_iload_n X (j := 1) dX5_areLetters_4 rfl ?_
  refine g_iconst (v := 1) X dX5_areLetters_5 (by decide) ?_
  refine g_iadd X dX5_areLetters_6 ?_
  refine g_iconst (v := 0) X dX5_areLetters_7 (by decide) ?_
  refine g_iast (q0 := 2) (t0 := 0) (ws1 := fun g1 => [(a0, .inr (5, [.ref b0_0, .ref b0_1, .ref b0_2, .int x0_kept, .ref a1, .int x0_typed, .int x0_thrown, .int x0_at, .int x0_isFault, .int x0_value, .ref a2, .int x0_tolds, .ref b0_12, .ref b0_13, .ref b0_14])), (a1, .inl (cI, 60, .inl f1)), (a2, .inl (cI, 124, .inl g1))]) X h rfl rfl dX5_areLetters_8 (fun _ => rfl) (fun g1 h => ?_)
  refine g_aload_n X (j := 0) dX5_areLetters_9 rfl ?_
  refine g_bipush (v := 45) X dX5_areLetters_10 (by decide) ?_
  refine g_bipush (v := 45) X dX5_areLetters_12 (by decide) ?_
  obtain ⟨r2, hc, h⟩ := bd1 h
  refine g_callV (q0 := 0) (ci := 5) (is := [0, 1]) (As := [.int 45, .int 45]) (ws' := [(a0, .inr (5, [.ref b0_0, .ref b0_1, .ref b0_2, .int x0_kept, .ref a1, .int x0_typed, .int x0_thrown, .int x0_at, .int x0_isFault, .int x0_value, .ref a2, .int x0_tolds, .ref b0_12, .ref b0_13, .ref b0_14])), (a1, .inl (cI, 60, .inl f1)), (a2, .inl (cI, 124, .inl g1))]) (st := []) X (c_X5_isAt l D cI cS cL a0 a1 b0_0 b0_1 b0_2 a2 b0_12 b0_13 b0_14 45 45 x0_kept x0_typed x0_thrown x0_at x0_isFault x0_value x0_tolds f1 r2 hc) gX5_areLetters_X5_isAt rfl ⟨rfl, rfl⟩ hd_X5_isAt ⟨Nat.le_of_ble_eq_true rfl, Nat.le_of_ble_eq_true rfl⟩ ⟨Nat.zero_le _, Nat.zero_le _⟩ rfl rfl rfl rfl rfl rfl rfl (Nat.le_of_ble_eq_true rfl) rfl dX5_areLetters_14 ?_
  refine g_if_eq (tgt := 32) X h dX5_areLetters_17 (by decide) (fun h => ?_) (fun h => ?_)
  · refine g_aload_n X (j := 0) dX5_areLetters_32 rfl ?_
    refine g_bipush (v := 97) X dX5_areLetters_33 (by decide) ?_
    refine g_bipush (v := 108) X dX5_areLetters_35 (by decide) ?_
    obtain ⟨r3, hc, h⟩ := bd1 h
    refine g_callV (q0 := 0) (ci := 5) (is := [0, 1]) (As := [.int 97, .int 108]) (ws' := [(a0, .inr (5, [.ref b0_0, .ref b0_1, .ref b0_2, .int x0_kept, .ref a1, .int x0_typed, .int x0_thrown, .int x0_at, .int x0_isFault, .int x0_value, .ref a2, .int x0_tolds, .ref b0_12, .ref b0_13, .ref b0_14])), (a1, .inl (cI, 60, .inl f1)), (a2, .inl (cI, 124, .inl g1))]) (st := []) X (c_X5_isAt l D cI cS cL a0 a1 b0_0 b0_1 b0_2 a2 b0_12 b0_13 b0_14 97 108 x0_kept x0_typed x0_thrown x0_at x0_isFault x0_value x0_tolds f1 r3 hc) gX5_areLetters_X5_isAt rfl ⟨rfl, rfl⟩ hd_X5_isAt ⟨Nat.le_of_ble_eq_true rfl, Nat.le_of_ble_eq_true rfl⟩ ⟨Nat.zero_le _, Nat.zero_le _⟩ rfl rfl rfl rfl rfl rfl rfl (Nat.le_of_ble_eq_true rfl) rfl dX5_areLetters_37 ?_
    refine g_if_ne (tgt := 48) X h dX5_areLetters_40 (by decide) (fun h => ?_) (fun h => ?_)
    · refine g_bipush (v := 97) X dX5_areLetters_48 (by decide) ?_
      refine g_istore_n (lv' := [(2, .int 97), (0, .ref a0), (1, .int p1)]) X dX5_areLetters_50 rfl (by decide) rfl ?_
      refine g_lv (lv' := [(0, .ref a0), (1, .int p1), (2, .int 97)]) [1, 2, 0] rfl ?_
      refine wl_g1 h (u3 fun l2_4 w5 w6 => [(a0, .inr (5, [.ref b0_0, .ref b0_1, .ref b0_2, .int x0_kept, .ref a1, .int x0_typed, .int x0_thrown, .int w5, .int x0_isFault, .int x0_value, .ref a2, .int x0_tolds, .ref b0_12, .ref b0_13, .ref b0_14])), (a1, .inl (cI, 60, .inl f1)), (a2, .inl (cI, 124, .inl w6))]) (u3 fun l2_4 w5 w6 => [(0, .ref a0), (1, .int p1), (2, .int l2_4)]) rfl rfl (u2 fun w7 w8 => [(a0, .inr (5, [.ref b0_0, .ref b0_1, .ref b0_2, .int x0_kept, .ref a1, .int x0_typed, .int x0_thrown, .int w7, .int x0_isFault, .int x0_value, .ref a2, .int x0_tolds, .ref b0_12, .ref b0_13, .ref b0_14])), (a1, .inl (cI, 60, .inl f1)), (a2, .inl (cI, 124, .inl w8))]) (u2 fun w7 w8 => []) 111 ?_ ?_
      · rintro ⟨w7, w8⟩ h
        dsimp only [u2] at h ⊢
        refine g_iconst (v := 1) X dX5_areLetters_111 (by decide) ?_
        have h := Option.some.inj h
        simp only [Prod.mk.injEq] at h
        obtain ⟨rfl, rfl, rfl, rfl⟩ := h
        exact g_zret X hr hlk (by decide) dX5_areLetters_112 rfl rfl
      · rintro ⟨l2_4, w5, w6⟩ o h hI hE
        dsimp only [u3] at h ⊢
        refine g_aload_n X (j := 0) dX5_areLetters_51 rfl ?_
        refine g_iload_n X (j := 2) dX5_areLetters_52 rfl ?_
        refine g_bipush (v := 108) X dX5_areLetters_53 (by decide) ?_
        obtain ⟨r9, hc, h⟩ := bd1 h
        refine g_callV (q0 := 0) (ci := 5) (is := [0, 1]) (As := [.int l2_4, .int 108]) (ws' := [(a0, .inr (5, [.ref b0_0, .ref b0_1, .ref b0_2, .int x0_kept, .ref a1, .int x0_typed, .int x0_thrown, .int w5, .int x0_isFault, .int x0_value, .ref a2, .int x0_tolds, .ref b0_12, .ref b0_13, .ref b0_14])), (a1, .inl (cI, 60, .inl f1)), (a2, .inl (cI, 124, .inl w6))]) (st := []) X (c_X5_isAt l D cI cS cL a0 a1 b0_0 b0_1 b0_2 a2 b0_12 b0_13 b0_14 l2_4 108 x0_kept x0_typed x0_thrown w5 x0_isFault x0_value x0_tolds f1 r9 hc) gX5_areLetters_X5_isAt rfl ⟨rfl, rfl⟩ hd_X5_isAt ⟨Nat.le_of_ble_eq_true rfl, Nat.le_of_ble_eq_true rfl⟩ ⟨Nat.zero_le _, Nat.zero_le _⟩ rfl rfl rfl rfl rfl rfl rfl (Nat.le_of_ble_eq_true rfl) rfl dX5_areLetters_55 ?_
        refine g_if_eq (tgt := 111) X h dX5_areLetters_58 (by decide) (fun h => ?_) (fun h => ?_)
        · refine g_lv (lv' := []) [] rfl ?_
          exact hE (w5, w6) (Option.some.inj h).symm
        · refine g_aload_n X (j := 0) dX5_areLetters_61 rfl ?_
          refine g_get (q0 := 0) (k := 10) (ci := 5) X in_X5_areLetters_X5 fl_X5_areLetters_22 rfl rfl (Nat.le_of_ble_eq_true rfl) rfl dX5_areLetters_62 ?_
          refine g_iload_n X (j := 1) dX5_areLetters_65 rfl ?_
          refine g_iconst (v := 1) X dX5_areLetters_66 (by decide) ?_
          refine g_iadd X dX5_areLetters_67 ?_
          refine g_dup2 X dX5_areLetters_68 rfl rfl ?_
          refine g_iald (q0 := 2) (t0 := 0) X h rfl rfl dX5_areLetters_69 (fun v10 h => ?_)
          refine g_iconst (v := 1) X dX5_areLetters_70 (by decide) ?_
          refine g_aload_n X (j := 0) dX5_areLetters_71 rfl ?_
          refine g_get (q0 := 0) (k := 4) (ci := 5) X in_X5_areLetters_X5 fl_X5_areLetters_19 rfl rfl (Nat.le_of_ble_eq_true rfl) rfl dX5_areLetters_72 ?_
          refine g_aload_n X (j := 0) dX5_areLetters_75 rfl ?_
          refine g_get (q0 := 0) (k := 7) (ci := 5) X in_X5_areLetters_X5 fl_X5_areLetters_108 rfl rfl (Nat.le_of_ble_eq_true rfl) rfl dX5_areLetters_76 ?_
          refine g_iald (q0 := 1) (t0 := 0) X h rfl rfl dX5_areLetters_79 (fun v11 h => ?_)
          refine g_bipush (v := 97) X dX5_areLetters_80 (by decide) ?_
          refine g_isub X dX5_areLetters_82 ?_
          refine g_ishl X dX5_areLetters_83 ?_
          refine g_ior X dX5_areLetters_84 ?_
          refine g_iast (q0 := 2) (t0 := 0) (ws1 := fun g12 => [(a0, .inr (5, [.ref b0_0, .ref b0_1, .ref b0_2, .int x0_kept, .ref a1, .int x0_typed, .int x0_thrown, .int w5, .int x0_isFault, .int x0_value, .ref a2, .int x0_tolds, .ref b0_12, .ref b0_13, .ref b0_14])), (a1, .inl (cI, 60, .inl f1)), (a2, .inl (cI, 124, .inl g12))]) X h rfl rfl dX5_areLetters_85 (fun _ => rfl) (fun g12 h => ?_)
          refine g_aload_n X (j := 0) dX5_areLetters_86 rfl ?_
          refine g_get (q0 := 0) (k := 4) (ci := 5) X in_X5_areLetters_X5 fl_X5_areLetters_19 rfl rfl (Nat.le_of_ble_eq_true rfl) rfl dX5_areLetters_87 ?_
          refine g_aload_n X (j := 0) dX5_areLetters_90 rfl ?_
          refine g_get (q0 := 0) (k := 7) (ci := 5) X in_X5_areLetters_X5 fl_X5_areLetters_108 rfl rfl (Nat.le_of_ble_eq_true rfl) rfl dX5_areLetters_91 ?_
          refine g_iald (q0 := 1) (t0 := 0) X h rfl rfl dX5_areLetters_94 (fun v13 h => ?_)
          refine g_iconst (v := 1) X dX5_areLetters_95 (by decide) ?_
          refine g_iadd X dX5_areLetters_96 ?_
          refine g_istore_n (lv' := [(2, .int (v13 + 1)), (0, .ref a0), (1, .int p1)]) X dX5_areLetters_97 rfl (by decide) rfl ?_
          refine g_aload_n X (j := 1) dX5_areLetters_98 rfl ?_
          refine g_dup X dX5_areLetters_99 rfl ?_
          refine g_get (q0 := 0) (k := 7) (ci := 5) X in_X5_areLetters_X5 fl_X5_areLetters_108 rfl rfl (Nat.le_of_ble_eq_true rfl) rfl dX5_areLetters_100 ?_
          refine g_iconst (v := 1) X dX5_areLetters_103 (by decide) ?_
          refine g_iadd X dX5_areLetters_104 ?_
          refine g_put (q0 := 0) (k := 7) (ci := 5) (ws' := [(a0, .inr (5, [.ref b0_0, .ref b0_1, .ref b0_2, .int x0_kept, .ref a1, .int x0_typed, .int x0_thrown, .int (w5 + 1), .int x0_isFault, .int x0_value, .ref a2, .int x0_tolds, .ref b0_12, .ref b0_13, .ref b0_14])), (a1, .inl (cI, 60, .inl f1)), (a2, .inl (cI, 124, .inl g12))]) X tyX5_ok nmX5 in_X5_areLetters_X5 fl_X5_areLetters_108 rfl rfl (Nat.le_of_ble_eq_true rfl) rfl rfl rfl (Nat.le_of_ble_eq_true rfl) dX5_areLetters_105 rfl ?_
          refine g_goto (tgt := 51) X dX5_areLetters_108 (by decide) ?_
          refine g_lv (lv' := [(0, .ref a0), (1, .int p1), (2, .int (v13 + 1))]) [1, 2, 0] rfl ?_
          exact hI ((v13 + 1), (w5 + 1), g12) (Option.some.inj h).symm
    · refine g_aload_n X (j := 0) dX5_areLetters_43 rfl ?_
      obtain ⟨r14, o15, hc, h⟩ := bd2 h
      refine g_callV (q0 := 0) (ci := 5) (is := [0]) (As := []) (ws' := [(a0, .inr (5, [.ref b0_0, .ref b0_1, .ref b0_2, .int x0_kept, .ref a1, .int x0_typed, .int x0_thrown, .int x0_at, .int o15, .int x0_value, .ref a2, .int x0_tolds, .ref b0_12, .ref b0_13, .ref b0_14])), (a1, .inl (cI, 60, .inl f1)), (a2, .inl (cI, 124, .inl g1))]) (st := []) X (c_X5_stops l D cI cS cL a0 b0_0 b0_1 b0_2 a1 a2 b0_12 b0_13 b0_14 x0_kept x0_typed x0_thrown x0_at x0_isFault x0_value x0_tolds r14 o15 hc) gX5_areLetters_X5_stops rfl ⟨rfl, rfl⟩ hd_X5_stops ⟨Nat.le_of_ble_eq_true rfl, Nat.le_of_ble_eq_true rfl⟩ ⟨Nat.zero_le _, Nat.zero_le _⟩ rfl rfl rfl rfl rfl rfl rfl (Nat.le_of_ble_eq_true rfl) rfl dX5_areLetters_44 ?_
      obtain ⟨hz, h⟩ := gB_e h
      have h := Option.some.inj h
      simp only [Prod.mk.injEq] at h
      obtain ⟨rfl, rfl, rfl, rfl⟩ := h
      exact g_zret X hr hlk hz dX5_areLetters_47 rfl rfl
  · refine g_aload_n X (j := 0) dX5_areLetters_20 rfl ?_
    refine g_dup X dX5_areLetters_21 rfl ?_
    refine g_get (q0 := 0) (k := 7) (ci := 5) X in_X5_areLetters_X5 fl_X5_areLetters_108 rfl rfl (Nat.le_of_ble_eq_true rfl) rfl dX5_areLetters_22 ?_
    refine g_iconst (v := 1) X dX5_areLetters_25 (by decide) ?_
    refine g_iadd X dX5_areLetters_26 ?_
    refine g_put (q0 := 0) (k := 7) (ci := 5) (ws' := [(a0, .inr (5, [.ref b0_0, .ref b0_1, .ref b0_2, .int x0_kept, .ref a1, .int x0_typed, .int x0_thrown, .int (x0_at + 1), .int x0_isFault, .int x0_value, .ref a2, .int x0_tolds, .ref b0_12, .ref b0_13, .ref b0_14])), (a1, .inl (cI, 60, .inl f1)), (a2, .inl (cI, 124, .inl g1))]) X tyX5_ok nmX5 in_X5_areLetters_X5 fl_X5_areLetters_108 rfl rfl (Nat.le_of_ble_eq_true rfl) rfl rfl rfl (Nat.le_of_ble_eq_true rfl) dX5_areLetters_27 rfl ?_
    refine g_iconst (v := 1) X dX5_areLetters_30 (by decide) ?_
    have h := Option.some.inj h
    simp only [Prod.mk.injEq] at h
    obtain ⟨rfl, rfl, rfl, rfl⟩ := h
    exact g_zret X hr hlk (by decide) dX5_areLetters_31 rfl rfl
