theorem dX5_thrown_0 : decode cX5_thrown 0 = .ok (.aload_n 0, 1) := by decide +kernel
theorem dX5_thrown_1 : decode cX5_thrown 1 = .ok (.getfield 38, 3) := by decide +kernel
theorem dX5_thrown_4 : decode cX5_thrown 4 = .ok (.ireturn, 1) := by decide +kernel
theorem dX5_fails_0 : decode cX5_fails 0 = .ok (.aload_n 0, 1) := by decide +kernel
theorem dX5_fails_1 : decode cX5_fails 1 = .ok (.iload_n 1, 1) := by decide +kernel
theorem dX5_fails_2 : decode cX5_fails 2 = .ok (.putfield 38, 3) := by decide +kernel
theorem dX5_fails_5 : decode cX5_fails 5 = .ok (.iconst 0, 1) := by decide +kernel
theorem dX5_fails_6 : decode cX5_fails 6 = .ok (.ireturn, 1) := by decide +kernel
theorem dX5_in_0 : decode cX5_in 0 = .ok (.iload_n 0, 1) := by decide +kernel
theorem dX5_in_1 : decode cX5_in 1 = .ok (.iload_n 1, 1) := by decide +kernel
theorem dX5_in_2 : decode cX5_in 2 = .ok (.if_icmp .lt 12, 3) := by decide +kernel
theorem dX5_in_5 : decode cX5_in 5 = .ok (.iload_n 0, 1) := by decide +kernel
theorem dX5_in_6 : decode cX5_in 6 = .ok (.iload_n 2, 1) := by decide +kernel
theorem dX5_in_7 : decode cX5_in 7 = .ok (.if_icmp .gt 7, 3) := by decide +kernel
theorem dX5_in_10 : decode cX5_in 10 = .ok (.iconst 1, 1) := by decide +kernel
theorem dX5_in_11 : decode cX5_in 11 = .ok (.goto 4, 3) := by decide +kernel
theorem dX5_in_14 : decode cX5_in 14 = .ok (.iconst 0, 1) := by decide +kernel
theorem dX5_in_15 : decode cX5_in 15 = .ok (.ireturn, 1) := by decide +kernel
set_option maxRecDepth 20000 in
theorem ggX5_isBook_X5_in : GoodIn wsX5_isBook wsX5_in := goodIn_r _ [5] (by decide +kernel) (by decide +kernel)
set_option maxRecDepth 20000 in
theorem gX5_isBook_X5_in : GoodIn wsX5_isBook (va_wsS RX5 41 yX5_in wsX5_in) := goodIn_app (goodIn_of _ (by decide +kernel)) ggX5_isBook_X5_in
theorem dX5_isBook_0 : decode cX5_isBook 0 = .ok (.iload_n 1, 1) := by decide +kernel
theorem dX5_isBook_1 : decode cX5_isBook 1 = .ok (.iconst 0, 1) := by decide +kernel
theorem dX5_isBook_2 : decode cX5_isBook 2 = .ok (.aload_n 0, 1) := by decide +kernel
theorem dX5_isBook_3 : decode cX5_isBook 3 = .ok (.getfield 7, 3) := by decide +kernel
theorem dX5_isBook_6 : decode cX5_isBook 6 = .ok (.bipush 40, 2) := by decide +kernel
theorem dX5_isBook_8 : decode cX5_isBook 8 = .ok (.iaload, 1) := by decide +kernel
theorem dX5_isBook_9 : decode cX5_isBook 9 = .ok (.iconst 1, 1) := by decide +kernel
theorem dX5_isBook_10 : decode cX5_isBook 10 = .ok (.isub, 1) := by decide +kernel
theorem dX5_isBook_11 : decode cX5_isBook 11 = .ok (.invokestatic 41, 3) := by decide +kernel
theorem dX5_isBook_14 : decode cX5_isBook 14 = .ok (.ireturn, 1) := by decide +kernel
theorem dX5_of_0 : decode cX5_of 0 = .ok (.aload_n 0, 1) := by decide +kernel
theorem dX5_of_1 : decode cX5_of 1 = .ok (.iconst 4, 1) := by decide +kernel
theorem dX5_of_2 : decode cX5_of 2 = .ok (.iload_n 1, 1) := by decide +kernel
theorem dX5_of_3 : decode cX5_of 3 = .ok (.imul, 1) := by decide +kernel
theorem dX5_of_4 : decode cX5_of 4 = .ok (.iload_n 2, 1) := by decide +kernel
theorem dX5_of_5 : decode cX5_of 5 = .ok (.iadd, 1) := by decide +kernel
theorem dX5_of_6 : decode cX5_of 6 = .ok (.iaload, 1) := by decide +kernel
theorem dX5_of_7 : decode cX5_of 7 = .ok (.ireturn, 1) := by decide +kernel
theorem dX5_ones_0 : decode cX5_ones 0 = .ok (.iconst 0, 1) := by decide +kernel
theorem dX5_ones_1 : decode cX5_ones 1 = .ok (.istore_n 1, 1) := by decide +kernel
theorem dX5_ones_2 : decode cX5_ones 2 = .ok (.iload_n 0, 1) := by decide +kernel
theorem dX5_ones_3 : decode cX5_ones 3 = .ok (.istore_n 2, 1) := by decide +kernel
theorem dX5_ones_4 : decode cX5_ones 4 = .ok (.iload_n 2, 1) := by decide +kernel
theorem dX5_ones_5 : decode cX5_ones 5 = .ok (.ifCond .eq 15, 3) := by decide +kernel
theorem dX5_ones_8 : decode cX5_ones 8 = .ok (.iinc 1 1, 3) := by decide +kernel
theorem dX5_ones_11 : decode cX5_ones 11 = .ok (.iload_n 2, 1) := by decide +kernel
theorem dX5_ones_12 : decode cX5_ones 12 = .ok (.iload_n 2, 1) := by decide +kernel
theorem dX5_ones_13 : decode cX5_ones 13 = .ok (.iconst 1, 1) := by decide +kernel
theorem dX5_ones_14 : decode cX5_ones 14 = .ok (.isub, 1) := by decide +kernel
theorem dX5_ones_15 : decode cX5_ones 15 = .ok (.iand, 1) := by decide +kernel
theorem dX5_ones_16 : decode cX5_ones 16 = .ok (.istore_n 2, 1) := by decide +kernel
theorem dX5_ones_17 : decode cX5_ones 17 = .ok (.goto (-13), 3) := by decide +kernel
theorem dX5_ones_20 : decode cX5_ones 20 = .ok (.iload_n 1, 1) := by decide +kernel
theorem dX5_ones_21 : decode cX5_ones 21 = .ok (.ireturn, 1) := by decide +kernel
theorem dX5_copies_0 : decode cX5_copies 0 = .ok (.iconst 0, 1) := by decide +kernel
theorem dX5_copies_1 : decode cX5_copies 1 = .ok (.istore 4, 2) := by decide +kernel
theorem dX5_copies_3 : decode cX5_copies 3 = .ok (.iload 4, 2) := by decide +kernel
theorem dX5_copies_5 : decode cX5_copies 5 = .ok (.bipush 41, 2) := by decide +kernel
theorem dX5_copies_7 : decode cX5_copies 7 = .ok (.if_icmp .ge 21, 3) := by decide +kernel
theorem dX5_copies_10 : decode cX5_copies 10 = .ok (.aload_n 2, 1) := by decide +kernel
theorem dX5_copies_11 : decode cX5_copies 11 = .ok (.iload_n 3, 1) := by decide +kernel
theorem dX5_copies_12 : decode cX5_copies 12 = .ok (.iload 4, 2) := by decide +kernel
theorem dX5_copies_14 : decode cX5_copies 14 = .ok (.iadd, 1) := by decide +kernel
theorem dX5_copies_15 : decode cX5_copies 15 = .ok (.aload_n 0, 1) := by decide +kernel
theorem dX5_copies_16 : decode cX5_copies 16 = .ok (.iload_n 1, 1) := by decide +kernel
theorem dX5_copies_17 : decode cX5_copies 17 = .ok (.iload 4, 2) := by decide +kernel
theorem dX5_copies_19 : decode cX5_copies 19 = .ok (.iadd, 1) := by decide +kernel
theorem dX5_copies_20 : decode cX5_copies 20 = .ok (.iaload, 1) := by decide +kernel
theorem dX5_copies_21 : decode cX5_copies 21 = .ok (.iastore, 1) := by decide +kernel
theorem dX5_copies_22 : decode cX5_copies 22 = .ok (.iinc 4 1, 3) := by decide +kernel
theorem dX5_copies_25 : decode cX5_copies 25 = .ok (.goto (-22), 3) := by decide +kernel
theorem dX5_copies_28 : decode cX5_copies 28 = .ok (.return_, 1) := by decide +kernel
set_option maxRecDepth 20000 in
theorem ggX5_saves_X5_copies : GoodIn wsX5_saves wsX5_copies := goodIn_r _ [7] (by decide +kernel) (by decide +kernel)
set_option maxRecDepth 20000 in
theorem gX5_saves_X5_copies : GoodIn wsX5_saves (va_wsS RX5 45 yX5_copies wsX5_copies) := goodIn_app (goodIn_of _ (by decide +kernel)) ggX5_saves_X5_copies
theorem dX5_saves_0 : decode cX5_saves 0 = .ok (.aload_n 0, 1) := by decide +kernel
theorem dX5_saves_1 : decode cX5_saves 1 = .ok (.getfield 34, 3) := by decide +kernel
theorem dX5_saves_4 : decode cX5_saves 4 = .ok (.bipush 6, 2) := by decide +kernel
theorem dX5_saves_6 : decode cX5_saves 6 = .ok (.if_icmp .ne 43, 3) := by decide +kernel
theorem dX5_saves_9 : decode cX5_saves 9 = .ok (.iconst 0, 1) := by decide +kernel
theorem dX5_saves_10 : decode cX5_saves 10 = .ok (.istore_n 1, 1) := by decide +kernel
theorem dX5_saves_11 : decode cX5_saves 11 = .ok (.iload_n 1, 1) := by decide +kernel
theorem dX5_saves_12 : decode cX5_saves 12 = .ok (.sipush 205, 3) := by decide +kernel
theorem dX5_saves_15 : decode cX5_saves 15 = .ok (.if_icmp .ge 24, 3) := by decide +kernel
theorem dX5_saves_18 : decode cX5_saves 18 = .ok (.aload_n 0, 1) := by decide +kernel
theorem dX5_saves_19 : decode cX5_saves 19 = .ok (.getfield 16, 3) := by decide +kernel
theorem dX5_saves_22 : decode cX5_saves 22 = .ok (.iload_n 1, 1) := by decide +kernel
theorem dX5_saves_23 : decode cX5_saves 23 = .ok (.aload_n 0, 1) := by decide +kernel
theorem dX5_saves_24 : decode cX5_saves 24 = .ok (.getfield 16, 3) := by decide +kernel
theorem dX5_saves_27 : decode cX5_saves 27 = .ok (.iload_n 1, 1) := by decide +kernel
theorem dX5_saves_28 : decode cX5_saves 28 = .ok (.bipush 41, 2) := by decide +kernel
theorem dX5_saves_30 : decode cX5_saves 30 = .ok (.iadd, 1) := by decide +kernel
theorem dX5_saves_31 : decode cX5_saves 31 = .ok (.iaload, 1) := by decide +kernel
theorem dX5_saves_32 : decode cX5_saves 32 = .ok (.iastore, 1) := by decide +kernel
theorem dX5_saves_33 : decode cX5_saves 33 = .ok (.iinc 1 1, 3) := by decide +kernel
theorem dX5_saves_36 : decode cX5_saves 36 = .ok (.goto (-25), 3) := by decide +kernel
theorem dX5_saves_39 : decode cX5_saves 39 = .ok (.aload_n 0, 1) := by decide +kernel
theorem dX5_saves_40 : decode cX5_saves 40 = .ok (.dup, 1) := by decide +kernel
theorem dX5_saves_41 : decode cX5_saves 41 = .ok (.getfield 34, 3) := by decide +kernel
theorem dX5_saves_44 : decode cX5_saves 44 = .ok (.iconst 1, 1) := by decide +kernel
theorem dX5_saves_45 : decode cX5_saves 45 = .ok (.isub, 1) := by decide +kernel
theorem dX5_saves_46 : decode cX5_saves 46 = .ok (.putfield 34, 3) := by decide +kernel
theorem dX5_saves_49 : decode cX5_saves 49 = .ok (.aload_n 0, 1) := by decide +kernel
theorem dX5_saves_50 : decode cX5_saves 50 = .ok (.getfield 7, 3) := by decide +kernel
theorem dX5_saves_53 : decode cX5_saves 53 = .ok (.iconst 0, 1) := by decide +kernel
theorem dX5_saves_54 : decode cX5_saves 54 = .ok (.aload_n 0, 1) := by decide +kernel
theorem dX5_saves_55 : decode cX5_saves 55 = .ok (.getfield 16, 3) := by decide +kernel
theorem dX5_saves_58 : decode cX5_saves 58 = .ok (.bipush 41, 2) := by decide +kernel
theorem dX5_saves_60 : decode cX5_saves 60 = .ok (.aload_n 0, 1) := by decide +kernel
theorem dX5_saves_61 : decode cX5_saves 61 = .ok (.getfield 34, 3) := by decide +kernel
theorem dX5_saves_64 : decode cX5_saves 64 = .ok (.imul, 1) := by decide +kernel
theorem dX5_saves_65 : decode cX5_saves 65 = .ok (.invokestatic 45, 3) := by decide +kernel
theorem dX5_saves_68 : decode cX5_saves 68 = .ok (.aload_n 0, 1) := by decide +kernel
theorem dX5_saves_69 : decode cX5_saves 69 = .ok (.dup, 1) := by decide +kernel
theorem dX5_saves_70 : decode cX5_saves 70 = .ok (.getfield 34, 3) := by decide +kernel
theorem dX5_saves_73 : decode cX5_saves 73 = .ok (.iconst 1, 1) := by decide +kernel
theorem dX5_saves_74 : decode cX5_saves 74 = .ok (.iadd, 1) := by decide +kernel
theorem dX5_saves_75 : decode cX5_saves 75 = .ok (.putfield 34, 3) := by decide +kernel
theorem dX5_saves_78 : decode cX5_saves 78 = .ok (.return_, 1) := by decide +kernel
set_option maxRecDepth 20000 in
theorem ggX5_undo_X5_fails : GoodIn wsX5_undo wsX5_fails := goodIn_r _ [9, 1, 13, 14, 15, 16, 17, 18, 19, 20, 21, 22, 23, 24, 25, 26, 27] (by decide +kernel) (by decide +kernel)
set_option maxRecDepth 20000 in
theorem gX5_undo_X5_fails : GoodIn wsX5_undo (wsV RX5 49 RX5 yX5_fails wsX5_fails) := goodIn_app (goodIn_of _ (by decide +kernel)) ggX5_undo_X5_fails
set_option maxRecDepth 20000 in
theorem ggX5_undo_X5_copies : GoodIn wsX5_undo wsX5_copies := goodIn_r _ [12] (by decide +kernel) (by decide +kernel)
set_option maxRecDepth 20000 in
theorem gX5_undo_X5_copies : GoodIn wsX5_undo (va_wsS RX5 45 yX5_copies wsX5_copies) := goodIn_app (goodIn_of _ (by decide +kernel)) ggX5_undo_X5_copies
theorem dX5_undo_0 : decode cX5_undo 0 = .ok (.aload_n 0, 1) := by decide +kernel
theorem dX5_undo_1 : decode cX5_undo 1 = .ok (.iconst 0, 1) := by decide +kernel
theorem dX5_undo_2 : decode cX5_undo 2 = .ok (.putfield 38, 3) := by decide +kernel
theorem dX5_undo_5 : decode cX5_undo 5 = .ok (.aload_n 0, 1) := by decide +kernel
theorem dX5_undo_6 : decode cX5_undo 6 = .ok (.getfield 34, 3) := by decide +kernel
theorem dX5_undo_9 : decode cX5_undo 9 = .ok (.ifCond .ne 9, 3) := by decide +kernel
theorem dX5_undo_12 : decode cX5_undo 12 = .ok (.aload_n 0, 1) := by decide +kernel
theorem dX5_undo_13 : decode cX5_undo 13 = .ok (.iconst 1, 1) := by decide +kernel
theorem dX5_undo_14 : decode cX5_undo 14 = .ok (.invokevirtual 49, 3) := by decide +kernel
theorem dX5_undo_17 : decode cX5_undo 17 = .ok (.ireturn, 1) := by decide +kernel
theorem dX5_undo_18 : decode cX5_undo 18 = .ok (.aload_n 0, 1) := by decide +kernel
theorem dX5_undo_19 : decode cX5_undo 19 = .ok (.dup, 1) := by decide +kernel
theorem dX5_undo_20 : decode cX5_undo 20 = .ok (.getfield 34, 3) := by decide +kernel
theorem dX5_undo_23 : decode cX5_undo 23 = .ok (.iconst 1, 1) := by decide +kernel
theorem dX5_undo_24 : decode cX5_undo 24 = .ok (.isub, 1) := by decide +kernel
theorem dX5_undo_25 : decode cX5_undo 25 = .ok (.putfield 34, 3) := by decide +kernel
theorem dX5_undo_28 : decode cX5_undo 28 = .ok (.aload_n 0, 1) := by decide +kernel
theorem dX5_undo_29 : decode cX5_undo 29 = .ok (.getfield 16, 3) := by decide +kernel
theorem dX5_undo_32 : decode cX5_undo 32 = .ok (.bipush 41, 2) := by decide +kernel
theorem dX5_undo_34 : decode cX5_undo 34 = .ok (.aload_n 0, 1) := by decide +kernel
theorem dX5_undo_35 : decode cX5_undo 35 = .ok (.getfield 34, 3) := by decide +kernel
theorem dX5_undo_38 : decode cX5_undo 38 = .ok (.imul, 1) := by decide +kernel
theorem dX5_undo_39 : decode cX5_undo 39 = .ok (.aload_n 0, 1) := by decide +kernel
theorem dX5_undo_40 : decode cX5_undo 40 = .ok (.getfield 7, 3) := by decide +kernel
theorem dX5_undo_43 : decode cX5_undo 43 = .ok (.iconst 0, 1) := by decide +kernel
theorem dX5_undo_44 : decode cX5_undo 44 = .ok (.invokestatic 45, 3) := by decide +kernel
theorem dX5_undo_47 : decode cX5_undo 47 = .ok (.aload_n 0, 1) := by decide +kernel
theorem dX5_undo_48 : decode cX5_undo 48 = .ok (.getfield 34, 3) := by decide +kernel
theorem dX5_undo_51 : decode cX5_undo 51 = .ok (.ireturn, 1) := by decide +kernel
theorem dX5_isLess_0 : decode cX5_isLess 0 = .ok (.iload_n 0, 1) := by decide +kernel
theorem dX5_isLess_1 : decode cX5_isLess 1 = .ok (.iconst (-1), 1) := by decide +kernel
theorem dX5_isLess_2 : decode cX5_isLess 2 = .ok (.if_icmp .eq 17, 3) := by decide +kernel
theorem dX5_isLess_5 : decode cX5_isLess 5 = .ok (.iload_n 1, 1) := by decide +kernel
theorem dX5_isLess_6 : decode cX5_isLess 6 = .ok (.iconst (-1), 1) := by decide +kernel
theorem dX5_isLess_7 : decode cX5_isLess 7 = .ok (.if_icmp .eq 12, 3) := by decide +kernel
theorem dX5_isLess_10 : decode cX5_isLess 10 = .ok (.iload_n 0, 1) := by decide +kernel
theorem dX5_isLess_11 : decode cX5_isLess 11 = .ok (.iload_n 1, 1) := by decide +kernel
theorem dX5_isLess_12 : decode cX5_isLess 12 = .ok (.if_icmp .ge 7, 3) := by decide +kernel
theorem dX5_isLess_15 : decode cX5_isLess 15 = .ok (.iconst 1, 1) := by decide +kernel
theorem dX5_isLess_16 : decode cX5_isLess 16 = .ok (.goto 4, 3) := by decide +kernel
theorem dX5_isLess_19 : decode cX5_isLess 19 = .ok (.iconst 0, 1) := by decide +kernel
theorem dX5_isLess_20 : decode cX5_isLess 20 = .ok (.ireturn, 1) := by decide +kernel
set_option maxRecDepth 20000 in
theorem ggX5_by_X5_of : GoodIn wsX5_by wsX5_of := goodIn_r _ [4] (by decide +kernel) (by decide +kernel)
set_option maxRecDepth 20000 in
theorem gX5_by_X5_of : GoodIn wsX5_by (va_wsS RX5 53 yX5_of wsX5_of) := goodIn_app (goodIn_of _ (by decide +kernel)) ggX5_by_X5_of
set_option maxRecDepth 20000 in
theorem ggX5_by_X5_isLess : GoodIn wsX5_by wsX5_isLess := goodIn_r _ [7] (by decide +kernel) (by decide +kernel)
set_option maxRecDepth 20000 in
theorem gX5_by_X5_isLess : GoodIn wsX5_by (va_wsS RX5 57 yX5_isLess wsX5_isLess) := goodIn_app (goodIn_of _ (by decide +kernel)) ggX5_by_X5_isLess
theorem dX5_by_0 : decode cX5_by 0 = .ok (.aload_n 0, 1) := by decide +kernel
theorem dX5_by_1 : decode cX5_by 1 = .ok (.iload_n 1, 1) := by decide +kernel
theorem dX5_by_2 : decode cX5_by 2 = .ok (.iconst 3, 1) := by decide +kernel
theorem dX5_by_3 : decode cX5_by 3 = .ok (.invokestatic 53, 3) := by decide +kernel
theorem dX5_by_6 : decode cX5_by 6 = .ok (.aload_n 0, 1) := by decide +kernel
theorem dX5_by_7 : decode cX5_by 7 = .ok (.iload_n 2, 1) := by decide +kernel
theorem dX5_by_8 : decode cX5_by 8 = .ok (.iconst 3, 1) := by decide +kernel
theorem dX5_by_9 : decode cX5_by 9 = .ok (.invokestatic 53, 3) := by decide +kernel
theorem dX5_by_12 : decode cX5_by 12 = .ok (.invokestatic 57, 3) := by decide +kernel
theorem dX5_by_15 : decode cX5_by 15 = .ok (.ifCond .eq 7, 3) := by decide +kernel
theorem dX5_by_18 : decode cX5_by 18 = .ok (.iconst 4, 1) := by decide +kernel
theorem dX5_by_19 : decode cX5_by 19 = .ok (.goto 4, 3) := by decide +kernel
theorem dX5_by_22 : decode cX5_by 22 = .ok (.iconst 0, 1) := by decide +kernel
theorem dX5_by_23 : decode cX5_by 23 = .ok (.istore_n 3, 1) := by decide +kernel
theorem dX5_by_24 : decode cX5_by 24 = .ok (.aload_n 0, 1) := by decide +kernel
theorem dX5_by_25 : decode cX5_by 25 = .ok (.iload_n 1, 1) := by decide +kernel
theorem dX5_by_26 : decode cX5_by 26 = .ok (.iconst 0, 1) := by decide +kernel
theorem dX5_by_27 : decode cX5_by 27 = .ok (.invokestatic 53, 3) := by decide +kernel
theorem dX5_by_30 : decode cX5_by 30 = .ok (.aload_n 0, 1) := by decide +kernel
theorem dX5_by_31 : decode cX5_by 31 = .ok (.iload_n 2, 1) := by decide +kernel
theorem dX5_by_32 : decode cX5_by 32 = .ok (.iconst 0, 1) := by decide +kernel
theorem dX5_by_33 : decode cX5_by 33 = .ok (.invokestatic 53, 3) := by decide +kernel
theorem dX5_by_36 : decode cX5_by 36 = .ok (.if_icmp .eq 5, 3) := by decide +kernel
theorem dX5_by_39 : decode cX5_by 39 = .ok (.iload_n 3, 1) := by decide +kernel
theorem dX5_by_40 : decode cX5_by 40 = .ok (.ireturn, 1) := by decide +kernel
theorem dX5_by_41 : decode cX5_by 41 = .ok (.aload_n 0, 1) := by decide +kernel
theorem dX5_by_42 : decode cX5_by 42 = .ok (.iload_n 2, 1) := by decide +kernel
theorem dX5_by_43 : decode cX5_by 43 = .ok (.iconst 1, 1) := by decide +kernel
theorem dX5_by_44 : decode cX5_by 44 = .ok (.invokestatic 53, 3) := by decide +kernel
theorem dX5_by_47 : decode cX5_by 47 = .ok (.aload_n 0, 1) := by decide +kernel
theorem dX5_by_48 : decode cX5_by 48 = .ok (.iload_n 1, 1) := by decide +kernel
theorem dX5_by_49 : decode cX5_by 49 = .ok (.iconst 1, 1) := by decide +kernel
theorem dX5_by_50 : decode cX5_by 50 = .ok (.invokestatic 53, 3) := by decide +kernel
theorem dX5_by_53 : decode cX5_by 53 = .ok (.iconst (-1), 1) := by decide +kernel
theorem dX5_by_54 : decode cX5_by 54 = .ok (.ixor, 1) := by decide +kernel
theorem dX5_by_55 : decode cX5_by 55 = .ok (.iand, 1) := by decide +kernel
theorem dX5_by_56 : decode cX5_by 56 = .ok (.ifCond .eq 7, 3) := by decide +kernel
theorem dX5_by_59 : decode cX5_by 59 = .ok (.iconst 1, 1) := by decide +kernel
theorem dX5_by_60 : decode cX5_by 60 = .ok (.goto 4, 3) := by decide +kernel
theorem dX5_by_63 : decode cX5_by 63 = .ok (.iconst 0, 1) := by decide +kernel
theorem dX5_by_64 : decode cX5_by 64 = .ok (.istore 4, 2) := by decide +kernel
theorem dX5_by_66 : decode cX5_by 66 = .ok (.iload 4, 2) := by decide +kernel
theorem dX5_by_68 : decode cX5_by 68 = .ok (.aload_n 0, 1) := by decide +kernel
theorem dX5_by_69 : decode cX5_by 69 = .ok (.iload_n 1, 1) := by decide +kernel
theorem dX5_by_70 : decode cX5_by 70 = .ok (.iconst 2, 1) := by decide +kernel
theorem dX5_by_71 : decode cX5_by 71 = .ok (.invokestatic 53, 3) := by decide +kernel
theorem dX5_by_74 : decode cX5_by 74 = .ok (.aload_n 0, 1) := by decide +kernel
theorem dX5_by_75 : decode cX5_by 75 = .ok (.iload_n 2, 1) := by decide +kernel
theorem dX5_by_76 : decode cX5_by 76 = .ok (.iconst 2, 1) := by decide +kernel
theorem dX5_by_77 : decode cX5_by 77 = .ok (.invokestatic 53, 3) := by decide +kernel
theorem dX5_by_80 : decode cX5_by 80 = .ok (.invokestatic 57, 3) := by decide +kernel
theorem dX5_by_83 : decode cX5_by 83 = .ok (.ifCond .eq 7, 3) := by decide +kernel
theorem dX5_by_86 : decode cX5_by 86 = .ok (.iconst 2, 1) := by decide +kernel
theorem dX5_by_87 : decode cX5_by 87 = .ok (.goto 4, 3) := by decide +kernel
theorem dX5_by_90 : decode cX5_by 90 = .ok (.iconst 0, 1) := by decide +kernel
theorem dX5_by_91 : decode cX5_by 91 = .ok (.iadd, 1) := by decide +kernel
theorem dX5_by_92 : decode cX5_by 92 = .ok (.iload_n 3, 1) := by decide +kernel
theorem dX5_by_93 : decode cX5_by 93 = .ok (.iadd, 1) := by decide +kernel
theorem dX5_by_94 : decode cX5_by 94 = .ok (.ireturn, 1) := by decide +kernel
def f_X5_thrown (x0_thrown : Int32) : Option (Int32) := some x0_thrown
theorem in_X5_thrown_X5 : ∀ w ∈ wsX50, w ∈ wsX5_thrown := by decide +kernel
theorem fl_X5_thrown_38 : Cond.fieldLink RX5 38 "ColophonHuntModel" "thrown" "I" ∈ wsX5_thrown := by decide +kernel
theorem hd_X5_thrown : yX5_thrown.cls = RX5 ∧ yX5_thrown.cls ≠ "java/lang/invoke/MethodHandle" ∧ yX5_thrown.cls ≠ "java/lang/invoke/VarHandle" ∧ (parseMethodDescriptor yX5_thrown.desc).map (fun d => d.parameters.length) = some 0 := by decide +kernel
set_option maxRecDepth 100000 in
set_option maxHeartbeats 4000000 in
theorem c_X5_thrown (l : Launch) (D : va_G) (cI cS cL : ClassId) (a0 : Nat) (b0_0 : Nat) (b0_1 : Nat) (b0_2 : Nat) (b0_4 : Nat) (b0_10 : Nat) (b0_12 : Nat) (b0_13 : Nat) (b0_14 : Nat) (x0_kept : Int32) (x0_typed : Int32) (x0_thrown : Int32) (x0_at : Int32) (x0_isFault : Int32) (x0_value : Int32) (x0_tolds : Int32) (rr : Int32) (hc : f_X5_thrown x0_thrown = some rr) : KM l yX5_thrown wsX5_thrown { frames := 0, cells := 0, slots := 0, locals := 0 } D (tyS cI cS cL) [.ref a0] [(a0, .inr (5, [.ref b0_0, .ref b0_1, .ref b0_2, .int x0_kept, .ref b0_4, .int x0_typed, .int x0_thrown, .int x0_at, .int x0_isFault, .int x0_value, .ref b0_10, .int x0_tolds, .ref b0_12, .ref b0_13, .ref b0_14]))] (some (.int rr)) (fun w => w = [(a0, .inr (5, [.ref b0_0, .ref b0_1, .ref b0_2, .int x0_kept, .ref b0_4, .int x0_typed, .int x0_thrown, .int x0_at, .int x0_isFault, .int x0_value, .ref b0_10, .int x0_tolds, .ref b0_12, .ref b0_13, .ref b0_14]))]) 0 0 := by
  refine g_entry (cc := cX5_thrown) (nL := 1) (rt := (some .int)) (by decide) rfl (Nat.le_of_ble_eq_true rfl) ?_
  intro p e s m args below meth c A (X : GC p s m args c cX5_thrown 1 RX5 wsX5_thrown D (tyS cI cS cL) A) hr hlk _ _
  have h := hc
  unfold f_X5_thrown at h
  refine g_lv (lv' := [(0, .ref a0)]) [0] rfl ?_
  refine g_aload_n X (j := 0) dX5_thrown_0 rfl ?_
  refine g_get (q0 := 0) (k := 6) (ci := 5) X in_X5_thrown_X5 fl_X5_thrown_38 rfl rfl (Nat.le_of_ble_eq_true rfl) rfl dX5_thrown_1 ?_
  have h := Option.some.inj h
  subst h
  exact g_iret X hr hlk dX5_thrown_4 rfl rfl
def f_X5_fails (p1 : Int32) (x0_thrown : Int32) : Option (Int32 × Int32) := some (0, p1)
theorem in_X5_fails_X5 : ∀ w ∈ wsX50, w ∈ wsX5_fails := by decide +kernel
theorem fl_X5_fails_38 : Cond.fieldLink RX5 38 "ColophonHuntModel" "thrown" "I" ∈ wsX5_fails := by decide +kernel
theorem hd_X5_fails : yX5_fails.cls = RX5 ∧ yX5_fails.cls ≠ "java/lang/invoke/MethodHandle" ∧ yX5_fails.cls ≠ "java/lang/invoke/VarHandle" ∧ (parseMethodDescriptor yX5_fails.desc).map (fun d => d.parameters.length) = some 1 := by decide +kernel
set_option maxRecDepth 100000 in
set_option maxHeartbeats 4000000 in
theorem c_X5_fails (l : Launch) (D : va_G) (cI cS cL : ClassId) (a0 : Nat) (b0_0 : Nat) (b0_1 : Nat) (b0_2 : Nat) (b0_4 : Nat) (b0_10 : Nat) (b0_12 : Nat) (b0_13 : Nat) (b0_14 : Nat) (p1 : Int32) (x0_kept : Int32) (x0_typed : Int32) (x0_thrown : Int32) (x0_at : Int32) (x0_isFault : Int32) (x0_value : Int32) (x0_tolds : Int32) (rr : Int32) (y0 : Int32) (hc : f_X5_fails p1 x0_thrown = some (rr, y0)) : KM l yX5_fails wsX5_fails { frames := 0, cells := 0, slots := 0, locals := 0 } D (tyS cI cS cL) [.ref a0, .int p1] [(a0, .inr (5, [.ref b0_0, .ref b0_1, .ref b0_2, .int x0_kept, .ref b0_4, .int x0_typed, .int x0_thrown, .int x0_at, .int x0_isFault, .int x0_value, .ref b0_10, .int x0_tolds, .ref b0_12, .ref b0_13, .ref b0_14]))] (some (.int rr)) (fun w => w = [(a0, .inr (5, [.ref b0_0, .ref b0_1, .ref b0_2, .int x0_kept, .ref b0_4, .int x0_typed, .int y0, .int x0_at, .int x0_isFault, .int x0_value, .ref b0_10, .int x0_tolds, .ref b0_12, .ref b0_13, .ref b0_14]))]) 0 0 := by
  refine g_entry (cc := cX5_fails) (nL := 2) (rt := (some .int)) (by decide) rfl (Nat.le_of_ble_eq_true rfl) ?_
  intro p e s m args below meth c A (X : GC p s m args c cX5_fails 2 RX5 wsX5_fails D (tyS cI cS cL) A) hr hlk _ _
  have h := hc
  unfold f_X5_fails at h
  refine g_lv (lv' := [(0, .ref a0), (1, .int p1)]) [0, 1] rfl ?_
  refine g_aload_n X (j := 0) dX5_fails_0 rfl ?_
  refine g_iload_n X (j := 1) dX5_fails_1 rfl ?_
  refine g_put (q0 := 0) (k := 6) (ci := 5) (ws' := [(a0, .inr (5, [.ref b0_0, .ref b0_1, .ref b0_2, .int x0_kept, .ref b0_4, .int x0_typed, .int p1, .int x0_at, .int x0_isFault, .int x0_value, .ref b0_10, .int x0_tolds, .ref b0_12, .ref b0_13, .ref b0_14]))]) X tyX5_ok nmX5 in_X5_fails_X5 fl_X5_fails_38 rfl rfl (Nat.le_of_ble_eq_true rfl) rfl rfl rfl (Nat.le_of_ble_eq_true rfl) dX5_fails_2 rfl ?_
  refine g_iconst (v := 0) X dX5_fails_5 (by decide) ?_
  have h := Option.some.inj h
  simp only [Prod.mk.injEq] at h
  obtain ⟨rfl, rfl⟩ := h
  exact g_iret X hr hlk dX5_fails_6 rfl rfl
def f_X5_in (p0 : Int32) (p1 : Int32) (p2 : Int32) : Option (Int32) := (jn (u1 fun (s1 : Int32) => gB s1 (some s1)) (fun K2 => jn (u0 (K2 0)) (fun K3 => (if p0 < p1 then K3 () else (if p2 < p0 then K3 () else K2 1)))))
theorem hd_X5_in : yX5_in.cls = RX5 ∧ yX5_in.cls ≠ "java/lang/invoke/MethodHandle" ∧ yX5_in.cls ≠ "java/lang/invoke/VarHandle" ∧ (parseMethodDescriptor yX5_in.desc).map (fun d => d.parameters.length) = some 3 := by decide +kernel
set_option maxRecDepth 100000 in
set_option maxHeartbeats 4000000 in
theorem c_X5_in (l : Launch) (D : va_G) (cI cS cL : ClassId) (p0 : Int32) (p1 : Int32) (p2 : Int32) (rr : Int32) (hc : f_X5_in p0 p1 p2 = some rr) : KM l yX5_in wsX5_in { frames := 0, cells := 0, slots := 0, locals := 0 } D (tyS cI cS cL) [.int p0, .int p1, .int p2] [] (some (.int rr)) (fun w => w = []) 0 0 := by
  refine g_entry (cc := cX5_in) (nL := 3) (rt := (some .boolean)) (by decide) rfl (Nat.le_of_ble_eq_true rfl) ?_
  intro p e s m args below meth c A (X : GC p s m args c cX5_in 3 RX5 wsX5_in D (tyS cI cS cL) A) hr hlk _ _
  have h := hc
  unfold f_X5_in at h
  refine g_lv (lv' := [(0, .int p0), (1, .int p1), (2, .int p2)]) [0, 1, 2] rfl ?_
  refine g_iload_n X (j := 0) dX5_in_0 rfl ?_
  refine g_iload_n X (j := 1) dX5_in_1 rfl ?_
  refine jn_g h (u1 fun s1 => []) (u1 fun s1 => []) (u1 fun s1 => [.int s1]) 15 ?_ ?_
  · rintro s1 h
    dsimp only [u1] at h ⊢
    obtain ⟨hz, h⟩ := gB_e h
    have h := Option.some.inj h
    subst h
    exact g_zret X hr hlk hz dX5_in_15 rfl rfl
  · intro K2 hK2 h
    refine jn_g h (u0 ([])) (u0 ([])) (u0 ([])) 14 ?_ ?_
    · rintro ⟨⟩ h
      dsimp only [u0] at h ⊢
      refine g_iconst (v := 0) X dX5_in_14 (by decide) ?_
      exact hK2 0 h
    · intro K3 hK3 h
      refine g_icmp_lt (tgt := 14) X h dX5_in_2 (by decide) (fun h => ?_) (fun h => ?_)
      · refine g_lv (lv' := []) [] rfl ?_
        exact hK3 () h
      · refine g_iload_n X (j := 0) dX5_in_5 rfl ?_
        refine g_iload_n X (j := 2) dX5_in_6 rfl ?_
        refine g_icmp_gt (tgt := 14) X h dX5_in_7 (by decide) (fun h => ?_) (fun h => ?_)
        · refine g_lv (lv' := []) [] rfl ?_
          exact hK3 () h
        · refine g_iconst (v := 1) X dX5_in_10 (by decide) ?_
          refine g_goto (tgt := 15) X dX5_in_11 (by decide) ?_
          refine g_lv (lv' := []) [] rfl ?_
          exact hK2 1 h
def f_X5_isBook (p1 : Int32) (f1 : Nat → Int32) : Option (Int32) := (rdA f1 41 40).bind (fun v1 => (f_X5_in p1 0 (v1 - 1)).bind (u1 fun (r2 : Int32) => gB r2 (some r2)))
theorem in_X5_isBook_X5 : ∀ w ∈ wsX50, w ∈ wsX5_isBook := by decide +kernel
theorem fl_X5_isBook_7 : Cond.fieldLink RX5 7 "ColophonHuntModel" "now" "[I" ∈ wsX5_isBook := by decide +kernel
theorem hd_X5_isBook : yX5_isBook.cls = RX5 ∧ yX5_isBook.cls ≠ "java/lang/invoke/MethodHandle" ∧ yX5_isBook.cls ≠ "java/lang/invoke/VarHandle" ∧ (parseMethodDescriptor yX5_isBook.desc).map (fun d => d.parameters.length) = some 1 := by decide +kernel
set_option maxRecDepth 100000 in
set_option maxHeartbeats 4000000 in
theorem c_X5_isBook (l : Launch) (D : va_G) (cI cS cL : ClassId) (a0 : Nat) (a1 : Nat) (b0_1 : Nat) (b0_2 : Nat) (b0_4 : Nat) (b0_10 : Nat) (b0_12 : Nat) (b0_13 : Nat) (b0_14 : Nat) (p1 : Int32) (x0_kept : Int32) (x0_typed : Int32) (x0_thrown : Int32) (x0_at : Int32) (x0_isFault : Int32) (x0_value : Int32) (x0_tolds : Int32) (f1 : Nat → Int32) (rr : Int32) (hc : f_X5_isBook p1 f1 = some rr) : KM l yX5_isBook wsX5_isBook { frames := 1, cells := 0, slots := 0, locals := 22 } D (tyS cI cS cL) [.ref a0, .int p1] [(a0, .inr (5, [.ref a1, .ref b0_1, .ref b0_2, .int x0_kept, .ref b0_4, .int x0_typed, .int x0_thrown, .int x0_at, .int x0_isFault, .int x0_value, .ref b0_10, .int x0_tolds, .ref b0_12, .ref b0_13, .ref b0_14])), (a1, .inl (cI, 41, .inl f1))] (some (.int rr)) (fun w => w = [(a0, .inr (5, [.ref a1, .ref b0_1, .ref b0_2, .int x0_kept, .ref b0_4, .int x0_typed, .int x0_thrown, .int x0_at, .int x0_isFault, .int x0_value, .ref b0_10, .int x0_tolds, .ref b0_12, .ref b0_13, .ref b0_14])), (a1, .inl (cI, 41, .inl f1))]) 0 0 := by
  refine g_entry (cc := cX5_isBook) (nL := 2) (rt := (some .boolean)) (by decide) rfl (Nat.le_of_ble_eq_true rfl) ?_
  intro p e s m args below meth c A (X : GC p s m args c cX5_isBook 2 RX5 wsX5_isBook D (tyS cI cS cL) A) hr hlk _ _
  have h := hc
  unfold f_X5_isBook at h
  refine g_lv (lv' := [(0, .ref a0), (1, .int p1)]) [0, 1] rfl ?_
  refine g_iload_n X (j := 1) dX5_isBook_0 rfl ?_
  refine g_iconst (v := 0) X dX5_isBook_1 (by decide) ?_
  refine g_aload_n X (j := 0) dX5_isBook_2 rfl ?_
  refine g_get (q0 := 0) (k := 0) (ci := 5) X in_X5_isBook_X5 fl_X5_isBook_7 rfl rfl (Nat.le_of_ble_eq_true rfl) rfl dX5_isBook_3 ?_
  refine g_bipush (v := 40) X dX5_isBook_6 (by decide) ?_
  refine g_iald (q0 := 1) (t0 := 0) X h rfl rfl dX5_isBook_8 (fun v1 h => ?_)
  refine g_iconst (v := 1) X dX5_isBook_9 (by decide) ?_
  refine g_isub X dX5_isBook_10 ?_
  obtain ⟨r2, hc, h⟩ := bd1 h
  refine g_callS (is := []) (As := [.int p1, .int 0, .int (v1 - 1)]) (ws' := [(a0, .inr (5, [.ref a1, .ref b0_1, .ref b0_2, .int x0_kept, .ref b0_4, .int x0_typed, .int x0_thrown, .int x0_at, .int x0_isFault, .int x0_value, .ref b0_10, .int x0_tolds, .ref b0_12, .ref b0_13, .ref b0_14])), (a1, .inl (cI, 41, .inl f1))]) (st := []) X (c_X5_in l D cI cS cL p1 0 (v1 - 1) r2 hc) gX5_isBook_X5_in rfl ⟨rfl, rfl⟩ hd_X5_in.2 ⟨Nat.le_of_ble_eq_true rfl, Nat.le_of_ble_eq_true rfl⟩ ⟨Nat.zero_le _, Nat.zero_le _⟩ rfl rfl rfl rfl rfl (Nat.le_of_ble_eq_true rfl) rfl dX5_isBook_11 ?_
  obtain ⟨hz, h⟩ := gB_e h
  have h := Option.some.inj h
  subst h
  exact g_zret X hr hlk hz dX5_isBook_14 rfl rfl
def f_X5_of (p1 : Int32) (p2 : Int32) (n0 : Nat) (f0 : Nat → Int32) : Option (Int32) := (rdA f0 n0 (((4 : Int32) * p1) + p2)).bind (fun v1 => some v1)
theorem hd_X5_of : yX5_of.cls = RX5 ∧ yX5_of.cls ≠ "java/lang/invoke/MethodHandle" ∧ yX5_of.cls ≠ "java/lang/invoke/VarHandle" ∧ (parseMethodDescriptor yX5_of.desc).map (fun d => d.parameters.length) = some 3 := by decide +kernel
set_option maxRecDepth 100000 in
set_option maxHeartbeats 4000000 in
theorem c_X5_of (l : Launch) (D : va_G) (cI cS cL : ClassId) (a0 : Nat) (p1 : Int32) (p2 : Int32) (n0 : Nat) (f0 : Nat → Int32) (rr : Int32) (hc : f_X5_of p1 p2 n0 f0 = some rr) : KM l yX5_of wsX5_of { frames := 0, cells := 0, slots := 0, locals := 0 } D (tyS cI cS cL) [.ref a0, .int p1, .int p2] [(a0, .inl (cI, n0, .inl f0))] (some (.int rr)) (fun w => w = [(a0, .inl (cI, n0, .inl f0))]) 0 0 := by
  refine g_entry (cc := cX5_of) (nL := 3) (rt := (some .int)) (by decide) rfl (Nat.le_of_ble_eq_true rfl) ?_
  intro p e s m args below meth c A (X : GC p s m args c cX5_of 3 RX5 wsX5_of D (tyS cI cS cL) A) hr hlk _ _
  have h := hc
  unfold f_X5_of at h
  refine g_lv (lv' := [(0, .ref a0), (1, .int p1), (2, .int p2)]) [0, 1, 2] rfl ?_
  refine g_aload_n X (j := 0) dX5_of_0 rfl ?_
  refine g_iconst (v := 4) X dX5_of_1 (by decide) ?_
  refine g_iload_n X (j := 1) dX5_of_2 rfl ?_
  refine g_imul X dX5_of_3 ?_
  refine g_iload_n X (j := 2) dX5_of_4 rfl ?_
  refine g_iadd X dX5_of_5 ?_
  refine g_iald (q0 := 0) (t0 := 0) X h rfl rfl dX5_of_6 (fun v1 h => ?_)
  have h := Option.some.inj h
  subst h
  exact g_iret X hr hlk dX5_of_7 rfl rfl
def f_X5_ones (p0 : Int32) : Option (Int32) := (wl (u2 fun (l1_1 : Int32) (l2_2 : Int32) => (if l2_2 = 0 then some (Sum.inr l1_1) else some (Sum.inl ((l1_1 + 1), (l2_2 &&& (l2_2 - 1)))))) 9999 (0, p0)).bind (u1 fun (l1_3 : Int32) => some l1_3)
theorem hd_X5_ones : yX5_ones.cls = RX5 ∧ yX5_ones.cls ≠ "java/lang/invoke/MethodHandle" ∧ yX5_ones.cls ≠ "java/lang/invoke/VarHandle" ∧ (parseMethodDescriptor yX5_ones.desc).map (fun d => d.parameters.length) = some 1 := by decide +kernel
set_option maxRecDepth 100000 in
set_option maxHeartbeats 4000000 in
theorem c_X5_ones (l : Launch) (D : va_G) (cI cS cL : ClassId) (p0 : Int32) (rr : Int32) (hc : f_X5_ones p0 = some rr) : KM l yX5_ones wsX5_ones { frames := 0, cells := 0, slots := 0, locals := 0 } D (tyS cI cS cL) [.int p0] [] (some (.int rr)) (fun w => w = []) 0 0 := by
  refine g_entry (cc := cX5_ones) (nL := 3) (rt := (some .int)) (by decide) rfl (Nat.le_of_ble_eq_true rfl) ?_
  intro p e s m args below meth c A (X : GC p s m args c cX5_ones 3 RX5 wsX5_ones D (tyS cI cS cL) A) hr hlk _ _
  have h := hc
  unfold f_X5_ones at h
  refine g_lv (lv' := [(0, .int p0)]) [0] rfl ?_
  refine g_iconst (v := 0) X dX5_ones_0 (by decide) ?_
  refine g_istore_n (lv' := [(1, .int 0), (0, .int p0)]) X dX5_ones_1 rfl (by decide) rfl ?_
  refine g_iload_n X (j := 1) dX5_ones_2 rfl ?_
  refine g_istore_n (lv' := [(2, .int p0), (1, .int 0), (0, .int p0)]) X dX5_ones_3 rfl (by decide) rfl ?_
  refine g_lv (lv' := [(1, .int 0), (2, .int p0)]) [1, 0] rfl ?_
  refine wl_g1 h (u2 fun l1_1 l2_2 => []) (u2 fun l1_1 l2_2 => [(1, .int l1_1), (2, .int l2_2)]) rfl rfl (u1 fun l1_3 => []) (u1 fun l1_3 => [(1, .int l1_3)]) 20 ?_ ?_
  · rintro l1_3 h
    dsimp only [u1] at h ⊢
    refine g_iload_n X (j := 0) dX5_ones_20 rfl ?_
    have h := Option.some.inj h
    subst h
    exact g_iret X hr hlk dX5_ones_21 rfl rfl
  · rintro ⟨l1_1, l2_2⟩ o h hI hE
    dsimp only [u2] at h ⊢
    refine g_iload_n X (j := 1) dX5_ones_4 rfl ?_
    refine g_if_eq (tgt := 20) X h dX5_ones_5 (by decide) (fun h => ?_) (fun h => ?_)
    · refine g_lv (lv' := [(1, .int l1_1)]) [0] rfl ?_
      exact hE l1_1 (Option.some.inj h).symm
    · refine g_iinc (j := 0) (lv' := [(1, .int (l1_1 + 1)), (2, .int l2_2)]) X (l1_1 + 1) dX5_ones_8 rfl rfl (by decide) rfl ?_
      refine g_iload_n X (j := 1) dX5_ones_11 rfl ?_
      refine g_iload_n X (j := 1) dX5_ones_12 rfl ?_
      refine g_iconst (v := 1) X dX5_ones_13 (by decide) ?_
      refine g_isub X dX5_ones_14 ?_
      refine g_iand X dX5_ones_15 ?_
      refine g_istore_n (lv' := [(2, .int (l2_2 &&& (l2_2 - 1))), (1, .int (l1_1 + 1))]) X dX5_ones_16 rfl (by decide) rfl ?_
      refine g_goto (tgt := 4) X dX5_ones_17 (by decide) ?_
      refine g_lv (lv' := [(1, .int (l1_1 + 1)), (2, .int (l2_2 &&& (l2_2 - 1)))]) [1, 0] rfl ?_
      exact hI ((l1_1 + 1), (l2_2 &&& (l2_2 - 1))) (Option.some.inj h).symm
def f_X5_copies (p1 : Int32) (p3 : Int32) (n0 : Nat) (f0 : Nat → Int32) (n1 : Nat) (f1 : Nat → Int32) : Option ((Nat → Int32)) := (wl (u2 fun (l4_1 : Int32) (w2 : Nat → Int32) => (if 41 ≤ l4_1 then some (Sum.inr w2) else (rdA f0 n0 (p1 + l4_1)).bind (fun v4 => (wrA w2 n1 (p3 + l4_1) v4).bind (fun g5 => some (Sum.inl ((l4_1 + 1), g5)))))) 9999 (0, f1)).bind (u1 fun (w3 : Nat → Int32) => some w3)
theorem hd_X5_copies : yX5_copies.cls = RX5 ∧ yX5_copies.cls ≠ "java/lang/invoke/MethodHandle" ∧ yX5_copies.cls ≠ "java/lang/invoke/VarHandle" ∧ (parseMethodDescriptor yX5_copies.desc).map (fun d => d.parameters.length) = some 4 := by decide +kernel
set_option maxRecDepth 100000 in
set_option maxHeartbeats 4000000 in
theorem c_X5_copies (l : Launch) (D : va_G) (cI cS cL : ClassId) (a0 : Nat) (a1 : Nat) (p1 : Int32) (p3 : Int32) (n0 : Nat) (f0 : Nat → Int32) (n1 : Nat) (f1 : Nat → Int32) (y0 : Nat → Int32) (hc : f_X5_copies p1 p3 n0 f0 n1 f1 = some y0) : KM l yX5_copies wsX5_copies { frames := 0, cells := 0, slots := 0, locals := 0 } D (tyS cI cS cL) [.ref a0, .int p1, .ref a1, .int p3] [(a0, .inl (cI, n0, .inl f0)), (a1, .inl (cI, n1, .inl f1))] none (fun w => w = [(a0, .inl (cI, n0, .inl f0)), (a1, .inl (cI, n1, .inl y0))]) 0 0 := by
  refine g_entry (cc := cX5_copies) (nL := 5) (rt := none) (by decide) rfl (Nat.le_of_ble_eq_true rfl) ?_
  intro p e s m args below meth c A (X : GC p s m args c cX5_copies 5 RX5 wsX5_copies D (tyS cI cS cL) A) hr hlk _ _
  have h := hc
  unfold f_X5_copies at h
  refine g_lv (lv' := [(0, .ref a0), (1, .int p1), (2, .ref a1), (3, .int p3)]) [0, 1, 2, 3] rfl ?_
  refine g_iconst (v := 0) X dX5_copies_0 (by decide) ?_
  refine g_istore (lv' := [(4, .int 0), (0, .ref a0), (1, .int p1), (2, .ref a1), (3, .int p3)]) X dX5_copies_1 (by decide) rfl ?_
  refine g_lv (lv' := [(0, .ref a0), (1, .int p1), (2, .ref a1), (3, .int p3), (4, .int 0)]) [1, 2, 3, 4, 0] rfl ?_
  refine wl_g1 h (u2 fun l4_1 w2 => [(a0, .inl (cI, n0, .inl f0)), (a1, .inl (cI, n1, .inl w2))]) (u2 fun l4_1 w2 => [(0, .ref a0), (1, .int p1), (2, .ref a1), (3, .int p3), (4, .int l4_1)]) rfl rfl (u1 fun w3 => [(a0, .inl (cI, n0, .inl f0)), (a1, .inl (cI, n1, .inl w3))]) (u1 fun w3 => []) 28 ?_ ?_
  · rintro w3 h
    dsimp only [u1] at h ⊢
    have h := Option.some.inj h
    subst h
    exact g_vret X hr hlk dX5_copies_28 rfl
  · rintro ⟨l4_1, w2⟩ o h hI hE
    dsimp only [u2] at h ⊢
    refine g_iload X (j := 4) dX5_copies_3 rfl ?_
    refine g_bipush (v := 41) X dX5_copies_5 (by decide) ?_
    refine g_icmp_ge (tgt := 28) X h dX5_copies_7 (by decide) (fun h => ?_) (fun h => ?_)
    · refine g_lv (lv' := []) [] rfl ?_
      exact hE w2 (Option.some.inj h).symm
    · refine g_aload_n X (j := 2) dX5_copies_10 rfl ?_
      refine g_iload_n X (j := 3) dX5_copies_11 rfl ?_
      refine g_iload X (j := 4) dX5_copies_12 rfl ?_
      refine g_iadd X dX5_copies_14 ?_
      refine g_aload_n X (j := 0) dX5_copies_15 rfl ?_
      refine g_iload_n X (j := 1) dX5_copies_16 rfl ?_
      refine g_iload X (j := 4) dX5_copies_17 rfl ?_
      refine g_iadd X dX5_copies_19 ?_
      refine g_iald (q0 := 0) (t0 := 0) X h rfl rfl dX5_copies_20 (fun v4 h => ?_)
      refine g_iast (q0 := 1) (t0 := 0) (ws1 := fun g5 => [(a0, .inl (cI, n0, .inl f0)), (a1, .inl (cI, n1, .inl g5))]) X h rfl rfl dX5_copies_21 (fun _ => rfl) (fun g5 h => ?_)
      refine g_iinc (j := 4) (lv' := [(4, .int (l4_1 + 1)), (0, .ref a0), (1, .int p1), (2, .ref a1), (3, .int p3)]) X (l4_1 + 1) dX5_copies_22 rfl rfl (by decide) rfl ?_
      refine g_goto (tgt := 3) X dX5_copies_25 (by decide) ?_
      refine g_lv (lv' := [(0, .ref a0), (1, .int p1), (2, .ref a1), (3, .int p3), (4, .int (l4_1 + 1))]) [1, 2, 3, 4, 0] rfl ?_
      exact hI ((l4_1 + 1), g5) (Option.some.inj h).symm
def f_X5_saves (x0_kept : Int32) (f1 : Nat → Int32) (f2 : Nat → Int32) : Option (Int32 × (Nat → Int32)) := (jn (u2 fun (w1 : Int32) (w2 : Nat → Int32) => (f_X5_copies 0 ((41 : Int32) * w1) 41 f1 246 w2).bind (u1 fun (o5 : Nat → Int32) => some ((w1 + 1), o5))) (fun K3 => (if x0_kept = 6 then (wl (u2 fun (l1_6 : Int32) (w7 : Nat → Int32) => (if 205 ≤ l1_6 then some (Sum.inr w7) else (rdA w7 246 (l1_6 + 41)).bind (fun v9 => (wrA w7 246 l1_6 v9).bind (fun g10 => some (Sum.inl ((l1_6 + 1), g10)))))) 9999 (0, f2)).bind (u1 fun (w8 : Nat → Int32) => K3 ((x0_kept - 1), w8)) else K3 (x0_kept, f2))))
theorem in_X5_saves_X5 : ∀ w ∈ wsX50, w ∈ wsX5_saves := by decide +kernel
theorem fl_X5_saves_34 : Cond.fieldLink RX5 34 "ColophonHuntModel" "kept" "I" ∈ wsX5_saves := by decide +kernel
theorem fl_X5_saves_7 : Cond.fieldLink RX5 7 "ColophonHuntModel" "now" "[I" ∈ wsX5_saves := by decide +kernel
theorem fl_X5_saves_16 : Cond.fieldLink RX5 16 "ColophonHuntModel" "past" "[I" ∈ wsX5_saves := by decide +kernel
theorem hd_X5_saves : yX5_saves.cls = RX5 ∧ yX5_saves.cls ≠ "java/lang/invoke/MethodHandle" ∧ yX5_saves.cls ≠ "java/lang/invoke/VarHandle" ∧ (parseMethodDescriptor yX5_saves.desc).map (fun d => d.parameters.length) = some 0 := by decide +kernel
set_option maxRecDepth 100000 in
set_option maxHeartbeats 4000000 in
theorem c_X5_saves (l : Launch) (D : va_G) (cI cS cL : ClassId) (a0 : Nat) (a1 : Nat) (a2 : Nat) (b0_1 : Nat) (b0_4 : Nat) (b0_10 : Nat) (b0_12 : Nat) (b0_13 : Nat) (b0_14 : Nat) (x0_kept : Int32) (x0_typed : Int32) (x0_thrown : Int32) (x0_at : Int32) (x0_isFault : Int32) (x0_value : Int32) (x0_tolds : Int32) (f1 : Nat → Int32) (f2 : Nat → Int32) (y0 : Int32) (y1 : Nat → Int32) (hc : f_X5_saves x0_kept f1 f2 = some (y0, y1)) : KM l yX5_saves wsX5_saves { frames := 1, cells := 0, slots := 0, locals := 24 } D (tyS cI cS cL) [.ref a0] [(a0, .inr (5, [.ref a1, .ref b0_1, .ref a2, .int x0_kept, .ref b0_4, .int x0_typed, .int x0_thrown, .int x0_at, .int x0_isFault, .int x0_value, .ref b0_10, .int x0_tolds, .ref b0_12, .ref b0_13, .ref b0_14])), (a1, .inl (cI, 41, .inl f1)), (a2, .inl (cI, 246, .inl f2))] none (fun w => w = [(a0, .inr (5, [.ref a1, .ref b0_1, .ref a2, .int y0, .ref b0_4, .int x0_typed, .int x0_thrown, .int x0_at, .int x0_isFault, .int x0_value, .ref b0_10, .int x0_tolds, .ref b0_12, .ref b0_13, .ref b0_14])), (a1, .inl (cI, 41, .inl f1)), (a2, .inl (cI, 246, .inl y1))]) 0 0 := by
  refine g_entry (cc := cX5_saves) (nL := 2) (rt := none) (by decide) rfl (Nat.le_of_ble_eq_true rfl) ?_
  intro p e s m args below meth c A (X : GC p s m args c cX5_saves 2 RX5 wsX5_saves D (tyS cI cS cL) A) hr hlk _ _
  have h := hc
  unfold f_X5_saves at h
  refine g_lv (lv' := [(0, .ref a0)]) [0] rfl ?_
  refine g_aload_n X (j := 0) dX5_saves_0 rfl ?_
  refine g_get (q0 := 0) (k := 3) (ci := 5) X in_X5_saves_X5 fl_X5_saves_34 rfl rfl (Nat.le_of_ble_eq_true rfl) rfl dX5_saves_1 ?_
  refine g_bipush (v := 6) X dX5_saves_4 (by decide) ?_
  refine jn_g h (u2 fun w1 w2 => [(a0, .inr (5, [.ref a1, .ref b0_1, .ref a2, .int w1, .ref b0_4, .int x0_typed, .int x0_thrown, .int x0_at, .int x0_isFault, .int x0_value, .ref b0_10, .int x0_tolds, .ref b0_12, .ref b0_13, .ref b0_14])), (a1, .inl (cI, 41, .inl f1)), (a2, .inl (cI, 246, .inl w2))]) (u2 fun w1 w2 => [(0, .ref a0)]) (u2 fun w1 w2 => []) 49 ?_ ?_
  · rintro ⟨w1, w2⟩ h
    dsimp only [u2] at h ⊢
    refine g_aload_n X (j := 0) dX5_saves_49 rfl ?_
    refine g_get (q0 := 0) (k := 0) (ci := 5) X in_X5_saves_X5 fl_X5_saves_7 rfl rfl (Nat.le_of_ble_eq_true rfl) rfl dX5_saves_50 ?_
    refine g_iconst (v := 0) X dX5_saves_53 (by decide) ?_
    refine g_aload_n X (j := 0) dX5_saves_54 rfl ?_
    refine g_get (q0 := 0) (k := 2) (ci := 5) X in_X5_saves_X5 fl_X5_saves_16 rfl rfl (Nat.le_of_ble_eq_true rfl) rfl dX5_saves_55 ?_
    refine g_bipush (v := 41) X dX5_saves_58 (by decide) ?_
    refine g_aload_n X (j := 0) dX5_saves_60 rfl ?_
    refine g_get (q0 := 0) (k := 3) (ci := 5) X in_X5_saves_X5 fl_X5_saves_34 rfl rfl (Nat.le_of_ble_eq_true rfl) rfl dX5_saves_61 ?_
    refine g_imul X dX5_saves_64 ?_
    obtain ⟨o5, hc, h⟩ := bd1 h
    refine g_callS (is := [1, 2]) (As := [.ref a1, .int 0, .ref a2, .int ((41 : Int32) * w1)]) (ws' := [(a0, .inr (5, [.ref a1, .ref b0_1, .ref a2, .int w1, .ref b0_4, .int x0_typed, .int x0_thrown, .int x0_at, .int x0_isFault, .int x0_value, .ref b0_10, .int x0_tolds, .ref b0_12, .ref b0_13, .ref b0_14])), (a1, .inl (cI, 41, .inl f1)), (a2, .inl (cI, 246, .inl o5))]) (st := []) X (c_X5_copies l D cI cS cL a1 a2 0 ((41 : Int32) * w1) 41 f1 246 w2 o5 hc) gX5_saves_X5_copies rfl ⟨rfl, rfl⟩ hd_X5_copies.2 ⟨Nat.le_of_ble_eq_true rfl, Nat.le_of_ble_eq_true rfl⟩ ⟨Nat.zero_le _, Nat.zero_le _⟩ rfl rfl rfl rfl rfl (Nat.le_of_ble_eq_true rfl) rfl dX5_saves_65 ?_
    refine g_aload_n X (j := 0) dX5_saves_68 rfl ?_
    refine g_dup X dX5_saves_69 rfl ?_
    refine g_get (q0 := 0) (k := 3) (ci := 5) X in_X5_saves_X5 fl_X5_saves_34 rfl rfl (Nat.le_of_ble_eq_true rfl) rfl dX5_saves_70 ?_
    refine g_iconst (v := 1) X dX5_saves_73 (by decide) ?_
    refine g_iadd X dX5_saves_74 ?_
    refine g_put (q0 := 0) (k := 3) (ci := 5) (ws' := [(a0, .inr (5, [.ref a1, .ref b0_1, .ref a2, .int (w1 + 1), .ref b0_4, .int x0_typed, .int x0_thrown, .int x0_at, .int x0_isFault, .int x0_value, .ref b0_10, .int x0_tolds, .ref b0_12, .ref b0_13, .ref b0_14])), (a1, .inl (cI, 41, .inl f1)), (a2, .inl (cI, 246, .inl o5))]) X tyX5_ok nmX5 in_X5_saves_X5 fl_X5_saves_34 rfl rfl (Nat.le_of_ble_eq_true rfl) rfl rfl rfl (Nat.le_of_ble_eq_true rfl) dX5_saves_75 rfl ?_
    have h := Option.some.inj h
    simp only [Prod.mk.injEq] at h
    obtain ⟨rfl, rfl⟩ := h
    exact g_vret X hr hlk dX5_saves_78 rfl
  · intro K3 hK3 h
    refine g_icmp_ne (tgt := 49) X h dX5_saves_6 (by decide) (fun h => ?_) (fun h => ?_)
    · exact hK3 (x0_kept, f2) h
    · refine g_iconst (v := 0) X dX5_saves_9 (by decide) ?_
      refine g_istore_n (lv' := [(1, .int 0), (0, .ref a0)]) X dX5_saves_10 rfl (by decide) rfl ?_
      refine g_lv (lv' := [(0, .ref a0), (1, .int 0)]) [1, 0] rfl ?_
      refine wl_g1 h (u2 fun l1_6 w7 => [(a0, .inr (5, [.ref a1, .ref b0_1, .ref a2, .int x0_kept, .ref b0_4, .int x0_typed, .int x0_thrown, .int x0_at, .int x0_isFault, .int x0_value, .ref b0_10, .int x0_tolds, .ref b0_12, .ref b0_13, .ref b0_14])), (a1, .inl (cI, 41, .inl f1)), (a2, .inl (cI, 246, .inl w7))]) (u2 fun l1_6 w7 => [(0, .ref a0), (1, .int l1_6)]) rfl rfl (u1 fun w8 => [(a0, .inr (5, [.ref a1, .ref b0_1, .ref a2, .int x0_kept, .ref b0_4, .int x0_typed, .int x0_thrown, .int x0_at, .int x0_isFault, .int x0_value, .ref b0_10, .int x0_tolds, .ref b0_12, .ref b0_13, .ref b0_14])), (a1, .inl (cI, 41, .inl f1)), (a2, .inl (cI, 246, .inl w8))]) (u1 fun w8 => [(0, .ref a0)]) 39 ?_ ?_
      · rintro w8 h
        dsimp only [u1] at h ⊢
        refine g_aload_n X (j := 0) dX5_saves_39 rfl ?_
        refine g_dup X dX5_saves_40 rfl ?_
        refine g_get (q0 := 0) (k := 3) (ci := 5) X in_X5_saves_X5 fl_X5_saves_34 rfl rfl (Nat.le_of_ble_eq_true rfl) rfl dX5_saves_41 ?_
        refine g_iconst (v := 1) X dX5_saves_44 (by decide) ?_
        refine g_isub X dX5_saves_45 ?_
        refine g_put (q0 := 0) (k := 3) (ci := 5) (ws' := [(a0, .inr (5, [.ref a1, .ref b0_1, .ref a2, .int (x0_kept - 1), .ref b0_4, .int x0_typed, .int x0_thrown, .int x0_at, .int x0_isFault, .int x0_value, .ref b0_10, .int x0_tolds, .ref b0_12, .ref b0_13, .ref b0_14])), (a1, .inl (cI, 41, .inl f1)), (a2, .inl (cI, 246, .inl w8))]) X tyX5_ok nmX5 in_X5_saves_X5 fl_X5_saves_34 rfl rfl (Nat.le_of_ble_eq_true rfl) rfl rfl rfl (Nat.le_of_ble_eq_true rfl) dX5_saves_46 rfl ?_
        exact hK3 ((x0_kept - 1), w8) h
      · rintro ⟨l1_6, w7⟩ o h hI hE
        dsimp only [u2] at h ⊢
        refine g_iload_n X (j := 1) dX5_saves_11 rfl ?_
        refine g_sipush (v := 205) X dX5_saves_12 (by decide) ?_
        refine g_icmp_ge (tgt := 39) X h dX5_saves_15 (by decide) (fun h => ?_) (fun h => ?_)
        · refine g_lv (lv' := [(0, .ref a0)]) [0] rfl ?_
          exact hE w7 (Option.some.inj h).symm
        · refine g_aload_n X (j := 0) dX5_saves_18 rfl ?_
          refine g_get (q0 := 0) (k := 2) (ci := 5) X in_X5_saves_X5 fl_X5_saves_16 rfl rfl (Nat.le_of_ble_eq_true rfl) rfl dX5_saves_19 ?_
          refine g_iload_n X (j := 1) dX5_saves_22 rfl ?_
          refine g_aload_n X (j := 0) dX5_saves_23 rfl ?_
          refine g_get (q0 := 0) (k := 2) (ci := 5) X in_X5_saves_X5 fl_X5_saves_16 rfl rfl (Nat.le_of_ble_eq_true rfl) rfl dX5_saves_24 ?_
          refine g_iload_n X (j := 1) dX5_saves_27 rfl ?_
          refine g_bipush (v := 41) X dX5_saves_28 (by decide) ?_
          refine g_iadd X dX5_saves_30 ?_
          refine g_iald (q0 := 2) (t0 := 0) X h rfl rfl dX5_saves_31 (fun v9 h => ?_)
          refine g_iast (q0 := 2) (t0 := 0) (ws1 := fun g10 => [(a0, .inr (5, [.ref a1, .ref b0_1, .ref a2, .int x0_kept, .ref b0_4, .int x0_typed, .int x0_thrown, .int x0_at, .int x0_isFault, .int x0_value, .ref b0_10, .int x0_tolds, .ref b0_12, .ref b0_13, .ref b0_14])), (a1, .inl (cI, 41, .inl f1)), (a2, .inl (cI, 246, .inl g10))]) X h rfl rfl dX5_saves_32 (fun _ => rfl) (fun g10 h => ?_)
          refine g_iinc (j := 1) (lv' := [(1, .int (l1_6 + 1)), (0, .ref a0)]) X (l1_6 + 1) dX5_saves_33 rfl rfl (by decide) rfl ?_
          refine g_goto (tgt := 11) X dX5_saves_36 (by decide) ?_
          refine g_lv (lv' := [(0, .ref a0), (1, .int (l1_6 + 1))]) [1, 0] rfl ?_
          exact hI ((l1_6 + 1), g10) (Option.some.inj h).symm
def f_X5_undo (x0_kept : Int32) (x0_thrown : Int32) (f1 : Nat → Int32) (f2 : Nat → Int32) : Option (Int32 × Int32 × Int32 × (Nat → Int32)) := (if x0_kept = 0 then (f_X5_fails 1 0).bind (u2 fun (r3 : Int32) (o4 : Int32) => some (r3, x0_kept, o4, f1)) else (f_X5_copies ((41 : Int32) * (x0_kept - 1)) 0 246 f2 41 f1).bind (u1 fun (o2 : Nat → Int32) => some ((x0_kept - 1), (x0_kept - 1), 0, o2)))
theorem in_X5_undo_X5 : ∀ w ∈ wsX50, w ∈ wsX5_undo := by decide +kernel
theorem fl_X5_undo_38 : Cond.fieldLink RX5 38 "ColophonHuntModel" "thrown" "I" ∈ wsX5_undo := by decide +kernel
theorem fl_X5_undo_34 : Cond.fieldLink RX5 34 "ColophonHuntModel" "kept" "I" ∈ wsX5_undo := by decide +kernel
theorem fl_X5_undo_16 : Cond.fieldLink RX5 16 "ColophonHuntModel" "past" "[I" ∈ wsX5_undo := by decide +kernel
theorem fl_X5_undo_7 : Cond.fieldLink RX5 7 "ColophonHuntModel" "now" "[I" ∈ wsX5_undo := by decide +kernel
theorem hd_X5_undo : yX5_undo.cls = RX5 ∧ yX5_undo.cls ≠ "java/lang/invoke/MethodHandle" ∧ yX5_undo.cls ≠ "java/lang/invoke/VarHandle" ∧ (parseMethodDescriptor yX5_undo.desc).map (fun d => d.parameters.length) = some 0 := by decide +kernel
set_option maxRecDepth 100000 in
set_option maxHeartbeats 4000000 in
theorem c_X5_undo (l : Launch) (D : va_G) (cI cS cL : ClassId) (a0 : Nat) (a1 : Nat) (a2 : Nat) (b0_1 : Nat) (b0_4 : Nat) (b0_10 : Nat) (b0_12 : Nat) (b0_13 : Nat) (b0_14 : Nat) (x0_kept : Int32) (x0_typed : Int32) (x0_thrown : Int32) (x0_at : Int32) (x0_isFault : Int32) (x0_value : Int32) (x0_tolds : Int32) (f1 : Nat → Int32) (f2 : Nat → Int32) (rr : Int32) (y0 : Int32) (y1 : Int32) (y2 : Nat → Int32) (hc : f_X5_undo x0_kept x0_thrown f1 f2 = some (rr, y0, y1, y2)) : KM l yX5_undo wsX5_undo { frames := 1, cells := 0, slots := 0, locals := 24 } D (tyS cI cS cL) [.ref a0] [(a0, .inr (5, [.ref a1, .ref b0_1, .ref a2, .int x0_kept, .ref b0_4, .int x0_typed, .int x0_thrown, .int x0_at, .int x0_isFault, .int x0_value, .ref b0_10, .int x0_tolds, .ref b0_12, .ref b0_13, .ref b0_14])), (a1, .inl (cI, 41, .inl f1)), (a2, .inl (cI, 246, .inl f2))] (some (.int rr)) (fun w => w = [(a0, .inr (5, [.ref a1, .ref b0_1, .ref a2, .int y0, .ref b0_4, .int x0_typed, .int y1, .int x0_at, .int x0_isFault, .int x0_value, .ref b0_10, .int x0_tolds, .ref b0_12, .ref b0_13, .ref b0_14])), (a1, .inl (cI, 41, .inl y2)), (a2, .inl (cI, 246, .inl f2))]) 0 0 := by
  refine g_entry (cc := cX5_undo) (nL := 1) (rt := (some .int)) (by decide) rfl (Nat.le_of_ble_eq_true rfl) ?_
  intro p e s m args below meth c A (X : GC p s m args c cX5_undo 1 RX5 wsX5_undo D (tyS cI cS cL) A) hr hlk _ _
  have h := hc
  unfold f_X5_undo at h
  refine g_lv (lv' := [(0, .ref a0)]) [0] rfl ?_
  refine g_aload_n X (j := 0) dX5_undo_0 rfl ?_
  refine g_iconst (v := 0) X dX5_undo_1 (by decide) ?_
  refine g_put (q0 := 0) (k := 6) (ci := 5) (ws' := [(a0, .inr (5, [.ref a1, .ref b0_1, .ref a2, .int x0_kept, .ref b0_4, .int x0_typed, .int 0, .int x0_at, .int x0_isFault, .int x0_value, .ref b0_10, .int x0_tolds, .ref b0_12, .ref b0_13, .ref b0_14])), (a1, .inl (cI, 41, .inl f1)), (a2, .inl (cI, 246, .inl f2))]) X tyX5_ok nmX5 in_X5_undo_X5 fl_X5_undo_38 rfl rfl (Nat.le_of_ble_eq_true rfl) rfl rfl rfl (Nat.le_of_ble_eq_true rfl) dX5_undo_2 rfl ?_
  refine g_aload_n X (j := 0) dX5_undo_5 rfl ?_
  refine g_get (q0 := 0) (k := 3) (ci := 5) X in_X5_undo_X5 fl_X5_undo_34 rfl rfl (Nat.le_of_ble_eq_true rfl) rfl dX5_undo_6 ?_
  refine g_if_ne (tgt := 18) X h dX5_undo_9 (by decide) (fun h => ?_) (fun h => ?_)
  · refine g_aload_n X (j := 0) dX5_undo_18 rfl ?_
    refine g_dup X dX5_undo_19 rfl ?_
    refine g_get (q0 := 0) (k := 3) (ci := 5) X in_X5_undo_X5 fl_X5_undo_34 rfl rfl (Nat.le_of_ble_eq_true rfl) rfl dX5_undo_20 ?_
    refine g_iconst (v := 1) X dX5_undo_23 (by decide) ?_
    refine g_isub X dX5_undo_24 ?_
    refine g_put (q0 := 0) (k := 3) (ci := 5) (ws' := [(a0, .inr (5, [.ref a1, .ref b0_1, .ref a2, .int (x0_kept - 1), .ref b0_4, .int x0_typed, .int 0, .int x0_at, .int x0_isFault, .int x0_value, .ref b0_10, .int x0_tolds, .ref b0_12, .ref b0_13, .ref b0_14])), (a1, .inl (cI, 41, .inl f1)), (a2, .inl (cI, 246, .inl f2))]) X tyX5_ok nmX5 in_X5_undo_X5 fl_X5_undo_34 rfl rfl (Nat.le_of_ble_eq_true rfl) rfl rfl rfl (Nat.le_of_ble_eq_true rfl) dX5_undo_25 rfl ?_
    refine g_aload_n X (j := 0) dX5_undo_28 rfl ?_
    refine g_get (q0 := 0) (k := 2) (ci := 5) X in_X5_undo_X5 fl_X5_undo_16 rfl rfl (Nat.le_of_ble_eq_true rfl) rfl dX5_undo_29 ?_
    refine g_bipush (v := 41) X dX5_undo_32 (by decide) ?_
    refine g_aload_n X (j := 0) dX5_undo_34 rfl ?_
    refine g_get (q0 := 0) (k := 3) (ci := 5) X in_X5_undo_X5 fl_X5_undo_34 rfl rfl (Nat.le_of_ble_eq_true rfl) rfl dX5_undo_35 ?_
    refine g_imul X dX5_undo_38 ?_
    refine g_aload_n X (j := 0) dX5_undo_39 rfl ?_
    refine g_get (q0 := 0) (k := 0) (ci := 5) X in_X5_undo_X5 fl_X5_undo_7 rfl rfl (Nat.le_of_ble_eq_true rfl) rfl dX5_undo_40 ?_
    refine g_iconst (v := 0) X dX5_undo_43 (by decide) ?_
    obtain ⟨o2, hc, h⟩ := bd1 h
    refine g_callS (is := [2, 1]) (As := [.ref a2, .int ((41 : Int32) * (x0_kept - 1)), .ref a1, .int 0]) (ws' := [(a0, .inr (5, [.ref a1, .ref b0_1, .ref a2, .int (x0_kept - 1), .ref b0_4, .int x0_typed, .int 0, .int x0_at, .int x0_isFault, .int x0_value, .ref b0_10, .int x0_tolds, .ref b0_12, .ref b0_13, .ref b0_14])), (a1, .inl (cI, 41, .inl o2)), (a2, .inl (cI, 246, .inl f2))]) (st := []) X (c_X5_copies l D cI cS cL a2 a1 ((41 : Int32) * (x0_kept - 1)) 0 246 f2 41 f1 o2 hc) gX5_undo_X5_copies rfl ⟨rfl, rfl⟩ hd_X5_copies.2 ⟨Nat.le_of_ble_eq_true rfl, Nat.le_of_ble_eq_true rfl⟩ ⟨Nat.zero_le _, Nat.zero_le _⟩ rfl rfl rfl rfl rfl (Nat.le_of_ble_eq_true rfl) rfl dX5_undo_44 ?_
    refine g_aload_n X (j := 0) dX5_undo_47 rfl ?_
    refine g_get (q0 := 0) (k := 3) (ci := 5) X in_X5_undo_X5 fl_X5_undo_34 rfl rfl (Nat.le_of_ble_eq_true rfl) rfl dX5_undo_48 ?_
    have h := Option.some.inj h
    simp only [Prod.mk.injEq] at h
    obtain ⟨rfl, rfl, rfl, rfl⟩ := h
    exact g_iret X hr hlk dX5_undo_51 rfl rfl
  · refine g_aload_n X (j := 0) dX5_undo_12 rfl ?_
    refine g_iconst (v := 1) X dX5_undo_13 (by decide) ?_
    obtain ⟨r3, o4, hc, h⟩ := bd2 h
    refine g_callV (q0 := 0) (ci := 5) (is := [0]) (As := [.int 1]) (ws' := [(a0, .inr (5, [.ref a1, .ref b0_1, .ref a2, .int x0_kept, .ref b0_4, .int x0_typed, .int o4, .int x0_at, .int x0_isFault, .int x0_value, .ref b0_10, .int x0_tolds, .ref b0_12, .ref b0_13, .ref b0_14])), (a1, .inl (cI, 41, .inl f1)), (a2, .inl (cI, 246, .inl f2))]) (st := []) X (c_X5_fails l D cI cS cL a0 a1 b0_1 a2 b0_4 b0_10 b0_12 b0_13 b0_14 1 x0_kept x0_typed 0 x0_at x0_isFault x0_value x0_tolds r3 o4 hc) gX5_undo_X5_fails rfl ⟨rfl, rfl⟩ hd_X5_fails ⟨Nat.le_of_ble_eq_true rfl, Nat.le_of_ble_eq_true rfl⟩ ⟨Nat.zero_le _, Nat.zero_le _⟩ rfl rfl rfl rfl rfl rfl rfl (Nat.le_of_ble_eq_true rfl) rfl dX5_undo_14 ?_
    have h := Option.some.inj h
    simp only [Prod.mk.injEq] at h
    obtain ⟨rfl, rfl, rfl, rfl⟩ := h
    exact g_iret X hr hlk dX5_undo_17 rfl rfl
def f_X5_isLess (p0 : Int32) (p1 : Int32) : Option (Int32) := (jn (u1 fun (s1 : Int32) => gB s1 (some s1)) (fun K2 => jn (u0 (K2 0)) (fun K3 => (if p0 = (-1) then K3 () else (if p1 = (-1) then K3 () else (if p1 ≤ p0 then K3 () else K2 1))))))
theorem hd_X5_isLess : yX5_isLess.cls = RX5 ∧ yX5_isLess.cls ≠ "java/lang/invoke/MethodHandle" ∧ yX5_isLess.cls ≠ "java/lang/invoke/VarHandle" ∧ (parseMethodDescriptor yX5_isLess.desc).map (fun d => d.parameters.length) = some 2 := by decide +kernel
set_option maxRecDepth 100000 in
set_option maxHeartbeats 4000000 in
theorem c_X5_isLess (l : Launch) (D : va_G) (cI cS cL : ClassId) (p0 : Int32) (p1 : Int32) (rr : Int32) (hc : f_X5_isLess p0 p1 = some rr) : KM l yX5_isLess wsX5_isLess { frames := 0, cells := 0, slots := 0, locals := 0 } D (tyS cI cS cL) [.int p0, .int p1] [] (some (.int rr)) (fun w => w = []) 0 0 := by
  refine g_entry (cc := cX5_isLess) (nL := 2) (rt := (some .boolean)) (by decide) rfl (Nat.le_of_ble_eq_true rfl) ?_
  intro p e s m args below meth c A (X : GC p s m args c cX5_isLess 2 RX5 wsX5_isLess D (tyS cI cS cL) A) hr hlk _ _
  have h := hc
  unfold f_X5_isLess at h
  refine g_lv (lv' := [(0, .int p0), (1, .int p1)]) [0, 1] rfl ?_
  refine g_iload_n X (j := 0) dX5_isLess_0 rfl ?_
  refine g_iconst (v := (-1)) X dX5_isLess_1 (by decide) ?_
  refine jn_g h (u1 fun s1 => []) (u1 fun s1 => []) (u1 fun s1 => [.int s1]) 20 ?_ ?_
  · rintro s1 h
    dsimp only [u1] at h ⊢
    obtain ⟨hz, h⟩ := gB_e h
    have h := Option.some.inj h
    subst h
    exact g_zret X hr hlk hz dX5_isLess_20 rfl rfl
  · intro K2 hK2 h
    refine jn_g h (u0 ([])) (u0 ([])) (u0 ([])) 19 ?_ ?_
    · rintro ⟨⟩ h
      dsimp only [u0] at h ⊢
      refine g_iconst (v := 0) X dX5_isLess_19 (by decide) ?_
      exact hK2 0 h
    · intro K3 hK3 h
      refine g_icmp_eq (tgt := 19) X h dX5_isLess_2 (by decide) (fun h => ?_) (fun h => ?_)
      · refine g_lv (lv' := []) [] rfl ?_
        exact hK3 () h
      · refine g_iload_n X (j := 1) dX5_isLess_5 rfl ?_
        refine g_iconst (v := (-1)) X dX5_isLess_6 (by decide) ?_
        refine g_icmp_eq (tgt := 19) X h dX5_isLess_7 (by decide) (fun h => ?_) (fun h => ?_)
        · refine g_lv (lv' := []) [] rfl ?_
          exact hK3 () h
        · refine g_iload_n X (j := 0) dX5_isLess_10 rfl ?_
          refine g_iload_n X (j := 1) dX5_isLess_11 rfl ?_
          refine g_icmp_ge (tgt := 19) X h dX5_isLess_12 (by decide) (fun h => ?_) (fun h => ?_)
          · refine g_lv (lv' := []) [] rfl ?_
            exact hK3 () h
          · refine g_iconst (v := 1) X dX5_isLess_15 (by decide) ?_
            refine g_goto (tgt := 20) X dX5_isLess_16 (by decide) ?_
            refine g_lv (lv' := []) [] rfl ?_
            exact hK2 1 h
def f_X5_by (p1 : Int32) (p2 : Int32) (n0 : Nat) (f0 : Nat → Int32) : Option (Int32) := (f_X5_of p1 3 n0 f0).bind (u1 fun (r1 : Int32) => (f_X5_of p2 3 n0 f0).bind (u1 fun (r2 : Int32) => (f_X5_isLess r1 r2).bind (u1 fun (r3 : Int32) => (jn (u1 fun (s4 : Int32) => (f_X5_of p1 0 n0 f0).bind (u1 fun (r6 : Int32) => (f_X5_of p2 0 n0 f0).bind (u1 fun (r7 : Int32) => (if r6 = r7 then (f_X5_of p2 1 n0 f0).bind (u1 fun (r8 : Int32) => (f_X5_of p1 1 n0 f0).bind (u1 fun (r9 : Int32) => (jn (u1 fun (s10 : Int32) => (f_X5_of p1 2 n0 f0).bind (u1 fun (r12 : Int32) => (f_X5_of p2 2 n0 f0).bind (u1 fun (r13 : Int32) => (f_X5_isLess r12 r13).bind (u1 fun (r14 : Int32) => (jn (u1 fun (s15 : Int32) => some ((s10 + s15) + s4)) (fun K16 => (if r14 = 0 then K16 0 else K16 2))))))) (fun K11 => (if (r8 &&& (r9 ^^^ (-1))) = 0 then K11 0 else K11 1))))) else some s4)))) (fun K5 => (if r3 = 0 then K5 0 else K5 4))))))
theorem hd_X5_by : yX5_by.cls = RX5 ∧ yX5_by.cls ≠ "java/lang/invoke/MethodHandle" ∧ yX5_by.cls ≠ "java/lang/invoke/VarHandle" ∧ (parseMethodDescriptor yX5_by.desc).map (fun d => d.parameters.length) = some 3 := by decide +kernel
set_option maxRecDepth 100000 in
set_option maxHeartbeats 4000000 in
theorem c_X5_by (l : Launch) (D : va_G) (cI cS cL : ClassId) (a0 : Nat) (p1 : Int32) (p2 : Int32) (n0 : Nat) (f0 : Nat → Int32) (rr : Int32) (hc : f_X5_by p1 p2 n0 f0 = some rr) : KM l yX5_by wsX5_by { frames := 1, cells := 0, slots := 0, locals := 22 } D (tyS cI cS cL) [.ref a0, .int p1, .int p2] [(a0, .inl (cI, n0, .inl f0))] (some (.int rr)) (fun w => w = [(a0, .inl (cI, n0, .inl f0))]) 0 0 := by
  refine g_entry (cc := cX5_by) (nL := 5) (rt := (some .int)) (by decide) rfl (Nat.le_of_ble_eq_true rfl) ?_
  intro p e s m args below meth c A (X : GC p s m args c cX5_by 5 RX5 wsX5_by D (tyS cI cS cL) A) hr hlk _ _
  have h := hc
  unfold f_X5_by at h
  refine g_lv (lv' := [(0, .ref a0), (1, .int p1), (2, .int p2)]) [0, 1, 2] rfl ?_
  refine g_aload_n X (j := 0) dX5_by_0 rfl ?_
  refine g_iload_n X (j := 1) dX5_by_1 rfl ?_
  refine g_iconst (v := 3) X dX5_by_2 (by decide) ?_
  obtain ⟨r1, hc, h⟩ := bd1 h
  refine g_callS (is := [0]) (As := [.ref a0, .int p1, .int 3]) (ws' := [(a0, .inl (cI, n0, .inl f0))]) (st := []) X (c_X5_of l D cI cS cL a0 p1 3 n0 f0 r1 hc) gX5_by_X5_of rfl ⟨rfl, rfl⟩ hd_X5_of.2 ⟨Nat.le_of_ble_eq_true rfl, Nat.le_of_ble_eq_true rfl⟩ ⟨Nat.zero_le _, Nat.zero_le _⟩ rfl rfl rfl rfl rfl (Nat.le_of_ble_eq_true rfl) rfl dX5_by_3 ?_
  refine g_aload_n X (j := 0) dX5_by_6 rfl ?_
  refine g_iload_n X (j := 2) dX5_by_7 rfl ?_
  refine g_iconst (v := 3) X dX5_by_8 (by decide) ?_
  obtain ⟨r2, hc, h⟩ := bd1 h
  refine g_callS (is := [0]) (As := [.ref a0, .int p2, .int 3]) (ws' := [(a0, .inl (cI, n0, .inl f0))]) (st := [.int r1]) X (c_X5_of l D cI cS cL a0 p2 3 n0 f0 r2 hc) gX5_by_X5_of rfl ⟨rfl, rfl⟩ hd_X5_of.2 ⟨Nat.le_of_ble_eq_true rfl, Nat.le_of_ble_eq_true rfl⟩ ⟨Nat.zero_le _, Nat.zero_le _⟩ rfl rfl rfl rfl rfl (Nat.le_of_ble_eq_true rfl) rfl dX5_by_9 ?_
  obtain ⟨r3, hc, h⟩ := bd1 h
  refine g_callS (is := []) (As := [.int r1, .int r2]) (ws' := [(a0, .inl (cI, n0, .inl f0))]) (st := []) X (c_X5_isLess l D cI cS cL r1 r2 r3 hc) gX5_by_X5_isLess rfl ⟨rfl, rfl⟩ hd_X5_isLess.2 ⟨Nat.le_of_ble_eq_true rfl, Nat.le_of_ble_eq_true rfl⟩ ⟨Nat.zero_le _, Nat.zero_le _⟩ rfl rfl rfl rfl rfl (Nat.le_of_ble_eq_true rfl) rfl dX5_by_12 ?_
  refine jn_g h (u1 fun s4 => [(a0, .inl (cI, n0, .inl f0))]) (u1 fun s4 => [(0, .ref a0), (1, .int p1), (2, .int p2)]) (u1 fun s4 => [.int s4]) 23 ?_ ?_
  · rintro s4 h
    dsimp only [u1] at h ⊢
    refine g_istore_n (lv' := [(3, .int s4), (0, .ref a0), (1, .int p1), (2, .int p2)]) X dX5_by_23 rfl (by decide) rfl ?_
    refine g_aload_n X (j := 1) dX5_by_24 rfl ?_
    refine g_iload_n X (j := 2) dX5_by_25 rfl ?_
    refine g_iconst (v := 0) X dX5_by_26 (by decide) ?_
    obtain ⟨r6, hc, h⟩ := bd1 h
    refine g_callS (is := [0]) (As := [.ref a0, .int p1, .int 0]) (ws' := [(a0, .inl (cI, n0, .inl f0))]) (st := []) X (c_X5_of l D cI cS cL a0 p1 0 n0 f0 r6 hc) gX5_by_X5_of rfl ⟨rfl, rfl⟩ hd_X5_of.2 ⟨Nat.le_of_ble_eq_true rfl, Nat.le_of_ble_eq_true rfl⟩ ⟨Nat.zero_le _, Nat.zero_le _⟩ rfl rfl rfl rfl rfl (Nat.le_of_ble_eq_true rfl) rfl dX5_by_27 ?_
    refine g_aload_n X (j := 1) dX5_by_30 rfl ?_
    refine g_iload_n X (j := 3) dX5_by_31 rfl ?_
    refine g_iconst (v := 0) X dX5_by_32 (by decide) ?_
    obtain ⟨r7, hc, h⟩ := bd1 h
    refine g_callS (is := [0]) (As := [.ref a0, .int p2, .int 0]) (ws' := [(a0, .inl (cI, n0, .inl f0))]) (st := [.int r6]) X (c_X5_of l D cI cS cL a0 p2 0 n0 f0 r7 hc) gX5_by_X5_of rfl ⟨rfl, rfl⟩ hd_X5_of.2 ⟨Nat.le_of_ble_eq_true rfl, Nat.le_of_ble_eq_true rfl⟩ ⟨Nat.zero_le _, Nat.zero_le _⟩ rfl rfl rfl rfl rfl (Nat.le_of_ble_eq_true rfl) rfl dX5_by_33 ?_
    refine g_icmp_eq (tgt := 41) X h dX5_by_36 (by decide) (fun h => ?_) (fun h => ?_)
    · refine g_aload_n X (j := 1) dX5_by_41 rfl ?_
      refine g_iload_n X (j := 3) dX5_by_42 rfl ?_
      refine g_iconst (v := 1) X dX5_by_43 (by decide) ?_
      obtain ⟨r8, hc, h⟩ := bd1 h
      refine g_callS (is := [0]) (As := [.ref a0, .int p2, .int 1]) (ws' := [(a0, .inl (cI, n0, .inl f0))]) (st := []) X (c_X5_of l D cI cS cL a0 p2 1 n0 f0 r8 hc) gX5_by_X5_of rfl ⟨rfl, rfl⟩ hd_X5_of.2 ⟨Nat.le_of_ble_eq_true rfl, Nat.le_of_ble_eq_true rfl⟩ ⟨Nat.zero_le _, Nat.zero_le _⟩ rfl rfl rfl rfl rfl (Nat.le_of_ble_eq_true rfl) rfl dX5_by_44 ?_
      refine g_aload_n X (j := 1) dX5_by_47 rfl ?_
      refine g_iload_n X (j := 2) dX5_by_48 rfl ?_
      refine g_iconst (v := 1) X dX5_by_49 (by decide) ?_
      obtain ⟨r9, hc, h⟩ := bd1 h
      refine g_callS (is := [0]) (As := [.ref a0, .int p1, .int 1]) (ws' := [(a0, .inl (cI, n0, .inl f0))]) (st := [.int r8]) X (c_X5_of l D cI cS cL a0 p1 1 n0 f0 r9 hc) gX5_by_X5_of rfl ⟨rfl, rfl⟩ hd_X5_of.2 ⟨Nat.le_of_ble_eq_true rfl, Nat.le_of_ble_eq_true rfl⟩ ⟨Nat.zero_le _, Nat.zero_le _⟩ rfl rfl rfl rfl rfl (Nat.le_of_ble_eq_true rfl) rfl dX5_by_50 ?_
      refine g_iconst (v := (-1)) X dX5_by_53 (by decide) ?_
      refine g_ixor X dX5_by_54 ?_
      refine g_iand X dX5_by_55 ?_
      refine jn_g h (u1 fun s10 => [(a0, .inl (cI, n0, .inl f0))]) (u1 fun s10 => [(0, .ref a0), (1, .int p1), (2, .int p2), (3, .int s4)]) (u1 fun s10 => [.int s10]) 64 ?_ ?_
      · rintro s10 h
        dsimp only [u1] at h ⊢
        refine g_istore (lv' := [(4, .int s10), (0, .ref a0), (1, .int p1), (2, .int p2), (3, .int s4)]) X dX5_by_64 (by decide) rfl ?_
        refine g_iload X (j := 0) dX5_by_66 rfl ?_
        refine g_aload_n X (j := 1) dX5_by_68 rfl ?_
        refine g_iload_n X (j := 2) dX5_by_69 rfl ?_
        refine g_iconst (v := 2) X dX5_by_70 (by decide) ?_
        obtain ⟨r12, hc, h⟩ := bd1 h
        refine g_callS (is := [0]) (As := [.ref a0, .int p1, .int 2]) (ws' := [(a0, .inl (cI, n0, .inl f0))]) (st := [.int s10]) X (c_X5_of l D cI cS cL a0 p1 2 n0 f0 r12 hc) gX5_by_X5_of rfl ⟨rfl, rfl⟩ hd_X5_of.2 ⟨Nat.le_of_ble_eq_true rfl, Nat.le_of_ble_eq_true rfl⟩ ⟨Nat.zero_le _, Nat.zero_le _⟩ rfl rfl rfl rfl rfl (Nat.le_of_ble_eq_true rfl) rfl dX5_by_71 ?_
        refine g_aload_n X (j := 1) dX5_by_74 rfl ?_
        refine g_iload_n X (j := 3) dX5_by_75 rfl ?_
        refine g_iconst (v := 2) X dX5_by_76 (by decide) ?_
        obtain ⟨r13, hc, h⟩ := bd1 h
        refine g_callS (is := [0]) (As := [.ref a0, .int p2, .int 2]) (ws' := [(a0, .inl (cI, n0, .inl f0))]) (st := [.int r12, .int s10]) X (c_X5_of l D cI cS cL a0 p2 2 n0 f0 r13 hc) gX5_by_X5_of rfl ⟨rfl, rfl⟩ hd_X5_of.2 ⟨Nat.le_of_ble_eq_true rfl, Nat.le_of_ble_eq_true rfl⟩ ⟨Nat.zero_le _, Nat.zero_le _⟩ rfl rfl rfl rfl rfl (Nat.le_of_ble_eq_true rfl) rfl dX5_by_77 ?_
        obtain ⟨r14, hc, h⟩ := bd1 h
        refine g_callS (is := []) (As := [.int r12, .int r13]) (ws' := [(a0, .inl (cI, n0, .inl f0))]) (st := [.int s10]) X (c_X5_isLess l D cI cS cL r12 r13 r14 hc) gX5_by_X5_isLess rfl ⟨rfl, rfl⟩ hd_X5_isLess.2 ⟨Nat.le_of_ble_eq_true rfl, Nat.le_of_ble_eq_true rfl⟩ ⟨Nat.zero_le _, Nat.zero_le _⟩ rfl rfl rfl rfl rfl (Nat.le_of_ble_eq_true rfl) rfl dX5_by_80 ?_
        refine jn_g h (u1 fun s15 => [(a0, .inl (cI, n0, .inl f0))]) (u1 fun s15 => [(3, .int s4)]) (u1 fun s15 => [.int s15, .int s10]) 91 ?_ ?_
        · rintro s15 h
          dsimp only [u1] at h ⊢
          refine g_iadd X dX5_by_91 ?_
          refine g_iload_n X (j := 0) dX5_by_92 rfl ?_
          refine g_iadd X dX5_by_93 ?_
          have h := Option.some.inj h
          subst h
          exact g_iret X hr hlk dX5_by_94 rfl rfl
        · intro K16 hK16 h
          refine g_if_eq (tgt := 90) X h dX5_by_83 (by decide) (fun h => ?_) (fun h => ?_)
          · refine g_iconst (v := 0) X dX5_by_90 (by decide) ?_
            refine g_lv (lv' := [(3, .int s4)]) [4] rfl ?_
            exact hK16 0 h
          · refine g_iconst (v := 2) X dX5_by_86 (by decide) ?_
            refine g_goto (tgt := 91) X dX5_by_87 (by decide) ?_
            refine g_lv (lv' := [(3, .int s4)]) [4] rfl ?_
            exact hK16 2 h
      · intro K11 hK11 h
        refine g_if_eq (tgt := 63) X h dX5_by_56 (by decide) (fun h => ?_) (fun h => ?_)
        · refine g_iconst (v := 0) X dX5_by_63 (by decide) ?_
          refine g_lv (lv' := [(0, .ref a0), (1, .int p1), (2, .int p2), (3, .int s4)]) [1, 2, 3, 0] rfl ?_
          exact hK11 0 h
        · refine g_iconst (v := 1) X dX5_by_59 (by decide) ?_
          refine g_goto (tgt := 64) X dX5_by_60 (by decide) ?_
          refine g_lv (lv' := [(0, .ref a0), (1, .int p1), (2, .int p2), (3, .int s4)]) [1, 2, 3, 0] rfl ?_
          exact hK11 1 h
    · refine g_iload_n X (j := 0) dX5_by_39 rfl ?_
      have h := Option.some.inj h
      subst h
      exact g_iret X hr hlk dX5_by_40 rfl rfl
  · intro K5 hK5 h
    refine g_if_eq (tgt := 22) X h dX5_by_15 (by decide) (fun h => ?_) (fun h => ?_)
    · refine g_iconst (v := 0) X dX5_by_22 (by decide) ?_
      exact hK5 0 h
    · refine g_iconst (v := 4) X dX5_by_18 (by decide) ?_
      refine g_goto (tgt := 23) X dX5_by_19 (by decide) ?_
      exact hK5 4 h
