set_option maxRecDepth 20000 in
theorem ggX4_datedShare_X4_currentReading : GoodIn wsX4_datedShare wsX4_currentReading := goodIn_r _ [7, 8, 9, 1, 10, 11, 12, 13, 14, 15, 16, 17, 18, 19, 20, 21, 22, 23, 24, 25, 26, 27, 28, 29, 30, 31, 32, 33, 34, 35, 36, 37, 38, 39, 40, 41, 42, 43, 44, 45, 46, 47, 48, 49, 50, 51, 52, 53, 54, 55, 56, 65, 66, 67, 68, 69, 70, 71, 72, 73, 74, 75, 76, 77, 78, 79, 80, 81, 82, 83, 84, 85, 86, 87, 88] (by decide +kernel) (by decide +kernel)
set_option maxRecDepth 20000 in
theorem gX4_datedShare_X4_currentReading : GoodIn wsX4_datedShare (wsV RX4 129 RX4 yX4_currentReading wsX4_currentReading) := goodIn_app (goodIn_of _ (by decide +kernel)) ggX4_datedShare_X4_currentReading
set_option maxRecDepth 20000 in
theorem ggX4_datedShare_X1_datedBooks : GoodIn wsX4_datedShare wsX1_datedBooks := goodIn_r _ [60, 16, 61, 62, 63, 13, 64, 55, 56, 79, 80, 81, 82, 83, 84, 85, 86, 87, 88] (by decide +kernel) (by decide +kernel)
set_option maxRecDepth 20000 in
theorem gX4_datedShare_X1_datedBooks : GoodIn wsX4_datedShare (wsV RX4 229 RX1 yX1_datedBooks wsX1_datedBooks) := goodIn_app (goodIn_of _ (by decide +kernel)) ggX4_datedShare_X1_datedBooks
theorem dX4_datedShare_0 : decode cX4_datedShare 0 = .ok (.aload_n 0, 1) := by decide +kernel
theorem dX4_datedShare_1 : decode cX4_datedShare 1 = .ok (.getfield 12, 3) := by decide +kernel
theorem dX4_datedShare_4 : decode cX4_datedShare 4 = .ok (.getfield 75, 3) := by decide +kernel
theorem dX4_datedShare_7 : decode cX4_datedShare 7 = .ok (.ifCond .ne 5, 3) := by decide +kernel
theorem dX4_datedShare_10 : decode cX4_datedShare 10 = .ok (.dconst 1, 1) := by decide +kernel
theorem dX4_datedShare_11 : decode cX4_datedShare 11 = .ok (.dreturn, 1) := by decide +kernel
theorem dX4_datedShare_12 : decode cX4_datedShare 12 = .ok (.aload_n 0, 1) := by decide +kernel
theorem dX4_datedShare_13 : decode cX4_datedShare 13 = .ok (.invokevirtual 129, 3) := by decide +kernel
theorem dX4_datedShare_16 : decode cX4_datedShare 16 = .ok (.invokevirtual 229, 3) := by decide +kernel
theorem dX4_datedShare_19 : decode cX4_datedShare 19 = .ok (.i2d, 1) := by decide +kernel
theorem dX4_datedShare_20 : decode cX4_datedShare 20 = .ok (.aload_n 0, 1) := by decide +kernel
theorem dX4_datedShare_21 : decode cX4_datedShare 21 = .ok (.getfield 12, 3) := by decide +kernel
theorem dX4_datedShare_24 : decode cX4_datedShare 24 = .ok (.getfield 75, 3) := by decide +kernel
theorem dX4_datedShare_27 : decode cX4_datedShare 27 = .ok (.i2d, 1) := by decide +kernel
theorem dX4_datedShare_28 : decode cX4_datedShare 28 = .ok (.ddiv, 1) := by decide +kernel
theorem dX4_datedShare_29 : decode cX4_datedShare 29 = .ok (.dreturn, 1) := by decide +kernel
theorem dX4_mixed_0 : decode cX4_mixed 0 = .ok (.ldc2_w 253, 3) := by decide +kernel
theorem dX4_mixed_3 : decode cX4_mixed 3 = .ok (.lload_n 0, 1) := by decide +kernel
theorem dX4_mixed_4 : decode cX4_mixed 4 = .ok (.lmul, 1) := by decide +kernel
theorem dX4_mixed_5 : decode cX4_mixed 5 = .ok (.lload_n 2, 1) := by decide +kernel
theorem dX4_mixed_6 : decode cX4_mixed 6 = .ok (.ladd, 1) := by decide +kernel
theorem dX4_mixed_7 : decode cX4_mixed 7 = .ok (.lreturn, 1) := by decide +kernel
set_option maxRecDepth 20000 in
theorem ggX4_withBooks_X4_numberOfBook : GoodIn wsX4_withBooks wsX4_numberOfBook := goodIn_r _ [7, 1, 8, 9, 10, 11, 12, 13, 14, 15, 16, 17, 18, 6, 19, 20, 21, 22, 23, 24, 25, 26, 27, 28, 29, 30, 31, 32, 33, 34, 35, 36, 37, 38, 39, 40, 41, 42, 43, 44, 45, 46, 47, 48, 49, 50, 51, 52, 53, 54, 55, 56, 57, 58, 59, 60, 61, 62, 63, 64, 65, 66, 67, 68, 69, 70, 71, 72, 73, 74, 75, 76, 77, 78, 79, 114, 115, 116, 117, 118, 119, 120, 121, 122, 123, 124, 125, 126, 127, 128, 129, 130, 131, 132, 133, 134, 135, 136, 137] (by decide +kernel) (by decide +kernel)
set_option maxRecDepth 20000 in
theorem gX4_withBooks_X4_numberOfBook : GoodIn wsX4_withBooks (wsV RX4 176 RX4 yX4_numberOfBook wsX4_numberOfBook) := goodIn_app (goodIn_of _ (by decide +kernel)) ggX4_withBooks_X4_numberOfBook
set_option maxRecDepth 20000 in
theorem ggX4_withBooks_X4_mixed : GoodIn wsX4_withBooks wsX4_mixed := goodIn_r _ [82, 83] (by decide +kernel) (by decide +kernel)
set_option maxRecDepth 20000 in
theorem gX4_withBooks_X4_mixed : GoodIn wsX4_withBooks (va_wsS RX4 234 yX4_mixed wsX4_mixed) := goodIn_app (goodIn_of _ (by decide +kernel)) ggX4_withBooks_X4_mixed
set_option maxRecDepth 20000 in
theorem ggX4_withBooks_X4_numberOfPlaces : GoodIn wsX4_withBooks wsX4_numberOfPlaces := goodIn_r _ [87, 16, 17, 18, 6, 19, 20, 21, 1, 22, 23, 24, 25, 26, 27, 28, 29, 30, 31, 32, 33, 34, 35, 36, 37, 38, 39, 40, 41, 42, 43, 44, 45, 46, 47, 48, 49, 50, 51, 52, 53, 54, 55, 56, 57, 58, 59, 60, 61, 62, 63, 64, 65, 66, 67, 68, 88, 89, 90, 91, 92, 70, 71, 72, 73, 74, 75, 93, 94, 95, 96, 97, 98, 99, 100, 101, 102, 103, 104, 105, 106, 107, 108, 109, 110, 111, 112, 113, 114, 115, 116, 117, 118, 119, 120, 121, 122, 123, 124, 125, 126, 127, 128, 129, 130, 131, 132, 133, 134, 135, 136, 137] (by decide +kernel) (by decide +kernel)
set_option maxRecDepth 20000 in
theorem gX4_withBooks_X4_numberOfPlaces : GoodIn wsX4_withBooks (wsV RX4 198 RX4 yX4_numberOfPlaces wsX4_numberOfPlaces) := goodIn_app (goodIn_of _ (by decide +kernel)) ggX4_withBooks_X4_numberOfPlaces
theorem dX4_withBooks_0 : decode cX4_withBooks 0 = .ok (.iconst 0, 1) := by decide +kernel
theorem dX4_withBooks_1 : decode cX4_withBooks 1 = .ok (.istore_n 3, 1) := by decide +kernel
theorem dX4_withBooks_2 : decode cX4_withBooks 2 = .ok (.iload_n 3, 1) := by decide +kernel
theorem dX4_withBooks_3 : decode cX4_withBooks 3 = .ok (.aload_n 0, 1) := by decide +kernel
theorem dX4_withBooks_4 : decode cX4_withBooks 4 = .ok (.getfield 12, 3) := by decide +kernel
theorem dX4_withBooks_7 : decode cX4_withBooks 7 = .ok (.getfield 75, 3) := by decide +kernel
theorem dX4_withBooks_10 : decode cX4_withBooks 10 = .ok (.if_icmp .ge 66, 3) := by decide +kernel
theorem dX4_withBooks_13 : decode cX4_withBooks 13 = .ok (.iconst 0, 1) := by decide +kernel
theorem dX4_withBooks_14 : decode cX4_withBooks 14 = .ok (.istore 4, 2) := by decide +kernel
theorem dX4_withBooks_16 : decode cX4_withBooks 16 = .ok (.iload 4, 2) := by decide +kernel
theorem dX4_withBooks_18 : decode cX4_withBooks 18 = .ok (.bipush 10, 2) := by decide +kernel
theorem dX4_withBooks_20 : decode cX4_withBooks 20 = .ok (.if_icmp .gt 22, 3) := by decide +kernel
theorem dX4_withBooks_23 : decode cX4_withBooks 23 = .ok (.lload_n 1, 1) := by decide +kernel
theorem dX4_withBooks_24 : decode cX4_withBooks 24 = .ok (.aload_n 0, 1) := by decide +kernel
theorem dX4_withBooks_25 : decode cX4_withBooks 25 = .ok (.iload_n 3, 1) := by decide +kernel
theorem dX4_withBooks_26 : decode cX4_withBooks 26 = .ok (.iload 4, 2) := by decide +kernel
theorem dX4_withBooks_28 : decode cX4_withBooks 28 = .ok (.invokevirtual 176, 3) := by decide +kernel
theorem dX4_withBooks_31 : decode cX4_withBooks 31 = .ok (.i2l, 1) := by decide +kernel
theorem dX4_withBooks_32 : decode cX4_withBooks 32 = .ok (.invokestatic 234, 3) := by decide +kernel
theorem dX4_withBooks_35 : decode cX4_withBooks 35 = .ok (.lstore_n 1, 1) := by decide +kernel
theorem dX4_withBooks_36 : decode cX4_withBooks 36 = .ok (.iinc 4 1, 3) := by decide +kernel
theorem dX4_withBooks_39 : decode cX4_withBooks 39 = .ok (.goto (-23), 3) := by decide +kernel
theorem dX4_withBooks_42 : decode cX4_withBooks 42 = .ok (.iconst 0, 1) := by decide +kernel
theorem dX4_withBooks_43 : decode cX4_withBooks 43 = .ok (.istore 4, 2) := by decide +kernel
theorem dX4_withBooks_45 : decode cX4_withBooks 45 = .ok (.iload 4, 2) := by decide +kernel
theorem dX4_withBooks_47 : decode cX4_withBooks 47 = .ok (.iconst 2, 1) := by decide +kernel
theorem dX4_withBooks_48 : decode cX4_withBooks 48 = .ok (.if_icmp .gt 22, 3) := by decide +kernel
theorem dX4_withBooks_51 : decode cX4_withBooks 51 = .ok (.lload_n 1, 1) := by decide +kernel
theorem dX4_withBooks_52 : decode cX4_withBooks 52 = .ok (.aload_n 0, 1) := by decide +kernel
theorem dX4_withBooks_53 : decode cX4_withBooks 53 = .ok (.iload_n 3, 1) := by decide +kernel
theorem dX4_withBooks_54 : decode cX4_withBooks 54 = .ok (.iload 4, 2) := by decide +kernel
theorem dX4_withBooks_56 : decode cX4_withBooks 56 = .ok (.invokevirtual 198, 3) := by decide +kernel
theorem dX4_withBooks_59 : decode cX4_withBooks 59 = .ok (.i2l, 1) := by decide +kernel
theorem dX4_withBooks_60 : decode cX4_withBooks 60 = .ok (.invokestatic 234, 3) := by decide +kernel
theorem dX4_withBooks_63 : decode cX4_withBooks 63 = .ok (.lstore_n 1, 1) := by decide +kernel
theorem dX4_withBooks_64 : decode cX4_withBooks 64 = .ok (.iinc 4 1, 3) := by decide +kernel
theorem dX4_withBooks_67 : decode cX4_withBooks 67 = .ok (.goto (-22), 3) := by decide +kernel
theorem dX4_withBooks_70 : decode cX4_withBooks 70 = .ok (.iinc 3 1, 3) := by decide +kernel
theorem dX4_withBooks_73 : decode cX4_withBooks 73 = .ok (.goto (-71), 3) := by decide +kernel
theorem dX4_withBooks_76 : decode cX4_withBooks 76 = .ok (.lload_n 1, 1) := by decide +kernel
theorem dX4_withBooks_77 : decode cX4_withBooks 77 = .ok (.lreturn, 1) := by decide +kernel
set_option maxRecDepth 20000 in
theorem ggX4_numberOfAll_X4_currentReading : GoodIn wsX4_numberOfAll wsX4_currentReading := goodIn_r _ [9, 10, 11, 1, 12, 13, 14, 15, 16, 17, 18, 19, 20, 21, 22, 23, 24, 25, 26, 27, 28, 29, 30, 31, 32, 33, 34, 35, 36, 37, 38, 39, 40, 41, 42, 43, 44, 45, 46, 47, 48, 49, 50, 51, 52, 53, 54, 55, 56, 57, 58, 108, 109, 110, 111, 112, 113, 114, 115, 116, 117, 118, 119, 120, 121, 124, 125, 126, 127, 128, 129, 130, 131, 132, 133] (by decide +kernel) (by decide +kernel)
set_option maxRecDepth 20000 in
theorem gX4_numberOfAll_X4_currentReading : GoodIn wsX4_numberOfAll (wsV RX4 129 RX4 yX4_currentReading wsX4_currentReading) := goodIn_app (goodIn_of _ (by decide +kernel)) ggX4_numberOfAll_X4_currentReading
set_option maxRecDepth 20000 in
theorem ggX4_numberOfAll_X1_datedBooks : GoodIn wsX4_numberOfAll wsX1_datedBooks := goodIn_r _ [62, 18, 63, 64, 65, 15, 66, 57, 58, 124, 125, 126, 127, 128, 129, 130, 131, 132, 133] (by decide +kernel) (by decide +kernel)
set_option maxRecDepth 20000 in
theorem gX4_numberOfAll_X1_datedBooks : GoodIn wsX4_numberOfAll (wsV RX4 229 RX1 yX1_datedBooks wsX1_datedBooks) := goodIn_app (goodIn_of _ (by decide +kernel)) ggX4_numberOfAll_X1_datedBooks
set_option maxRecDepth 20000 in
theorem ggX4_numberOfAll_X2_booksWithYear : GoodIn wsX4_numberOfAll wsX2_booksWithYear := goodIn_r _ [70, 71, 34, 117, 118, 119, 120, 121] (by decide +kernel) (by decide +kernel)
set_option maxRecDepth 20000 in
theorem gX4_numberOfAll_X2_booksWithYear : GoodIn wsX4_numberOfAll (wsV RX4 270 RX2 yX2_booksWithYear wsX2_booksWithYear) := goodIn_app (goodIn_of _ (by decide +kernel)) ggX4_numberOfAll_X2_booksWithYear
set_option maxRecDepth 20000 in
theorem ggX4_numberOfAll_X1_contradictingPairs : GoodIn wsX4_numberOfAll wsX1_contradictingPairs := goodIn_r _ [75, 18, 24, 25, 76, 77, 78, 79, 80, 81, 82, 124, 125, 126, 127, 128, 129, 130, 131, 132, 133] (by decide +kernel) (by decide +kernel)
set_option maxRecDepth 20000 in
theorem gX4_numberOfAll_X1_contradictingPairs : GoodIn wsX4_numberOfAll (wsV RX4 273 RX1 yX1_contradictingPairs wsX1_contradictingPairs) := goodIn_app (goodIn_of _ (by decide +kernel)) ggX4_numberOfAll_X1_contradictingPairs
set_option maxRecDepth 20000 in
theorem ggX4_numberOfAll_X1_orders : GoodIn wsX4_numberOfAll wsX1_orders := goodIn_r _ [86, 41, 87, 88, 89, 15, 90, 18, 91, 92, 93, 94, 19, 95, 96, 97, 98, 99, 24, 42, 43, 44, 124, 125, 126, 127, 128, 129, 130, 131, 132, 133] (by decide +kernel) (by decide +kernel)
set_option maxRecDepth 20000 in
theorem gX4_numberOfAll_X1_orders : GoodIn wsX4_numberOfAll (wsV RX4 217 RX1 yX1_orders wsX1_orders) := goodIn_app (goodIn_of _ (by decide +kernel)) ggX4_numberOfAll_X1_orders
set_option maxRecDepth 20000 in
theorem ggX4_numberOfAll_X1_orderedPairs : GoodIn wsX4_numberOfAll wsX1_orderedPairs := goodIn_r _ [103, 18, 24, 25, 76, 77, 78, 79, 80, 81, 82, 124, 125, 126, 127, 128, 129, 130, 131, 132, 133] (by decide +kernel) (by decide +kernel)
set_option maxRecDepth 20000 in
theorem gX4_numberOfAll_X1_orderedPairs : GoodIn wsX4_numberOfAll (wsV RX4 276 RX1 yX1_orderedPairs wsX1_orderedPairs) := goodIn_app (goodIn_of _ (by decide +kernel)) ggX4_numberOfAll_X1_orderedPairs
set_option maxRecDepth 20000 in
theorem ggX4_numberOfAll_X2_booksOfPress : GoodIn wsX4_numberOfAll wsX2_booksOfPress := goodIn_r _ [107, 71, 31, 117, 118, 119, 120, 121] (by decide +kernel) (by decide +kernel)
set_option maxRecDepth 20000 in
theorem gX4_numberOfAll_X2_booksOfPress : GoodIn wsX4_numberOfAll (wsV RX4 279 RX2 yX2_booksOfPress wsX2_booksOfPress) := goodIn_app (goodIn_of _ (by decide +kernel)) ggX4_numberOfAll_X2_booksOfPress
theorem dX4_numberOfAll_0 : decode cX4_numberOfAll 0 = .ok (.iload_n 1, 1) := by decide +kernel
theorem dX4_numberOfAll_1 : decode cX4_numberOfAll 1 = .ok (.tableswitch 99 0 6 #[43, 51, 59, 67, 75, 83, 91], 43) := by decide +kernel
theorem dX4_numberOfAll_44 : decode cX4_numberOfAll 44 = .ok (.aload_n 0, 1) := by decide +kernel
theorem dX4_numberOfAll_45 : decode cX4_numberOfAll 45 = .ok (.getfield 12, 3) := by decide +kernel
theorem dX4_numberOfAll_48 : decode cX4_numberOfAll 48 = .ok (.getfield 75, 3) := by decide +kernel
theorem dX4_numberOfAll_51 : decode cX4_numberOfAll 51 = .ok (.ireturn, 1) := by decide +kernel
theorem dX4_numberOfAll_52 : decode cX4_numberOfAll 52 = .ok (.aload_n 0, 1) := by decide +kernel
theorem dX4_numberOfAll_53 : decode cX4_numberOfAll 53 = .ok (.invokevirtual 129, 3) := by decide +kernel
theorem dX4_numberOfAll_56 : decode cX4_numberOfAll 56 = .ok (.invokevirtual 229, 3) := by decide +kernel
theorem dX4_numberOfAll_59 : decode cX4_numberOfAll 59 = .ok (.ireturn, 1) := by decide +kernel
theorem dX4_numberOfAll_60 : decode cX4_numberOfAll 60 = .ok (.aload_n 0, 1) := by decide +kernel
theorem dX4_numberOfAll_61 : decode cX4_numberOfAll 61 = .ok (.getfield 12, 3) := by decide +kernel
theorem dX4_numberOfAll_64 : decode cX4_numberOfAll 64 = .ok (.invokevirtual 270, 3) := by decide +kernel
theorem dX4_numberOfAll_67 : decode cX4_numberOfAll 67 = .ok (.ireturn, 1) := by decide +kernel
theorem dX4_numberOfAll_68 : decode cX4_numberOfAll 68 = .ok (.aload_n 0, 1) := by decide +kernel
theorem dX4_numberOfAll_69 : decode cX4_numberOfAll 69 = .ok (.invokevirtual 129, 3) := by decide +kernel
theorem dX4_numberOfAll_72 : decode cX4_numberOfAll 72 = .ok (.invokevirtual 273, 3) := by decide +kernel
theorem dX4_numberOfAll_75 : decode cX4_numberOfAll 75 = .ok (.ireturn, 1) := by decide +kernel
theorem dX4_numberOfAll_76 : decode cX4_numberOfAll 76 = .ok (.aload_n 0, 1) := by decide +kernel
theorem dX4_numberOfAll_77 : decode cX4_numberOfAll 77 = .ok (.invokevirtual 129, 3) := by decide +kernel
theorem dX4_numberOfAll_80 : decode cX4_numberOfAll 80 = .ok (.invokevirtual 217, 3) := by decide +kernel
theorem dX4_numberOfAll_83 : decode cX4_numberOfAll 83 = .ok (.ireturn, 1) := by decide +kernel
theorem dX4_numberOfAll_84 : decode cX4_numberOfAll 84 = .ok (.aload_n 0, 1) := by decide +kernel
theorem dX4_numberOfAll_85 : decode cX4_numberOfAll 85 = .ok (.invokevirtual 129, 3) := by decide +kernel
theorem dX4_numberOfAll_88 : decode cX4_numberOfAll 88 = .ok (.invokevirtual 276, 3) := by decide +kernel
theorem dX4_numberOfAll_91 : decode cX4_numberOfAll 91 = .ok (.ireturn, 1) := by decide +kernel
theorem dX4_numberOfAll_92 : decode cX4_numberOfAll 92 = .ok (.aload_n 0, 1) := by decide +kernel
theorem dX4_numberOfAll_93 : decode cX4_numberOfAll 93 = .ok (.getfield 22, 3) := by decide +kernel
theorem dX4_numberOfAll_96 : decode cX4_numberOfAll 96 = .ok (.getfield 168, 3) := by decide +kernel
theorem dX4_numberOfAll_99 : decode cX4_numberOfAll 99 = .ok (.ireturn, 1) := by decide +kernel
theorem dX4_numberOfAll_100 : decode cX4_numberOfAll 100 = .ok (.aload_n 0, 1) := by decide +kernel
theorem dX4_numberOfAll_101 : decode cX4_numberOfAll 101 = .ok (.getfield 12, 3) := by decide +kernel
theorem dX4_numberOfAll_104 : decode cX4_numberOfAll 104 = .ok (.iload_n 1, 1) := by decide +kernel
theorem dX4_numberOfAll_105 : decode cX4_numberOfAll 105 = .ok (.bipush 7, 2) := by decide +kernel
theorem dX4_numberOfAll_107 : decode cX4_numberOfAll 107 = .ok (.isub, 1) := by decide +kernel
theorem dX4_numberOfAll_108 : decode cX4_numberOfAll 108 = .ok (.invokevirtual 279, 3) := by decide +kernel
theorem dX4_numberOfAll_111 : decode cX4_numberOfAll 111 = .ok (.ireturn, 1) := by decide +kernel
set_option maxRecDepth 20000 in
theorem ggX4_numberOfPlaces_X4_currentReading : GoodIn wsX4_numberOfPlaces wsX4_currentReading := goodIn_r _ [5, 6, 7, 8, 9, 10, 11, 12, 13, 14, 15, 16, 17, 18, 19, 20, 21, 22, 23, 24, 25, 26, 27, 28, 29, 30, 31, 32, 33, 34, 35, 36, 37, 38, 39, 40, 41, 42, 43, 44, 45, 46, 47, 48, 49, 50, 51, 52, 53, 54, 55, 88, 89, 90, 91, 92, 93, 94, 95, 96, 97, 98, 99, 100, 101, 102, 103, 104, 105, 106, 107, 108, 109, 110, 111] (by decide +kernel) (by decide +kernel)
set_option maxRecDepth 20000 in
theorem gX4_numberOfPlaces_X4_currentReading : GoodIn wsX4_numberOfPlaces (wsV RX4 129 RX4 yX4_currentReading wsX4_currentReading) := goodIn_app (goodIn_of _ (by decide +kernel)) ggX4_numberOfPlaces_X4_currentReading
set_option maxRecDepth 20000 in
theorem ggX4_numberOfPlaces_X1_leastPlace : GoodIn wsX4_numberOfPlaces wsX1_leastPlace := goodIn_r _ [59, 38, 36, 60, 61, 62, 63, 64, 65, 66, 102, 103, 104, 105, 106, 107, 108, 109, 110, 111] (by decide +kernel) (by decide +kernel)
set_option maxRecDepth 20000 in
theorem gX4_numberOfPlaces_X1_leastPlace : GoodIn wsX4_numberOfPlaces (wsV RX4 282 RX1 yX1_leastPlace wsX1_leastPlace) := goodIn_app (goodIn_of _ (by decide +kernel)) ggX4_numberOfPlaces_X1_leastPlace
set_option maxRecDepth 20000 in
theorem ggX4_numberOfPlaces_X1_greatestPlace : GoodIn wsX4_numberOfPlaces wsX1_greatestPlace := goodIn_r _ [70, 38, 15, 37, 60, 61, 62, 63, 64, 65, 66, 102, 103, 104, 105, 106, 107, 108, 109, 110, 111] (by decide +kernel) (by decide +kernel)
set_option maxRecDepth 20000 in
theorem gX4_numberOfPlaces_X1_greatestPlace : GoodIn wsX4_numberOfPlaces (wsV RX4 285 RX1 yX1_greatestPlace wsX1_greatestPlace) := goodIn_app (goodIn_of _ (by decide +kernel)) ggX4_numberOfPlaces_X1_greatestPlace
set_option maxRecDepth 20000 in
theorem ggX4_numberOfPlaces_X1_ordersWithFirst : GoodIn wsX4_numberOfPlaces wsX1_ordersWithFirst := goodIn_r _ [74, 38, 21, 75, 76, 77, 12, 78, 15, 79, 80, 81, 82, 16, 83, 84, 85, 86, 87, 39, 40, 41, 102, 103, 104, 105, 106, 107, 108, 109, 110, 111] (by decide +kernel) (by decide +kernel)
set_option maxRecDepth 20000 in
theorem gX4_numberOfPlaces_X1_ordersWithFirst : GoodIn wsX4_numberOfPlaces (wsV RX4 288 RX1 yX1_ordersWithFirst wsX1_ordersWithFirst) := goodIn_app (goodIn_of _ (by decide +kernel)) ggX4_numberOfPlaces_X1_ordersWithFirst
theorem dX4_numberOfPlaces_0 : decode cX4_numberOfPlaces 0 = .ok (.iload_n 2, 1) := by decide +kernel
theorem dX4_numberOfPlaces_1 : decode cX4_numberOfPlaces 1 = .ok (.lookupswitch 45 #[(0, 27), (1, 36)], 27) := by decide +kernel
theorem dX4_numberOfPlaces_28 : decode cX4_numberOfPlaces 28 = .ok (.aload_n 0, 1) := by decide +kernel
theorem dX4_numberOfPlaces_29 : decode cX4_numberOfPlaces 29 = .ok (.invokevirtual 129, 3) := by decide +kernel
theorem dX4_numberOfPlaces_32 : decode cX4_numberOfPlaces 32 = .ok (.iload_n 1, 1) := by decide +kernel
theorem dX4_numberOfPlaces_33 : decode cX4_numberOfPlaces 33 = .ok (.invokevirtual 282, 3) := by decide +kernel
theorem dX4_numberOfPlaces_36 : decode cX4_numberOfPlaces 36 = .ok (.ireturn, 1) := by decide +kernel
theorem dX4_numberOfPlaces_37 : decode cX4_numberOfPlaces 37 = .ok (.aload_n 0, 1) := by decide +kernel
theorem dX4_numberOfPlaces_38 : decode cX4_numberOfPlaces 38 = .ok (.invokevirtual 129, 3) := by decide +kernel
theorem dX4_numberOfPlaces_41 : decode cX4_numberOfPlaces 41 = .ok (.iload_n 1, 1) := by decide +kernel
theorem dX4_numberOfPlaces_42 : decode cX4_numberOfPlaces 42 = .ok (.invokevirtual 285, 3) := by decide +kernel
theorem dX4_numberOfPlaces_45 : decode cX4_numberOfPlaces 45 = .ok (.ireturn, 1) := by decide +kernel
theorem dX4_numberOfPlaces_46 : decode cX4_numberOfPlaces 46 = .ok (.aload_n 0, 1) := by decide +kernel
theorem dX4_numberOfPlaces_47 : decode cX4_numberOfPlaces 47 = .ok (.invokevirtual 129, 3) := by decide +kernel
theorem dX4_numberOfPlaces_50 : decode cX4_numberOfPlaces 50 = .ok (.iload_n 1, 1) := by decide +kernel
theorem dX4_numberOfPlaces_51 : decode cX4_numberOfPlaces 51 = .ok (.invokevirtual 288, 3) := by decide +kernel
theorem dX4_numberOfPlaces_54 : decode cX4_numberOfPlaces 54 = .ok (.ireturn, 1) := by decide +kernel
set_option maxRecDepth 20000 in
theorem ggX4_numberIfYear_X2_copyFrom : GoodIn wsX4_numberIfYear wsX2_copyFrom := goodIn_r _ [9, 10, 11, 12, 8, 13, 14, 15, 16, 17, 18, 19, 20, 21, 22, 23, 24, 25, 26, 103, 104, 105, 106, 107] (by decide +kernel) (by decide +kernel)
set_option maxRecDepth 20000 in
theorem gX4_numberIfYear_X2_copyFrom : GoodIn wsX4_numberIfYear (wsV RX4 291 RX2 yX2_copyFrom wsX2_copyFrom) := goodIn_app (goodIn_of _ (by decide +kernel)) ggX4_numberIfYear_X2_copyFrom
set_option maxRecDepth 20000 in
theorem ggX4_numberIfYear_X1_read : GoodIn wsX4_numberIfYear wsX1_read := goodIn_r _ [31, 32, 33, 34, 35, 36, 37, 30, 38, 39, 40, 41, 42, 43, 8, 44, 19, 20, 21, 22, 45, 46, 47, 48, 49, 50, 51, 52, 53, 54, 55, 56, 57, 58, 59, 60, 61, 62, 63, 64, 65, 66, 67, 68, 103, 104, 105, 106, 107, 108, 109, 110, 111, 112, 113, 114, 115, 116, 117] (by decide +kernel) (by decide +kernel)
set_option maxRecDepth 20000 in
theorem gX4_numberIfYear_X1_read : GoodIn wsX4_numberIfYear (wsV RX4 294 RX1 yX1_read wsX1_read) := goodIn_app (goodIn_of _ (by decide +kernel)) ggX4_numberIfYear_X1_read
set_option maxRecDepth 20000 in
theorem ggX4_numberIfYear_X1_orders : GoodIn wsX4_numberIfYear wsX1_orders := goodIn_r _ [72, 51, 73, 74, 75, 30, 76, 33, 77, 78, 79, 80, 34, 81, 82, 83, 84, 85, 39, 52, 53, 54, 108, 109, 110, 111, 112, 113, 114, 115, 116, 117] (by decide +kernel) (by decide +kernel)
set_option maxRecDepth 20000 in
theorem gX4_numberIfYear_X1_orders : GoodIn wsX4_numberIfYear (wsV RX4 217 RX1 yX1_orders wsX1_orders) := goodIn_app (goodIn_of _ (by decide +kernel)) ggX4_numberIfYear_X1_orders
set_option maxRecDepth 20000 in
theorem ggX4_numberIfYear_X1_datedBooks : GoodIn wsX4_numberIfYear wsX1_datedBooks := goodIn_r _ [89, 33, 90, 91, 92, 30, 93, 67, 68, 108, 109, 110, 111, 112, 113, 114, 115, 116, 117] (by decide +kernel) (by decide +kernel)
set_option maxRecDepth 20000 in
theorem gX4_numberIfYear_X1_datedBooks : GoodIn wsX4_numberIfYear (wsV RX4 229 RX1 yX1_datedBooks wsX1_datedBooks) := goodIn_app (goodIn_of _ (by decide +kernel)) ggX4_numberIfYear_X1_datedBooks
theorem dX4_numberIfYear_0 : decode cX4_numberIfYear 0 = .ok (.aload_n 0, 1) := by decide +kernel
theorem dX4_numberIfYear_1 : decode cX4_numberIfYear 1 = .ok (.getfield 16, 3) := by decide +kernel
theorem dX4_numberIfYear_4 : decode cX4_numberIfYear 4 = .ok (.aload_n 0, 1) := by decide +kernel
theorem dX4_numberIfYear_5 : decode cX4_numberIfYear 5 = .ok (.getfield 12, 3) := by decide +kernel
theorem dX4_numberIfYear_8 : decode cX4_numberIfYear 8 = .ok (.invokevirtual 291, 3) := by decide +kernel
theorem dX4_numberIfYear_11 : decode cX4_numberIfYear 11 = .ok (.aload_n 0, 1) := by decide +kernel
theorem dX4_numberIfYear_12 : decode cX4_numberIfYear 12 = .ok (.getfield 16, 3) := by decide +kernel
theorem dX4_numberIfYear_15 : decode cX4_numberIfYear 15 = .ok (.getfield 121, 3) := by decide +kernel
theorem dX4_numberIfYear_18 : decode cX4_numberIfYear 18 = .ok (.iload_n 1, 1) := by decide +kernel
theorem dX4_numberIfYear_19 : decode cX4_numberIfYear 19 = .ok (.iload_n 2, 1) := by decide +kernel
theorem dX4_numberIfYear_20 : decode cX4_numberIfYear 20 = .ok (.iastore, 1) := by decide +kernel
theorem dX4_numberIfYear_21 : decode cX4_numberIfYear 21 = .ok (.aload_n 0, 1) := by decide +kernel
theorem dX4_numberIfYear_22 : decode cX4_numberIfYear 22 = .ok (.getfield 33, 3) := by decide +kernel
theorem dX4_numberIfYear_25 : decode cX4_numberIfYear 25 = .ok (.aload_n 0, 1) := by decide +kernel
theorem dX4_numberIfYear_26 : decode cX4_numberIfYear 26 = .ok (.getfield 16, 3) := by decide +kernel
theorem dX4_numberIfYear_29 : decode cX4_numberIfYear 29 = .ok (.invokevirtual 294, 3) := by decide +kernel
theorem dX4_numberIfYear_32 : decode cX4_numberIfYear 32 = .ok (.iload_n 3, 1) := by decide +kernel
theorem dX4_numberIfYear_33 : decode cX4_numberIfYear 33 = .ok (.ifCond .ne 13, 3) := by decide +kernel
theorem dX4_numberIfYear_36 : decode cX4_numberIfYear 36 = .ok (.aload_n 0, 1) := by decide +kernel
theorem dX4_numberIfYear_37 : decode cX4_numberIfYear 37 = .ok (.getfield 33, 3) := by decide +kernel
theorem dX4_numberIfYear_40 : decode cX4_numberIfYear 40 = .ok (.invokevirtual 217, 3) := by decide +kernel
theorem dX4_numberIfYear_43 : decode cX4_numberIfYear 43 = .ok (.goto 10, 3) := by decide +kernel
theorem dX4_numberIfYear_46 : decode cX4_numberIfYear 46 = .ok (.aload_n 0, 1) := by decide +kernel
theorem dX4_numberIfYear_47 : decode cX4_numberIfYear 47 = .ok (.getfield 33, 3) := by decide +kernel
theorem dX4_numberIfYear_50 : decode cX4_numberIfYear 50 = .ok (.invokevirtual 229, 3) := by decide +kernel
theorem dX4_numberIfYear_53 : decode cX4_numberIfYear 53 = .ok (.ireturn, 1) := by decide +kernel
set_option maxRecDepth 20000 in
theorem ggX4_ordersWithoutLetter_X2_copyFrom : GoodIn wsX4_ordersWithoutLetter wsX2_copyFrom := goodIn_r _ [9, 10, 11, 12, 8, 13, 14, 15, 16, 17, 18, 19, 20, 21, 22, 23, 24, 25, 26, 99, 100, 101, 102, 103] (by decide +kernel) (by decide +kernel)
set_option maxRecDepth 20000 in
theorem gX4_ordersWithoutLetter_X2_copyFrom : GoodIn wsX4_ordersWithoutLetter (wsV RX4 291 RX2 yX2_copyFrom wsX2_copyFrom) := goodIn_app (goodIn_of _ (by decide +kernel)) ggX4_ordersWithoutLetter_X2_copyFrom
set_option maxRecDepth 20000 in
theorem ggX4_ordersWithoutLetter_X2_show : GoodIn wsX4_ordersWithoutLetter wsX2_show := goodIn_r _ [30, 20, 99, 100, 101, 102, 103] (by decide +kernel) (by decide +kernel)
set_option maxRecDepth 20000 in
theorem gX4_ordersWithoutLetter_X2_show : GoodIn wsX4_ordersWithoutLetter (wsV RX4 110 RX2 yX2_show wsX2_show) := goodIn_app (goodIn_of _ (by decide +kernel)) ggX4_ordersWithoutLetter_X2_show
set_option maxRecDepth 20000 in
theorem ggX4_ordersWithoutLetter_X1_read : GoodIn wsX4_ordersWithoutLetter wsX1_read := goodIn_r _ [35, 36, 37, 38, 39, 40, 41, 34, 42, 43, 44, 45, 46, 47, 8, 48, 19, 20, 21, 22, 49, 50, 51, 52, 53, 54, 55, 56, 57, 58, 59, 60, 61, 62, 63, 64, 65, 66, 67, 68, 69, 70, 71, 72, 99, 100, 101, 102, 103, 104, 105, 106, 107, 108, 109, 110, 111, 112, 113] (by decide +kernel) (by decide +kernel)
set_option maxRecDepth 20000 in
theorem gX4_ordersWithoutLetter_X1_read : GoodIn wsX4_ordersWithoutLetter (wsV RX4 294 RX1 yX1_read wsX1_read) := goodIn_app (goodIn_of _ (by decide +kernel)) ggX4_ordersWithoutLetter_X1_read
set_option maxRecDepth 20000 in
theorem ggX4_ordersWithoutLetter_X1_orders : GoodIn wsX4_ordersWithoutLetter wsX1_orders := goodIn_r _ [76, 55, 77, 78, 79, 34, 80, 37, 81, 82, 83, 84, 38, 85, 86, 87, 88, 89, 43, 56, 57, 58, 104, 105, 106, 107, 108, 109, 110, 111, 112, 113] (by decide +kernel) (by decide +kernel)
set_option maxRecDepth 20000 in
theorem gX4_ordersWithoutLetter_X1_orders : GoodIn wsX4_ordersWithoutLetter (wsV RX4 217 RX1 yX1_orders wsX1_orders) := goodIn_app (goodIn_of _ (by decide +kernel)) ggX4_ordersWithoutLetter_X1_orders
theorem dX4_ordersWithoutLetter_0 : decode cX4_ordersWithoutLetter 0 = .ok (.aload_n 0, 1) := by decide +kernel
theorem dX4_ordersWithoutLetter_1 : decode cX4_ordersWithoutLetter 1 = .ok (.getfield 16, 3) := by decide +kernel
theorem dX4_ordersWithoutLetter_4 : decode cX4_ordersWithoutLetter 4 = .ok (.aload_n 0, 1) := by decide +kernel
theorem dX4_ordersWithoutLetter_5 : decode cX4_ordersWithoutLetter 5 = .ok (.getfield 12, 3) := by decide +kernel
theorem dX4_ordersWithoutLetter_8 : decode cX4_ordersWithoutLetter 8 = .ok (.invokevirtual 291, 3) := by decide +kernel
theorem dX4_ordersWithoutLetter_11 : decode cX4_ordersWithoutLetter 11 = .ok (.iconst 0, 1) := by decide +kernel
theorem dX4_ordersWithoutLetter_12 : decode cX4_ordersWithoutLetter 12 = .ok (.istore_n 2, 1) := by decide +kernel
theorem dX4_ordersWithoutLetter_13 : decode cX4_ordersWithoutLetter 13 = .ok (.iload_n 2, 1) := by decide +kernel
theorem dX4_ordersWithoutLetter_14 : decode cX4_ordersWithoutLetter 14 = .ok (.aload_n 0, 1) := by decide +kernel
theorem dX4_ordersWithoutLetter_15 : decode cX4_ordersWithoutLetter 15 = .ok (.getfield 16, 3) := by decide +kernel
theorem dX4_ordersWithoutLetter_18 : decode cX4_ordersWithoutLetter 18 = .ok (.getfield 75, 3) := by decide +kernel
theorem dX4_ordersWithoutLetter_21 : decode cX4_ordersWithoutLetter 21 = .ok (.if_icmp .ge 19, 3) := by decide +kernel
theorem dX4_ordersWithoutLetter_24 : decode cX4_ordersWithoutLetter 24 = .ok (.aload_n 0, 1) := by decide +kernel
theorem dX4_ordersWithoutLetter_25 : decode cX4_ordersWithoutLetter 25 = .ok (.getfield 16, 3) := by decide +kernel
theorem dX4_ordersWithoutLetter_28 : decode cX4_ordersWithoutLetter 28 = .ok (.iload_n 2, 1) := by decide +kernel
theorem dX4_ordersWithoutLetter_29 : decode cX4_ordersWithoutLetter 29 = .ok (.iload_n 1, 1) := by decide +kernel
theorem dX4_ordersWithoutLetter_30 : decode cX4_ordersWithoutLetter 30 = .ok (.iconst 0, 1) := by decide +kernel
theorem dX4_ordersWithoutLetter_31 : decode cX4_ordersWithoutLetter 31 = .ok (.invokevirtual 110, 3) := by decide +kernel
theorem dX4_ordersWithoutLetter_34 : decode cX4_ordersWithoutLetter 34 = .ok (.iinc 2 1, 3) := by decide +kernel
theorem dX4_ordersWithoutLetter_37 : decode cX4_ordersWithoutLetter 37 = .ok (.goto (-24), 3) := by decide +kernel
theorem dX4_ordersWithoutLetter_40 : decode cX4_ordersWithoutLetter 40 = .ok (.aload_n 0, 1) := by decide +kernel
theorem dX4_ordersWithoutLetter_41 : decode cX4_ordersWithoutLetter 41 = .ok (.getfield 33, 3) := by decide +kernel
theorem dX4_ordersWithoutLetter_44 : decode cX4_ordersWithoutLetter 44 = .ok (.aload_n 0, 1) := by decide +kernel
theorem dX4_ordersWithoutLetter_45 : decode cX4_ordersWithoutLetter 45 = .ok (.getfield 16, 3) := by decide +kernel
theorem dX4_ordersWithoutLetter_48 : decode cX4_ordersWithoutLetter 48 = .ok (.invokevirtual 294, 3) := by decide +kernel
theorem dX4_ordersWithoutLetter_51 : decode cX4_ordersWithoutLetter 51 = .ok (.aload_n 0, 1) := by decide +kernel
theorem dX4_ordersWithoutLetter_52 : decode cX4_ordersWithoutLetter 52 = .ok (.getfield 33, 3) := by decide +kernel
theorem dX4_ordersWithoutLetter_55 : decode cX4_ordersWithoutLetter 55 = .ok (.invokevirtual 217, 3) := by decide +kernel
theorem dX4_ordersWithoutLetter_58 : decode cX4_ordersWithoutLetter 58 = .ok (.ireturn, 1) := by decide +kernel
def f_X4_numberOfAll (p1 : Int32) (x0_isReadingOld : Int32) (x1_size : Int32) (f2 : Nat → Int32) (f3 : Nat → Int32) (f4 : Nat → Int32) (f5 : Nat → Int32) (x6_size : Int32) (x7_areOrdersCounted : Int32) (x7_isAnyOrder : Int32) (x7_size : Int32) (f8 : Nat → Int32) (f9 : Nat → Int32) (f10 : Nat → Int32) (f11 : Nat → Int32) (f12 : Nat → Int32) (f13 : Nat → Int32) (f14 : Nat → Int32) : Option (Int32 × Int32 × Int32 × Int32 × Int32 × (Nat → Int32) × (Nat → Int32) × (Nat → Int32) × (Nat → Int32) × (Nat → Int32) × (Nat → Int32) × (Nat → Int32)) := (if p1 < 0 ∨ 6 < p1 then (f_X2_booksOfPress (p1 - 7) x1_size f2).bind (u1 fun (r1 : Int32) => some (r1, x0_isReadingOld, x7_areOrdersCounted, x7_isAnyOrder, x7_size, f8, f9, f10, f11, f12, f13, f14)) else (if p1 = 0 then some (x1_size, x0_isReadingOld, x7_areOrdersCounted, x7_isAnyOrder, x7_size, f8, f9, f10, f11, f12, f13, f14) else (if p1 = 1 then (f_X4_currentReading x0_isReadingOld x1_size f2 f3 f4 f5 x7_areOrdersCounted x7_isAnyOrder x7_size f8 f9 f10 f11 f12 f13).bind (u10 fun (o3 : Int32) (o4 : Int32) (o5 : Int32) (o6 : Int32) (o7 : Nat → Int32) (o8 : Nat → Int32) (o9 : Nat → Int32) (o10 : Nat → Int32) (o11 : Nat → Int32) (o12 : Nat → Int32) => (f_X1_datedBooks o6 o9 o10).bind (u1 fun (r13 : Int32) => some (r13, o3, o4, o5, o6, o7, o8, o9, o10, o11, o12, f14))) else (if p1 = 2 then (f_X2_booksWithYear x1_size f5).bind (u1 fun (r14 : Int32) => some (r14, x0_isReadingOld, x7_areOrdersCounted, x7_isAnyOrder, x7_size, f8, f9, f10, f11, f12, f13, f14)) else (if p1 = 3 then (f_X4_currentReading x0_isReadingOld x1_size f2 f3 f4 f5 x7_areOrdersCounted x7_isAnyOrder x7_size f8 f9 f10 f11 f12 f13).bind (u10 fun (o16 : Int32) (o17 : Int32) (o18 : Int32) (o19 : Int32) (o20 : Nat → Int32) (o21 : Nat → Int32) (o22 : Nat → Int32) (o23 : Nat → Int32) (o24 : Nat → Int32) (o25 : Nat → Int32) => (f_X1_contradictingPairs o19 o20 o21).bind (u1 fun (r26 : Int32) => some (r26, o16, o17, o18, o19, o20, o21, o22, o23, o24, o25, f14))) else (if p1 = 4 then (f_X4_currentReading x0_isReadingOld x1_size f2 f3 f4 f5 x7_areOrdersCounted x7_isAnyOrder x7_size f8 f9 f10 f11 f12 f13).bind (u10 fun (o28 : Int32) (o29 : Int32) (o30 : Int32) (o31 : Int32) (o32 : Nat → Int32) (o33 : Nat → Int32) (o34 : Nat → Int32) (o35 : Nat → Int32) (o36 : Nat → Int32) (o37 : Nat → Int32) => (f_X1_orders o29 o30 o31 o32 f14).bind (u3 fun (r38 : Int32) (o39 : Int32) (o40 : Nat → Int32) => some (r38, o28, o39, o30, o31, o32, o33, o34, o35, o36, o37, o40))) else (if p1 = 5 then (f_X4_currentReading x0_isReadingOld x1_size f2 f3 f4 f5 x7_areOrdersCounted x7_isAnyOrder x7_size f8 f9 f10 f11 f12 f13).bind (u10 fun (o42 : Int32) (o43 : Int32) (o44 : Int32) (o45 : Int32) (o46 : Nat → Int32) (o47 : Nat → Int32) (o48 : Nat → Int32) (o49 : Nat → Int32) (o50 : Nat → Int32) (o51 : Nat → Int32) => (f_X1_orderedPairs o45 o46 o47).bind (u1 fun (r52 : Int32) => some (r52, o42, o43, o44, o45, o46, o47, o48, o49, o50, o51, f14))) else (if p1 = 6 then some (x6_size, x0_isReadingOld, x7_areOrdersCounted, x7_isAnyOrder, x7_size, f8, f9, f10, f11, f12, f13, f14) else none))))))))
theorem in_X4_numberOfAll_X4 : ∀ w ∈ wsX40, w ∈ wsX4_numberOfAll := by decide +kernel
theorem fl_X4_numberOfAll_12 : Cond.fieldLink RX4 12 "ColophonHunt" "shelf" "LColophonHunt$Shelf;" ∈ wsX4_numberOfAll := by decide +kernel
theorem in_X4_numberOfAll_X2 : ∀ w ∈ wsX20, w ∈ wsX4_numberOfAll := by decide +kernel
theorem fl_X4_numberOfAll_75 : Cond.fieldLink RX4 75 "ColophonHunt$Shelf" "size" "I" ∈ wsX4_numberOfAll := by decide +kernel
theorem fl_X4_numberOfAll_22 : Cond.fieldLink RX4 22 "ColophonHunt" "history" "LColophonHunt$History;" ∈ wsX4_numberOfAll := by decide +kernel
theorem in_X4_numberOfAll_X0 : ∀ w ∈ wsX00, w ∈ wsX4_numberOfAll := by decide +kernel
theorem fl_X4_numberOfAll_168 : Cond.fieldLink RX4 168 "ColophonHunt$History" "size" "I" ∈ wsX4_numberOfAll := by decide +kernel
theorem hd_X4_numberOfAll : yX4_numberOfAll.cls = RX4 ∧ yX4_numberOfAll.cls ≠ "java/lang/invoke/MethodHandle" ∧ yX4_numberOfAll.cls ≠ "java/lang/invoke/VarHandle" ∧ (parseMethodDescriptor yX4_numberOfAll.desc).map (fun d => d.parameters.length) = some 1 := by decide +kernel
set_option maxRecDepth 100000 in
set_option maxHeartbeats 4000000 in
theorem c_X4_numberOfAll (l : Launch) (D : va_G) (cI cS cL : ClassId) (a0 : Nat) (a1 : Nat) (a2 : Nat) (a3 : Nat) (a4 : Nat) (a5 : Nat) (a6 : Nat) (a7 : Nat) (a8 : Nat) (a9 : Nat) (a10 : Nat) (a11 : Nat) (a12 : Nat) (a13 : Nat) (a14 : Nat) (b0_1 : Nat) (b0_4 : Nat) (b0_5 : Nat) (b0_6 : Nat) (b6_0 : Nat) (p1 : Int32) (x0_length : Int32) (x0_isReadingOld : Int32) (x1_size : Int32) (f2 : Nat → Int32) (f3 : Nat → Int32) (f4 : Nat → Int32) (f5 : Nat → Int32) (x6_size : Int32) (x7_areOrdersCounted : Int32) (x7_isAnyOrder : Int32) (x7_size : Int32) (f8 : Nat → Int32) (f9 : Nat → Int32) (f10 : Nat → Int32) (f11 : Nat → Int32) (f12 : Nat → Int32) (f13 : Nat → Int32) (f14 : Nat → Int32) (rr : Int32) (y0 : Int32) (y1 : Int32) (y2 : Int32) (y3 : Int32) (y4 : Nat → Int32) (y5 : Nat → Int32) (y6 : Nat → Int32) (y7 : Nat → Int32) (y8 : Nat → Int32) (y9 : Nat → Int32) (y10 : Nat → Int32) (hc : f_X4_numberOfAll p1 x0_isReadingOld x1_size f2 f3 f4 f5 x6_size x7_areOrdersCounted x7_isAnyOrder x7_size f8 f9 f10 f11 f12 f13 f14 = some (rr, y0, y1, y2, y3, y4, y5, y6, y7, y8, y9, y10)) : KM l yX4_numberOfAll wsX4_numberOfAll { frames := 4, cells := 0, slots := 0, locals := 88 } D (tyS cI cS cL) [.ref a0, .int p1] [(a0, .inr (4, [.ref a1, .ref b0_1, .ref a6, .ref a7, .ref b0_4, .ref b0_5, .ref b0_6, .int x0_length, .int x0_isReadingOld])), (a1, .inr (2, [.ref a2, .ref a3, .ref a4, .ref a5, .int x1_size])), (a2, .inl (cI, 10, .inl f2)), (a3, .inl (cI, 10, .inl f3)), (a4, .inl (cI, 10, .inl f4)), (a5, .inl (cI, 10, .inl f5)), (a6, .inr (0, [.ref b6_0, .int x6_size])), (a7, .inr (1, [.ref a8, .ref a9, .ref a10, .ref a11, .ref a12, .ref a13, .ref a14, .int x7_areOrdersCounted, .int x7_isAnyOrder, .int x7_size])), (a8, .inl (cI, 10, .inl f8)), (a9, .inl (cI, 10, .inl f9)), (a10, .inl (cI, 10, .inl f10)), (a11, .inl (cI, 10, .inl f11)), (a12, .inl (cI, 10, .inl f12)), (a13, .inl (cI, 10, .inl f13)), (a14, .inl (cI, 1024, .inl f14))] (some (.int rr)) (fun w => w = [(a0, .inr (4, [.ref a1, .ref b0_1, .ref a6, .ref a7, .ref b0_4, .ref b0_5, .ref b0_6, .int x0_length, .int y0])), (a1, .inr (2, [.ref a2, .ref a3, .ref a4, .ref a5, .int x1_size])), (a2, .inl (cI, 10, .inl f2)), (a3, .inl (cI, 10, .inl f3)), (a4, .inl (cI, 10, .inl f4)), (a5, .inl (cI, 10, .inl f5)), (a6, .inr (0, [.ref b6_0, .int x6_size])), (a7, .inr (1, [.ref a8, .ref a9, .ref a10, .ref a11, .ref a12, .ref a13, .ref a14, .int y1, .int y2, .int y3])), (a8, .inl (cI, 10, .inl y4)), (a9, .inl (cI, 10, .inl y5)), (a10, .inl (cI, 10, .inl y6)), (a11, .inl (cI, 10, .inl y7)), (a12, .inl (cI, 10, .inl y8)), (a13, .inl (cI, 10, .inl y9)), (a14, .inl (cI, 1024, .inl y10))]) 0 0 := by
  refine g_entry (cc := cX4_numberOfAll) (nL := 2) (rt := (some .int)) (by decide) rfl (Nat.le_of_ble_eq_true rfl) ?_
  intro p e s m args below meth c A (X : GC p s m args c cX4_numberOfAll 2 RX4 wsX4_numberOfAll D (tyS cI cS cL) A) hr hlk _ _
  have h := hc
  unfold f_X4_numberOfAll at h
  refine g_lv (lv' := [(0, .ref a0), (1, .int p1)]) [0, 1] rfl ?_
  refine g_iload_n X (j := 1) dX4_numberOfAll_0 rfl ?_
  refine g_tabOut (tgt := 100) X 0 6 h (by decide) (by decide) dX4_numberOfAll_1 (by decide) (fun h => ?_) (fun h => ?_)
  · refine g_aload_n X (j := 0) dX4_numberOfAll_100 rfl ?_
    refine g_get (q0 := 0) (k := 0) (ci := 4) X in_X4_numberOfAll_X4 fl_X4_numberOfAll_12 rfl rfl (Nat.le_of_ble_eq_true rfl) rfl dX4_numberOfAll_101 ?_
    refine g_iload_n X (j := 1) dX4_numberOfAll_104 rfl ?_
    refine g_bipush (v := 7) X dX4_numberOfAll_105 (by decide) ?_
    refine g_isub X dX4_numberOfAll_107 ?_
    obtain ⟨r1, hc, h⟩ := bd1 h
    refine g_callV (q0 := 1) (ci := 2) (is := [1, 2]) (As := [.int (p1 - 7)]) (ws' := [(a0, .inr (4, [.ref a1, .ref b0_1, .ref a6, .ref a7, .ref b0_4, .ref b0_5, .ref b0_6, .int x0_length, .int x0_isReadingOld])), (a1, .inr (2, [.ref a2, .ref a3, .ref a4, .ref a5, .int x1_size])), (a2, .inl (cI, 10, .inl f2)), (a3, .inl (cI, 10, .inl f3)), (a4, .inl (cI, 10, .inl f4)), (a5, .inl (cI, 10, .inl f5)), (a6, .inr (0, [.ref b6_0, .int x6_size])), (a7, .inr (1, [.ref a8, .ref a9, .ref a10, .ref a11, .ref a12, .ref a13, .ref a14, .int x7_areOrdersCounted, .int x7_isAnyOrder, .int x7_size])), (a8, .inl (cI, 10, .inl f8)), (a9, .inl (cI, 10, .inl f9)), (a10, .inl (cI, 10, .inl f10)), (a11, .inl (cI, 10, .inl f11)), (a12, .inl (cI, 10, .inl f12)), (a13, .inl (cI, 10, .inl f13)), (a14, .inl (cI, 1024, .inl f14))]) (st := []) X (c_X2_booksOfPress l D cI cS cL a1 a2 a3 a4 a5 (p1 - 7) x1_size f2 r1 hc) gX4_numberOfAll_X2_booksOfPress rfl ⟨rfl, rfl⟩ hd_X2_booksOfPress ⟨Nat.le_of_ble_eq_true rfl, Nat.le_of_ble_eq_true rfl⟩ ⟨Nat.zero_le _, Nat.zero_le _⟩ rfl rfl rfl rfl rfl rfl rfl (Nat.le_of_ble_eq_true rfl) rfl dX4_numberOfAll_108 ?_
    have h := Option.some.inj h
    simp only [Prod.mk.injEq] at h
    obtain ⟨rfl, rfl, rfl, rfl, rfl, rfl, rfl, rfl, rfl, rfl, rfl, rfl⟩ := h
    exact g_iret X hr hlk dX4_numberOfAll_111 rfl rfl
  refine g_tabIn (tgt := 44) X 0 h dX4_numberOfAll_1 (by decide) (by decide) rfl (by decide) (fun h => ?_) (fun h => ?_)
  · refine g_aload_n X (j := 0) dX4_numberOfAll_44 rfl ?_
    refine g_get (q0 := 0) (k := 0) (ci := 4) X in_X4_numberOfAll_X4 fl_X4_numberOfAll_12 rfl rfl (Nat.le_of_ble_eq_true rfl) rfl dX4_numberOfAll_45 ?_
    refine g_get (q0 := 1) (k := 4) (ci := 2) X in_X4_numberOfAll_X2 fl_X4_numberOfAll_75 rfl rfl (Nat.le_of_ble_eq_true rfl) rfl dX4_numberOfAll_48 ?_
    have h := Option.some.inj h
    simp only [Prod.mk.injEq] at h
    obtain ⟨rfl, rfl, rfl, rfl, rfl, rfl, rfl, rfl, rfl, rfl, rfl, rfl⟩ := h
    exact g_iret X hr hlk dX4_numberOfAll_51 rfl rfl
  refine g_tabIn (tgt := 52) X 1 h dX4_numberOfAll_1 (by decide) (by decide) rfl (by decide) (fun h => ?_) (fun h => ?_)
  · refine g_aload_n X (j := 0) dX4_numberOfAll_52 rfl ?_
    obtain ⟨o3, o4, o5, o6, o7, o8, o9, o10, o11, o12, hc, h⟩ := bd10 h
    refine g_callV (q0 := 0) (ci := 4) (is := [0, 1, 2, 3, 4, 5, 7, 8, 9, 10, 11, 12, 13]) (As := []) (ws' := [(a0, .inr (4, [.ref a1, .ref b0_1, .ref a6, .ref a7, .ref b0_4, .ref b0_5, .ref b0_6, .int x0_length, .int o3])), (a1, .inr (2, [.ref a2, .ref a3, .ref a4, .ref a5, .int x1_size])), (a2, .inl (cI, 10, .inl f2)), (a3, .inl (cI, 10, .inl f3)), (a4, .inl (cI, 10, .inl f4)), (a5, .inl (cI, 10, .inl f5)), (a6, .inr (0, [.ref b6_0, .int x6_size])), (a7, .inr (1, [.ref a8, .ref a9, .ref a10, .ref a11, .ref a12, .ref a13, .ref a14, .int o4, .int o5, .int o6])), (a8, .inl (cI, 10, .inl o7)), (a9, .inl (cI, 10, .inl o8)), (a10, .inl (cI, 10, .inl o9)), (a11, .inl (cI, 10, .inl o10)), (a12, .inl (cI, 10, .inl o11)), (a13, .inl (cI, 10, .inl o12)), (a14, .inl (cI, 1024, .inl f14))]) (st := []) X (c_X4_currentReading l D cI cS cL a0 a1 a2 a3 a4 a5 a7 a8 a9 a10 a11 a12 a13 b0_1 a6 b0_4 b0_5 b0_6 a14 x0_length x0_isReadingOld x1_size f2 f3 f4 f5 x7_areOrdersCounted x7_isAnyOrder x7_size f8 f9 f10 f11 f12 f13 o3 o4 o5 o6 o7 o8 o9 o10 o11 o12 hc) gX4_numberOfAll_X4_currentReading rfl ⟨rfl, rfl⟩ hd_X4_currentReading ⟨Nat.le_of_ble_eq_true rfl, Nat.le_of_ble_eq_true rfl⟩ ⟨Nat.zero_le _, Nat.zero_le _⟩ rfl rfl rfl rfl rfl rfl rfl (Nat.le_of_ble_eq_true rfl) rfl dX4_numberOfAll_53 ?_
    obtain ⟨r13, hc, h⟩ := bd1 h
    refine g_callV (q0 := 7) (ci := 1) (is := [7, 10, 11]) (As := []) (ws' := [(a0, .inr (4, [.ref a1, .ref b0_1, .ref a6, .ref a7, .ref b0_4, .ref b0_5, .ref b0_6, .int x0_length, .int o3])), (a1, .inr (2, [.ref a2, .ref a3, .ref a4, .ref a5, .int x1_size])), (a2, .inl (cI, 10, .inl f2)), (a3, .inl (cI, 10, .inl f3)), (a4, .inl (cI, 10, .inl f4)), (a5, .inl (cI, 10, .inl f5)), (a6, .inr (0, [.ref b6_0, .int x6_size])), (a7, .inr (1, [.ref a8, .ref a9, .ref a10, .ref a11, .ref a12, .ref a13, .ref a14, .int o4, .int o5, .int o6])), (a8, .inl (cI, 10, .inl o7)), (a9, .inl (cI, 10, .inl o8)), (a10, .inl (cI, 10, .inl o9)), (a11, .inl (cI, 10, .inl o10)), (a12, .inl (cI, 10, .inl o11)), (a13, .inl (cI, 10, .inl o12)), (a14, .inl (cI, 1024, .inl f14))]) (st := []) X (c_X1_datedBooks l D cI cS cL a7 a10 a11 a8 a9 a12 a13 a14 o4 o5 o6 o9 o10 r13 hc) gX4_numberOfAll_X1_datedBooks rfl ⟨rfl, rfl⟩ hd_X1_datedBooks ⟨Nat.le_of_ble_eq_true rfl, Nat.le_of_ble_eq_true rfl⟩ ⟨Nat.zero_le _, Nat.zero_le _⟩ rfl rfl rfl rfl rfl rfl rfl (Nat.le_of_ble_eq_true rfl) rfl dX4_numberOfAll_56 ?_
    have h := Option.some.inj h
    simp only [Prod.mk.injEq] at h
    obtain ⟨rfl, rfl, rfl, rfl, rfl, rfl, rfl, rfl, rfl, rfl, rfl, rfl⟩ := h
    exact g_iret X hr hlk dX4_numberOfAll_59 rfl rfl
  refine g_tabIn (tgt := 60) X 2 h dX4_numberOfAll_1 (by decide) (by decide) rfl (by decide) (fun h => ?_) (fun h => ?_)
  · refine g_aload_n X (j := 0) dX4_numberOfAll_60 rfl ?_
    refine g_get (q0 := 0) (k := 0) (ci := 4) X in_X4_numberOfAll_X4 fl_X4_numberOfAll_12 rfl rfl (Nat.le_of_ble_eq_true rfl) rfl dX4_numberOfAll_61 ?_
    obtain ⟨r14, hc, h⟩ := bd1 h
    refine g_callV (q0 := 1) (ci := 2) (is := [1, 5]) (As := []) (ws' := [(a0, .inr (4, [.ref a1, .ref b0_1, .ref a6, .ref a7, .ref b0_4, .ref b0_5, .ref b0_6, .int x0_length, .int x0_isReadingOld])), (a1, .inr (2, [.ref a2, .ref a3, .ref a4, .ref a5, .int x1_size])), (a2, .inl (cI, 10, .inl f2)), (a3, .inl (cI, 10, .inl f3)), (a4, .inl (cI, 10, .inl f4)), (a5, .inl (cI, 10, .inl f5)), (a6, .inr (0, [.ref b6_0, .int x6_size])), (a7, .inr (1, [.ref a8, .ref a9, .ref a10, .ref a11, .ref a12, .ref a13, .ref a14, .int x7_areOrdersCounted, .int x7_isAnyOrder, .int x7_size])), (a8, .inl (cI, 10, .inl f8)), (a9, .inl (cI, 10, .inl f9)), (a10, .inl (cI, 10, .inl f10)), (a11, .inl (cI, 10, .inl f11)), (a12, .inl (cI, 10, .inl f12)), (a13, .inl (cI, 10, .inl f13)), (a14, .inl (cI, 1024, .inl f14))]) (st := []) X (c_X2_booksWithYear l D cI cS cL a1 a5 a2 a3 a4 x1_size f5 r14 hc) gX4_numberOfAll_X2_booksWithYear rfl ⟨rfl, rfl⟩ hd_X2_booksWithYear ⟨Nat.le_of_ble_eq_true rfl, Nat.le_of_ble_eq_true rfl⟩ ⟨Nat.zero_le _, Nat.zero_le _⟩ rfl rfl rfl rfl rfl rfl rfl (Nat.le_of_ble_eq_true rfl) rfl dX4_numberOfAll_64 ?_
    have h := Option.some.inj h
    simp only [Prod.mk.injEq] at h
    obtain ⟨rfl, rfl, rfl, rfl, rfl, rfl, rfl, rfl, rfl, rfl, rfl, rfl⟩ := h
    exact g_iret X hr hlk dX4_numberOfAll_67 rfl rfl
  refine g_tabIn (tgt := 68) X 3 h dX4_numberOfAll_1 (by decide) (by decide) rfl (by decide) (fun h => ?_) (fun h => ?_)
  · refine g_aload_n X (j := 0) dX4_numberOfAll_68 rfl ?_
    obtain ⟨o16, o17, o18, o19, o20, o21, o22, o23, o24, o25, hc, h⟩ := bd10 h
    refine g_callV (q0 := 0) (ci := 4) (is := [0, 1, 2, 3, 4, 5, 7, 8, 9, 10, 11, 12, 13]) (As := []) (ws' := [(a0, .inr (4, [.ref a1, .ref b0_1, .ref a6, .ref a7, .ref b0_4, .ref b0_5, .ref b0_6, .int x0_length, .int o16])), (a1, .inr (2, [.ref a2, .ref a3, .ref a4, .ref a5, .int x1_size])), (a2, .inl (cI, 10, .inl f2)), (a3, .inl (cI, 10, .inl f3)), (a4, .inl (cI, 10, .inl f4)), (a5, .inl (cI, 10, .inl f5)), (a6, .inr (0, [.ref b6_0, .int x6_size])), (a7, .inr (1, [.ref a8, .ref a9, .ref a10, .ref a11, .ref a12, .ref a13, .ref a14, .int o17, .int o18, .int o19])), (a8, .inl (cI, 10, .inl o20)), (a9, .inl (cI, 10, .inl o21)), (a10, .inl (cI, 10, .inl o22)), (a11, .inl (cI, 10, .inl o23)), (a12, .inl (cI, 10, .inl o24)), (a13, .inl (cI, 10, .inl o25)), (a14, .inl (cI, 1024, .inl f14))]) (st := []) X (c_X4_currentReading l D cI cS cL a0 a1 a2 a3 a4 a5 a7 a8 a9 a10 a11 a12 a13 b0_1 a6 b0_4 b0_5 b0_6 a14 x0_length x0_isReadingOld x1_size f2 f3 f4 f5 x7_areOrdersCounted x7_isAnyOrder x7_size f8 f9 f10 f11 f12 f13 o16 o17 o18 o19 o20 o21 o22 o23 o24 o25 hc) gX4_numberOfAll_X4_currentReading rfl ⟨rfl, rfl⟩ hd_X4_currentReading ⟨Nat.le_of_ble_eq_true rfl, Nat.le_of_ble_eq_true rfl⟩ ⟨Nat.zero_le _, Nat.zero_le _⟩ rfl rfl rfl rfl rfl rfl rfl (Nat.le_of_ble_eq_true rfl) rfl dX4_numberOfAll_69 ?_
    obtain ⟨r26, hc, h⟩ := bd1 h
    refine g_callV (q0 := 7) (ci := 1) (is := [7, 8, 9]) (As := []) (ws' := [(a0, .inr (4, [.ref a1, .ref b0_1, .ref a6, .ref a7, .ref b0_4, .ref b0_5, .ref b0_6, .int x0_length, .int o16])), (a1, .inr (2, [.ref a2, .ref a3, .ref a4, .ref a5, .int x1_size])), (a2, .inl (cI, 10, .inl f2)), (a3, .inl (cI, 10, .inl f3)), (a4, .inl (cI, 10, .inl f4)), (a5, .inl (cI, 10, .inl f5)), (a6, .inr (0, [.ref b6_0, .int x6_size])), (a7, .inr (1, [.ref a8, .ref a9, .ref a10, .ref a11, .ref a12, .ref a13, .ref a14, .int o17, .int o18, .int o19])), (a8, .inl (cI, 10, .inl o20)), (a9, .inl (cI, 10, .inl o21)), (a10, .inl (cI, 10, .inl o22)), (a11, .inl (cI, 10, .inl o23)), (a12, .inl (cI, 10, .inl o24)), (a13, .inl (cI, 10, .inl o25)), (a14, .inl (cI, 1024, .inl f14))]) (st := []) X (c_X1_contradictingPairs l D cI cS cL a7 a8 a9 a10 a11 a12 a13 a14 o17 o18 o19 o20 o21 r26 hc) gX4_numberOfAll_X1_contradictingPairs rfl ⟨rfl, rfl⟩ hd_X1_contradictingPairs ⟨Nat.le_of_ble_eq_true rfl, Nat.le_of_ble_eq_true rfl⟩ ⟨Nat.zero_le _, Nat.zero_le _⟩ rfl rfl rfl rfl rfl rfl rfl (Nat.le_of_ble_eq_true rfl) rfl dX4_numberOfAll_72 ?_
    have h := Option.some.inj h
    simp only [Prod.mk.injEq] at h
    obtain ⟨rfl, rfl, rfl, rfl, rfl, rfl, rfl, rfl, rfl, rfl, rfl, rfl⟩ := h
    exact g_iret X hr hlk dX4_numberOfAll_75 rfl rfl
  refine g_tabIn (tgt := 76) X 4 h dX4_numberOfAll_1 (by decide) (by decide) rfl (by decide) (fun h => ?_) (fun h => ?_)
  · refine g_aload_n X (j := 0) dX4_numberOfAll_76 rfl ?_
    obtain ⟨o28, o29, o30, o31, o32, o33, o34, o35, o36, o37, hc, h⟩ := bd10 h
    refine g_callV (q0 := 0) (ci := 4) (is := [0, 1, 2, 3, 4, 5, 7, 8, 9, 10, 11, 12, 13]) (As := []) (ws' := [(a0, .inr (4, [.ref a1, .ref b0_1, .ref a6, .ref a7, .ref b0_4, .ref b0_5, .ref b0_6, .int x0_length, .int o28])), (a1, .inr (2, [.ref a2, .ref a3, .ref a4, .ref a5, .int x1_size])), (a2, .inl (cI, 10, .inl f2)), (a3, .inl (cI, 10, .inl f3)), (a4, .inl (cI, 10, .inl f4)), (a5, .inl (cI, 10, .inl f5)), (a6, .inr (0, [.ref b6_0, .int x6_size])), (a7, .inr (1, [.ref a8, .ref a9, .ref a10, .ref a11, .ref a12, .ref a13, .ref a14, .int o29, .int o30, .int o31])), (a8, .inl (cI, 10, .inl o32)), (a9, .inl (cI, 10, .inl o33)), (a10, .inl (cI, 10, .inl o34)), (a11, .inl (cI, 10, .inl o35)), (a12, .inl (cI, 10, .inl o36)), (a13, .inl (cI, 10, .inl o37)), (a14, .inl (cI, 1024, .inl f14))]) (st := []) X (c_X4_currentReading l D cI cS cL a0 a1 a2 a3 a4 a5 a7 a8 a9 a10 a11 a12 a13 b0_1 a6 b0_4 b0_5 b0_6 a14 x0_length x0_isReadingOld x1_size f2 f3 f4 f5 x7_areOrdersCounted x7_isAnyOrder x7_size f8 f9 f10 f11 f12 f13 o28 o29 o30 o31 o32 o33 o34 o35 o36 o37 hc) gX4_numberOfAll_X4_currentReading rfl ⟨rfl, rfl⟩ hd_X4_currentReading ⟨Nat.le_of_ble_eq_true rfl, Nat.le_of_ble_eq_true rfl⟩ ⟨Nat.zero_le _, Nat.zero_le _⟩ rfl rfl rfl rfl rfl rfl rfl (Nat.le_of_ble_eq_true rfl) rfl dX4_numberOfAll_77 ?_
    obtain ⟨r38, o39, o40, hc, h⟩ := bd3 h
    refine g_callV (q0 := 7) (ci := 1) (is := [7, 8, 14]) (As := []) (ws' := [(a0, .inr (4, [.ref a1, .ref b0_1, .ref a6, .ref a7, .ref b0_4, .ref b0_5, .ref b0_6, .int x0_length, .int o28])), (a1, .inr (2, [.ref a2, .ref a3, .ref a4, .ref a5, .int x1_size])), (a2, .inl (cI, 10, .inl f2)), (a3, .inl (cI, 10, .inl f3)), (a4, .inl (cI, 10, .inl f4)), (a5, .inl (cI, 10, .inl f5)), (a6, .inr (0, [.ref b6_0, .int x6_size])), (a7, .inr (1, [.ref a8, .ref a9, .ref a10, .ref a11, .ref a12, .ref a13, .ref a14, .int o39, .int o30, .int o31])), (a8, .inl (cI, 10, .inl o32)), (a9, .inl (cI, 10, .inl o33)), (a10, .inl (cI, 10, .inl o34)), (a11, .inl (cI, 10, .inl o35)), (a12, .inl (cI, 10, .inl o36)), (a13, .inl (cI, 10, .inl o37)), (a14, .inl (cI, 1024, .inl o40))]) (st := []) X (c_X1_orders l D cI cS cL a7 a8 a14 a9 a10 a11 a12 a13 o29 o30 o31 o32 f14 r38 o39 o40 hc) gX4_numberOfAll_X1_orders rfl ⟨rfl, rfl⟩ hd_X1_orders ⟨Nat.le_of_ble_eq_true rfl, Nat.le_of_ble_eq_true rfl⟩ ⟨Nat.zero_le _, Nat.zero_le _⟩ rfl rfl rfl rfl rfl rfl rfl (Nat.le_of_ble_eq_true rfl) rfl dX4_numberOfAll_80 ?_
    have h := Option.some.inj h
    simp only [Prod.mk.injEq] at h
    obtain ⟨rfl, rfl, rfl, rfl, rfl, rfl, rfl, rfl, rfl, rfl, rfl, rfl⟩ := h
    exact g_iret X hr hlk dX4_numberOfAll_83 rfl rfl
  refine g_tabIn (tgt := 84) X 5 h dX4_numberOfAll_1 (by decide) (by decide) rfl (by decide) (fun h => ?_) (fun h => ?_)
  · refine g_aload_n X (j := 0) dX4_numberOfAll_84 rfl ?_
    obtain ⟨o42, o43, o44, o45, o46, o47, o48, o49, o50, o51, hc, h⟩ := bd10 h
    refine g_callV (q0 := 0) (ci := 4) (is := [0, 1, 2, 3, 4, 5, 7, 8, 9, 10, 11, 12, 13]) (As := []) (ws' := [(a0, .inr (4, [.ref a1, .ref b0_1, .ref a6, .ref a7, .ref b0_4, .ref b0_5, .ref b0_6, .int x0_length, .int o42])), (a1, .inr (2, [.ref a2, .ref a3, .ref a4, .ref a5, .int x1_size])), (a2, .inl (cI, 10, .inl f2)), (a3, .inl (cI, 10, .inl f3)), (a4, .inl (cI, 10, .inl f4)), (a5, .inl (cI, 10, .inl f5)), (a6, .inr (0, [.ref b6_0, .int x6_size])), (a7, .inr (1, [.ref a8, .ref a9, .ref a10, .ref a11, .ref a12, .ref a13, .ref a14, .int o43, .int o44, .int o45])), (a8, .inl (cI, 10, .inl o46)), (a9, .inl (cI, 10, .inl o47)), (a10, .inl (cI, 10, .inl o48)), (a11, .inl (cI, 10, .inl o49)), (a12, .inl (cI, 10, .inl o50)), (a13, .inl (cI, 10, .inl o51)), (a14, .inl (cI, 1024, .inl f14))]) (st := []) X (c_X4_currentReading l D cI cS cL a0 a1 a2 a3 a4 a5 a7 a8 a9 a10 a11 a12 a13 b0_1 a6 b0_4 b0_5 b0_6 a14 x0_length x0_isReadingOld x1_size f2 f3 f4 f5 x7_areOrdersCounted x7_isAnyOrder x7_size f8 f9 f10 f11 f12 f13 o42 o43 o44 o45 o46 o47 o48 o49 o50 o51 hc) gX4_numberOfAll_X4_currentReading rfl ⟨rfl, rfl⟩ hd_X4_currentReading ⟨Nat.le_of_ble_eq_true rfl, Nat.le_of_ble_eq_true rfl⟩ ⟨Nat.zero_le _, Nat.zero_le _⟩ rfl rfl rfl rfl rfl rfl rfl (Nat.le_of_ble_eq_true rfl) rfl dX4_numberOfAll_85 ?_
    obtain ⟨r52, hc, h⟩ := bd1 h
    refine g_callV (q0 := 7) (ci := 1) (is := [7, 8, 9]) (As := []) (ws' := [(a0, .inr (4, [.ref a1, .ref b0_1, .ref a6, .ref a7, .ref b0_4, .ref b0_5, .ref b0_6, .int x0_length, .int o42])), (a1, .inr (2, [.ref a2, .ref a3, .ref a4, .ref a5, .int x1_size])), (a2, .inl (cI, 10, .inl f2)), (a3, .inl (cI, 10, .inl f3)), (a4, .inl (cI, 10, .inl f4)), (a5, .inl (cI, 10, .inl f5)), (a6, .inr (0, [.ref b6_0, .int x6_size])), (a7, .inr (1, [.ref a8, .ref a9, .ref a10, .ref a11, .ref a12, .ref a13, .ref a14, .int o43, .int o44, .int o45])), (a8, .inl (cI, 10, .inl o46)), (a9, .inl (cI, 10, .inl o47)), (a10, .inl (cI, 10, .inl o48)), (a11, .inl (cI, 10, .inl o49)), (a12, .inl (cI, 10, .inl o50)), (a13, .inl (cI, 10, .inl o51)), (a14, .inl (cI, 1024, .inl f14))]) (st := []) X (c_X1_orderedPairs l D cI cS cL a7 a8 a9 a10 a11 a12 a13 a14 o43 o44 o45 o46 o47 r52 hc) gX4_numberOfAll_X1_orderedPairs rfl ⟨rfl, rfl⟩ hd_X1_orderedPairs ⟨Nat.le_of_ble_eq_true rfl, Nat.le_of_ble_eq_true rfl⟩ ⟨Nat.zero_le _, Nat.zero_le _⟩ rfl rfl rfl rfl rfl rfl rfl (Nat.le_of_ble_eq_true rfl) rfl dX4_numberOfAll_88 ?_
    have h := Option.some.inj h
    simp only [Prod.mk.injEq] at h
    obtain ⟨rfl, rfl, rfl, rfl, rfl, rfl, rfl, rfl, rfl, rfl, rfl, rfl⟩ := h
    exact g_iret X hr hlk dX4_numberOfAll_91 rfl rfl
  refine g_tabIn (tgt := 92) X 6 h dX4_numberOfAll_1 (by decide) (by decide) rfl (by decide) (fun h => ?_) (fun h => ?_)
  · refine g_aload_n X (j := 0) dX4_numberOfAll_92 rfl ?_
    refine g_get (q0 := 0) (k := 2) (ci := 4) X in_X4_numberOfAll_X4 fl_X4_numberOfAll_22 rfl rfl (Nat.le_of_ble_eq_true rfl) rfl dX4_numberOfAll_93 ?_
    refine g_get (q0 := 6) (k := 1) (ci := 0) X in_X4_numberOfAll_X0 fl_X4_numberOfAll_168 rfl rfl (Nat.le_of_ble_eq_true rfl) rfl dX4_numberOfAll_96 ?_
    have h := Option.some.inj h
    simp only [Prod.mk.injEq] at h
    obtain ⟨rfl, rfl, rfl, rfl, rfl, rfl, rfl, rfl, rfl, rfl, rfl, rfl⟩ := h
    exact g_iret X hr hlk dX4_numberOfAll_99 rfl rfl
  cases h
def f_X4_numberOfPlaces (p1 : Int32) (p2 : Int32) (x0_isReadingOld : Int32) (x1_size : Int32) (f2 : Nat → Int32) (f3 : Nat → Int32) (f4 : Nat → Int32) (f5 : Nat → Int32) (x6_areOrdersCounted : Int32) (x6_isAnyOrder : Int32) (x6_size : Int32) (f7 : Nat → Int32) (f8 : Nat → Int32) (f9 : Nat → Int32) (f10 : Nat → Int32) (f11 : Nat → Int32) (f12 : Nat → Int32) (f13 : Nat → Int32) : Option (Int32 × Int32 × Int32 × Int32 × Int32 × (Nat → Int32) × (Nat → Int32) × (Nat → Int32) × (Nat → Int32) × (Nat → Int32) × (Nat → Int32) × (Nat → Int32)) := (if p2 = 0 then (f_X4_currentReading x0_isReadingOld x1_size f2 f3 f4 f5 x6_areOrdersCounted x6_isAnyOrder x6_size f7 f8 f9 f10 f11 f12).bind (u10 fun (o2 : Int32) (o3 : Int32) (o4 : Int32) (o5 : Int32) (o6 : Nat → Int32) (o7 : Nat → Int32) (o8 : Nat → Int32) (o9 : Nat → Int32) (o10 : Nat → Int32) (o11 : Nat → Int32) => (f_X1_leastPlace p1 o4 o10).bind (u1 fun (r12 : Int32) => some (r12, o2, o3, o4, o5, o6, o7, o8, o9, o10, o11, f13))) else if p2 = 1 then (f_X4_currentReading x0_isReadingOld x1_size f2 f3 f4 f5 x6_areOrdersCounted x6_isAnyOrder x6_size f7 f8 f9 f10 f11 f12).bind (u10 fun (o14 : Int32) (o15 : Int32) (o16 : Int32) (o17 : Int32) (o18 : Nat → Int32) (o19 : Nat → Int32) (o20 : Nat → Int32) (o21 : Nat → Int32) (o22 : Nat → Int32) (o23 : Nat → Int32) => (f_X1_greatestPlace p1 o16 o17 o23).bind (u1 fun (r24 : Int32) => some (r24, o14, o15, o16, o17, o18, o19, o20, o21, o22, o23, f13))) else (f_X4_currentReading x0_isReadingOld x1_size f2 f3 f4 f5 x6_areOrdersCounted x6_isAnyOrder x6_size f7 f8 f9 f10 f11 f12).bind (u10 fun (o26 : Int32) (o27 : Int32) (o28 : Int32) (o29 : Int32) (o30 : Nat → Int32) (o31 : Nat → Int32) (o32 : Nat → Int32) (o33 : Nat → Int32) (o34 : Nat → Int32) (o35 : Nat → Int32) => (f_X1_ordersWithFirst p1 o27 o28 o29 o30 f13).bind (u3 fun (r36 : Int32) (o37 : Int32) (o38 : Nat → Int32) => some (r36, o26, o37, o28, o29, o30, o31, o32, o33, o34, o35, o38))))
theorem hd_X4_numberOfPlaces : yX4_numberOfPlaces.cls = RX4 ∧ yX4_numberOfPlaces.cls ≠ "java/lang/invoke/MethodHandle" ∧ yX4_numberOfPlaces.cls ≠ "java/lang/invoke/VarHandle" ∧ (parseMethodDescriptor yX4_numberOfPlaces.desc).map (fun d => d.parameters.length) = some 2 := by decide +kernel
set_option maxRecDepth 100000 in
set_option maxHeartbeats 4000000 in
theorem c_X4_numberOfPlaces (l : Launch) (D : va_G) (cI cS cL : ClassId) (a0 : Nat) (a1 : Nat) (a2 : Nat) (a3 : Nat) (a4 : Nat) (a5 : Nat) (a6 : Nat) (a7 : Nat) (a8 : Nat) (a9 : Nat) (a10 : Nat) (a11 : Nat) (a12 : Nat) (a13 : Nat) (b0_1 : Nat) (b0_2 : Nat) (b0_4 : Nat) (b0_5 : Nat) (b0_6 : Nat) (p1 : Int32) (p2 : Int32) (x0_length : Int32) (x0_isReadingOld : Int32) (x1_size : Int32) (f2 : Nat → Int32) (f3 : Nat → Int32) (f4 : Nat → Int32) (f5 : Nat → Int32) (x6_areOrdersCounted : Int32) (x6_isAnyOrder : Int32) (x6_size : Int32) (f7 : Nat → Int32) (f8 : Nat → Int32) (f9 : Nat → Int32) (f10 : Nat → Int32) (f11 : Nat → Int32) (f12 : Nat → Int32) (f13 : Nat → Int32) (rr : Int32) (y0 : Int32) (y1 : Int32) (y2 : Int32) (y3 : Int32) (y4 : Nat → Int32) (y5 : Nat → Int32) (y6 : Nat → Int32) (y7 : Nat → Int32) (y8 : Nat → Int32) (y9 : Nat → Int32) (y10 : Nat → Int32) (hc : f_X4_numberOfPlaces p1 p2 x0_isReadingOld x1_size f2 f3 f4 f5 x6_areOrdersCounted x6_isAnyOrder x6_size f7 f8 f9 f10 f11 f12 f13 = some (rr, y0, y1, y2, y3, y4, y5, y6, y7, y8, y9, y10)) : KM l yX4_numberOfPlaces wsX4_numberOfPlaces { frames := 4, cells := 0, slots := 0, locals := 88 } D (tyS cI cS cL) [.ref a0, .int p1, .int p2] [(a0, .inr (4, [.ref a1, .ref b0_1, .ref b0_2, .ref a6, .ref b0_4, .ref b0_5, .ref b0_6, .int x0_length, .int x0_isReadingOld])), (a1, .inr (2, [.ref a2, .ref a3, .ref a4, .ref a5, .int x1_size])), (a2, .inl (cI, 10, .inl f2)), (a3, .inl (cI, 10, .inl f3)), (a4, .inl (cI, 10, .inl f4)), (a5, .inl (cI, 10, .inl f5)), (a6, .inr (1, [.ref a7, .ref a8, .ref a9, .ref a10, .ref a11, .ref a12, .ref a13, .int x6_areOrdersCounted, .int x6_isAnyOrder, .int x6_size])), (a7, .inl (cI, 10, .inl f7)), (a8, .inl (cI, 10, .inl f8)), (a9, .inl (cI, 10, .inl f9)), (a10, .inl (cI, 10, .inl f10)), (a11, .inl (cI, 10, .inl f11)), (a12, .inl (cI, 10, .inl f12)), (a13, .inl (cI, 1024, .inl f13))] (some (.int rr)) (fun w => w = [(a0, .inr (4, [.ref a1, .ref b0_1, .ref b0_2, .ref a6, .ref b0_4, .ref b0_5, .ref b0_6, .int x0_length, .int y0])), (a1, .inr (2, [.ref a2, .ref a3, .ref a4, .ref a5, .int x1_size])), (a2, .inl (cI, 10, .inl f2)), (a3, .inl (cI, 10, .inl f3)), (a4, .inl (cI, 10, .inl f4)), (a5, .inl (cI, 10, .inl f5)), (a6, .inr (1, [.ref a7, .ref a8, .ref a9, .ref a10, .ref a11, .ref a12, .ref a13, .int y1, .int y2, .int y3])), (a7, .inl (cI, 10, .inl y4)), (a8, .inl (cI, 10, .inl y5)), (a9, .inl (cI, 10, .inl y6)), (a10, .inl (cI, 10, .inl y7)), (a11, .inl (cI, 10, .inl y8)), (a12, .inl (cI, 10, .inl y9)), (a13, .inl (cI, 1024, .inl y10))]) 0 0 := by
  refine g_entry (cc := cX4_numberOfPlaces) (nL := 3) (rt := (some .int)) (by decide) rfl (Nat.le_of_ble_eq_true rfl) ?_
  intro p e s m args below meth c A (X : GC p s m args c cX4_numberOfPlaces 3 RX4 wsX4_numberOfPlaces D (tyS cI cS cL) A) hr hlk _ _
  have h := hc
  unfold f_X4_numberOfPlaces at h
  refine g_lv (lv' := [(0, .ref a0), (1, .int p1), (2, .int p2)]) [0, 1, 2] rfl ?_
  refine g_iload_n X (j := 2) dX4_numberOfPlaces_0 rfl ?_
  refine g_look (t0 := 28) (t1 := 37) (td := 46) X 0 1 (by decide) (by decide) h dX4_numberOfPlaces_1 (by decide) (by decide) (by decide) (by decide) (fun h => ?_) (fun h => ?_) (fun h => ?_)
  · refine g_aload_n X (j := 0) dX4_numberOfPlaces_28 rfl ?_
    obtain ⟨o2, o3, o4, o5, o6, o7, o8, o9, o10, o11, hc, h⟩ := bd10 h
    refine g_callV (q0 := 0) (ci := 4) (is := [0, 1, 2, 3, 4, 5, 6, 7, 8, 9, 10, 11, 12]) (As := []) (ws' := [(a0, .inr (4, [.ref a1, .ref b0_1, .ref b0_2, .ref a6, .ref b0_4, .ref b0_5, .ref b0_6, .int x0_length, .int o2])), (a1, .inr (2, [.ref a2, .ref a3, .ref a4, .ref a5, .int x1_size])), (a2, .inl (cI, 10, .inl f2)), (a3, .inl (cI, 10, .inl f3)), (a4, .inl (cI, 10, .inl f4)), (a5, .inl (cI, 10, .inl f5)), (a6, .inr (1, [.ref a7, .ref a8, .ref a9, .ref a10, .ref a11, .ref a12, .ref a13, .int o3, .int o4, .int o5])), (a7, .inl (cI, 10, .inl o6)), (a8, .inl (cI, 10, .inl o7)), (a9, .inl (cI, 10, .inl o8)), (a10, .inl (cI, 10, .inl o9)), (a11, .inl (cI, 10, .inl o10)), (a12, .inl (cI, 10, .inl o11)), (a13, .inl (cI, 1024, .inl f13))]) (st := []) X (c_X4_currentReading l D cI cS cL a0 a1 a2 a3 a4 a5 a6 a7 a8 a9 a10 a11 a12 b0_1 b0_2 b0_4 b0_5 b0_6 a13 x0_length x0_isReadingOld x1_size f2 f3 f4 f5 x6_areOrdersCounted x6_isAnyOrder x6_size f7 f8 f9 f10 f11 f12 o2 o3 o4 o5 o6 o7 o8 o9 o10 o11 hc) gX4_numberOfPlaces_X4_currentReading rfl ⟨rfl, rfl⟩ hd_X4_currentReading ⟨Nat.le_of_ble_eq_true rfl, Nat.le_of_ble_eq_true rfl⟩ ⟨Nat.zero_le _, Nat.zero_le _⟩ rfl rfl rfl rfl rfl rfl rfl (Nat.le_of_ble_eq_true rfl) rfl dX4_numberOfPlaces_29 ?_
    refine g_iload_n X (j := 1) dX4_numberOfPlaces_32 rfl ?_
    obtain ⟨r12, hc, h⟩ := bd1 h
    refine g_callV (q0 := 6) (ci := 1) (is := [6, 11]) (As := [.int p1]) (ws' := [(a0, .inr (4, [.ref a1, .ref b0_1, .ref b0_2, .ref a6, .ref b0_4, .ref b0_5, .ref b0_6, .int x0_length, .int o2])), (a1, .inr (2, [.ref a2, .ref a3, .ref a4, .ref a5, .int x1_size])), (a2, .inl (cI, 10, .inl f2)), (a3, .inl (cI, 10, .inl f3)), (a4, .inl (cI, 10, .inl f4)), (a5, .inl (cI, 10, .inl f5)), (a6, .inr (1, [.ref a7, .ref a8, .ref a9, .ref a10, .ref a11, .ref a12, .ref a13, .int o3, .int o4, .int o5])), (a7, .inl (cI, 10, .inl o6)), (a8, .inl (cI, 10, .inl o7)), (a9, .inl (cI, 10, .inl o8)), (a10, .inl (cI, 10, .inl o9)), (a11, .inl (cI, 10, .inl o10)), (a12, .inl (cI, 10, .inl o11)), (a13, .inl (cI, 1024, .inl f13))]) (st := []) X (c_X1_leastPlace l D cI cS cL a6 a11 a7 a8 a9 a10 a12 a13 p1 o3 o4 o5 o10 r12 hc) gX4_numberOfPlaces_X1_leastPlace rfl ⟨rfl, rfl⟩ hd_X1_leastPlace ⟨Nat.le_of_ble_eq_true rfl, Nat.le_of_ble_eq_true rfl⟩ ⟨Nat.zero_le _, Nat.zero_le _⟩ rfl rfl rfl rfl rfl rfl rfl (Nat.le_of_ble_eq_true rfl) rfl dX4_numberOfPlaces_33 ?_
    have h := Option.some.inj h
    simp only [Prod.mk.injEq] at h
    obtain ⟨rfl, rfl, rfl, rfl, rfl, rfl, rfl, rfl, rfl, rfl, rfl, rfl⟩ := h
    exact g_iret X hr hlk dX4_numberOfPlaces_36 rfl rfl
  · refine g_aload_n X (j := 0) dX4_numberOfPlaces_37 rfl ?_
    obtain ⟨o14, o15, o16, o17, o18, o19, o20, o21, o22, o23, hc, h⟩ := bd10 h
    refine g_callV (q0 := 0) (ci := 4) (is := [0, 1, 2, 3, 4, 5, 6, 7, 8, 9, 10, 11, 12]) (As := []) (ws' := [(a0, .inr (4, [.ref a1, .ref b0_1, .ref b0_2, .ref a6, .ref b0_4, .ref b0_5, .ref b0_6, .int x0_length, .int o14])), (a1, .inr (2, [.ref a2, .ref a3, .ref a4, .ref a5, .int x1_size])), (a2, .inl (cI, 10, .inl f2)), (a3, .inl (cI, 10, .inl f3)), (a4, .inl (cI, 10, .inl f4)), (a5, .inl (cI, 10, .inl f5)), (a6, .inr (1, [.ref a7, .ref a8, .ref a9, .ref a10, .ref a11, .ref a12, .ref a13, .int o15, .int o16, .int o17])), (a7, .inl (cI, 10, .inl o18)), (a8, .inl (cI, 10, .inl o19)), (a9, .inl (cI, 10, .inl o20)), (a10, .inl (cI, 10, .inl o21)), (a11, .inl (cI, 10, .inl o22)), (a12, .inl (cI, 10, .inl o23)), (a13, .inl (cI, 1024, .inl f13))]) (st := []) X (c_X4_currentReading l D cI cS cL a0 a1 a2 a3 a4 a5 a6 a7 a8 a9 a10 a11 a12 b0_1 b0_2 b0_4 b0_5 b0_6 a13 x0_length x0_isReadingOld x1_size f2 f3 f4 f5 x6_areOrdersCounted x6_isAnyOrder x6_size f7 f8 f9 f10 f11 f12 o14 o15 o16 o17 o18 o19 o20 o21 o22 o23 hc) gX4_numberOfPlaces_X4_currentReading rfl ⟨rfl, rfl⟩ hd_X4_currentReading ⟨Nat.le_of_ble_eq_true rfl, Nat.le_of_ble_eq_true rfl⟩ ⟨Nat.zero_le _, Nat.zero_le _⟩ rfl rfl rfl rfl rfl rfl rfl (Nat.le_of_ble_eq_true rfl) rfl dX4_numberOfPlaces_38 ?_
    refine g_iload_n X (j := 1) dX4_numberOfPlaces_41 rfl ?_
    obtain ⟨r24, hc, h⟩ := bd1 h
    refine g_callV (q0 := 6) (ci := 1) (is := [6, 12]) (As := [.int p1]) (ws' := [(a0, .inr (4, [.ref a1, .ref b0_1, .ref b0_2, .ref a6, .ref b0_4, .ref b0_5, .ref b0_6, .int x0_length, .int o14])), (a1, .inr (2, [.ref a2, .ref a3, .ref a4, .ref a5, .int x1_size])), (a2, .inl (cI, 10, .inl f2)), (a3, .inl (cI, 10, .inl f3)), (a4, .inl (cI, 10, .inl f4)), (a5, .inl (cI, 10, .inl f5)), (a6, .inr (1, [.ref a7, .ref a8, .ref a9, .ref a10, .ref a11, .ref a12, .ref a13, .int o15, .int o16, .int o17])), (a7, .inl (cI, 10, .inl o18)), (a8, .inl (cI, 10, .inl o19)), (a9, .inl (cI, 10, .inl o20)), (a10, .inl (cI, 10, .inl o21)), (a11, .inl (cI, 10, .inl o22)), (a12, .inl (cI, 10, .inl o23)), (a13, .inl (cI, 1024, .inl f13))]) (st := []) X (c_X1_greatestPlace l D cI cS cL a6 a12 a7 a8 a9 a10 a11 a13 p1 o15 o16 o17 o23 r24 hc) gX4_numberOfPlaces_X1_greatestPlace rfl ⟨rfl, rfl⟩ hd_X1_greatestPlace ⟨Nat.le_of_ble_eq_true rfl, Nat.le_of_ble_eq_true rfl⟩ ⟨Nat.zero_le _, Nat.zero_le _⟩ rfl rfl rfl rfl rfl rfl rfl (Nat.le_of_ble_eq_true rfl) rfl dX4_numberOfPlaces_42 ?_
    have h := Option.some.inj h
    simp only [Prod.mk.injEq] at h
    obtain ⟨rfl, rfl, rfl, rfl, rfl, rfl, rfl, rfl, rfl, rfl, rfl, rfl⟩ := h
    exact g_iret X hr hlk dX4_numberOfPlaces_45 rfl rfl
  · refine g_aload_n X (j := 0) dX4_numberOfPlaces_46 rfl ?_
    obtain ⟨o26, o27, o28, o29, o30, o31, o32, o33, o34, o35, hc, h⟩ := bd10 h
    refine g_callV (q0 := 0) (ci := 4) (is := [0, 1, 2, 3, 4, 5, 6, 7, 8, 9, 10, 11, 12]) (As := []) (ws' := [(a0, .inr (4, [.ref a1, .ref b0_1, .ref b0_2, .ref a6, .ref b0_4, .ref b0_5, .ref b0_6, .int x0_length, .int o26])), (a1, .inr (2, [.ref a2, .ref a3, .ref a4, .ref a5, .int x1_size])), (a2, .inl (cI, 10, .inl f2)), (a3, .inl (cI, 10, .inl f3)), (a4, .inl (cI, 10, .inl f4)), (a5, .inl (cI, 10, .inl f5)), (a6, .inr (1, [.ref a7, .ref a8, .ref a9, .ref a10, .ref a11, .ref a12, .ref a13, .int o27, .int o28, .int o29])), (a7, .inl (cI, 10, .inl o30)), (a8, .inl (cI, 10, .inl o31)), (a9, .inl (cI, 10, .inl o32)), (a10, .inl (cI, 10, .inl o33)), (a11, .inl (cI, 10, .inl o34)), (a12, .inl (cI, 10, .inl o35)), (a13, .inl (cI, 1024, .inl f13))]) (st := []) X (c_X4_currentReading l D cI cS cL a0 a1 a2 a3 a4 a5 a6 a7 a8 a9 a10 a11 a12 b0_1 b0_2 b0_4 b0_5 b0_6 a13 x0_length x0_isReadingOld x1_size f2 f3 f4 f5 x6_areOrdersCounted x6_isAnyOrder x6_size f7 f8 f9 f10 f11 f12 o26 o27 o28 o29 o30 o31 o32 o33 o34 o35 hc) gX4_numberOfPlaces_X4_currentReading rfl ⟨rfl, rfl⟩ hd_X4_currentReading ⟨Nat.le_of_ble_eq_true rfl, Nat.le_of_ble_eq_true rfl⟩ ⟨Nat.zero_le _, Nat.zero_le _⟩ rfl rfl rfl rfl rfl rfl rfl (Nat.le_of_ble_eq_true rfl) rfl dX4_numberOfPlaces_47 ?_
    refine g_iload_n X (j := 1) dX4_numberOfPlaces_50 rfl ?_
    obtain ⟨r36, o37, o38, hc, h⟩ := bd3 h
    refine g_callV (q0 := 6) (ci := 1) (is := [6, 7, 13]) (As := [.int p1]) (ws' := [(a0, .inr (4, [.ref a1, .ref b0_1, .ref b0_2, .ref a6, .ref b0_4, .ref b0_5, .ref b0_6, .int x0_length, .int o26])), (a1, .inr (2, [.ref a2, .ref a3, .ref a4, .ref a5, .int x1_size])), (a2, .inl (cI, 10, .inl f2)), (a3, .inl (cI, 10, .inl f3)), (a4, .inl (cI, 10, .inl f4)), (a5, .inl (cI, 10, .inl f5)), (a6, .inr (1, [.ref a7, .ref a8, .ref a9, .ref a10, .ref a11, .ref a12, .ref a13, .int o37, .int o28, .int o29])), (a7, .inl (cI, 10, .inl o30)), (a8, .inl (cI, 10, .inl o31)), (a9, .inl (cI, 10, .inl o32)), (a10, .inl (cI, 10, .inl o33)), (a11, .inl (cI, 10, .inl o34)), (a12, .inl (cI, 10, .inl o35)), (a13, .inl (cI, 1024, .inl o38))]) (st := []) X (c_X1_ordersWithFirst l D cI cS cL a6 a7 a13 a8 a9 a10 a11 a12 p1 o27 o28 o29 o30 f13 r36 o37 o38 hc) gX4_numberOfPlaces_X1_ordersWithFirst rfl ⟨rfl, rfl⟩ hd_X1_ordersWithFirst ⟨Nat.le_of_ble_eq_true rfl, Nat.le_of_ble_eq_true rfl⟩ ⟨Nat.zero_le _, Nat.zero_le _⟩ rfl rfl rfl rfl rfl rfl rfl (Nat.le_of_ble_eq_true rfl) rfl dX4_numberOfPlaces_51 ?_
    have h := Option.some.inj h
    simp only [Prod.mk.injEq] at h
    obtain ⟨rfl, rfl, rfl, rfl, rfl, rfl, rfl, rfl, rfl, rfl, rfl, rfl⟩ := h
    exact g_iret X hr hlk dX4_numberOfPlaces_54 rfl rfl
def f_X4_ordersWithoutLetter (p1 : Int32) (x1_size : Int32) (f2 : Nat → Int32) (f3 : Nat → Int32) (f4 : Nat → Int32) (f5 : Nat → Int32) (x6_size : Int32) (f7 : Nat → Int32) (f8 : Nat → Int32) (f9 : Nat → Int32) (f10 : Nat → Int32) (x11_areOrdersCounted : Int32) (x11_isAnyOrder : Int32) (x11_size : Int32) (f12 : Nat → Int32) (f13 : Nat → Int32) (f14 : Nat → Int32) (f15 : Nat → Int32) (f16 : Nat → Int32) (f17 : Nat → Int32) (f18 : Nat → Int32) : Option (Int32 × Int32 × (Nat → Int32) × (Nat → Int32) × (Nat → Int32) × (Nat → Int32) × Int32 × Int32 × Int32 × (Nat → Int32) × (Nat → Int32) × (Nat → Int32) × (Nat → Int32) × (Nat → Int32) × (Nat → Int32) × (Nat → Int32)) := (f_X2_copyFrom x6_size f7 f8 f9 f10 x1_size f2 f3 f4 f5).bind (u5 fun (o2 : Int32) (o3 : Nat → Int32) (o4 : Nat → Int32) (o5 : Nat → Int32) (o6 : Nat → Int32) => (wl (u2 fun (l2_7 : Int32) (w8 : Nat → Int32) => (if o2 ≤ l2_7 then some (Sum.inr w8) else (f_X2_show l2_7 p1 0 w8).bind (u1 fun (o11 : Nat → Int32) => some (Sum.inl ((l2_7 + 1), o11))))) 9999 (0, o4)).bind (u1 fun (w9 : Nat → Int32) => (f_X1_read x11_areOrdersCounted x11_isAnyOrder x11_size f12 f13 f14 f15 f16 f17 o2 o3 w9 o5 o6).bind (u9 fun (o13 : Int32) (o14 : Int32) (o15 : Int32) (o16 : Nat → Int32) (o17 : Nat → Int32) (o18 : Nat → Int32) (o19 : Nat → Int32) (o20 : Nat → Int32) (o21 : Nat → Int32) => (f_X1_orders o13 o14 o15 o16 f18).bind (u3 fun (r22 : Int32) (o23 : Int32) (o24 : Nat → Int32) => some (r22, o2, o3, w9, o5, o6, o23, o14, o15, o16, o17, o18, o19, o20, o21, o24)))))
theorem in_X4_ordersWithoutLetter_X4 : ∀ w ∈ wsX40, w ∈ wsX4_ordersWithoutLetter := by decide +kernel
theorem fl_X4_ordersWithoutLetter_16 : Cond.fieldLink RX4 16 "ColophonHunt" "supposedShelf" "LColophonHunt$Shelf;" ∈ wsX4_ordersWithoutLetter := by decide +kernel
theorem fl_X4_ordersWithoutLetter_12 : Cond.fieldLink RX4 12 "ColophonHunt" "shelf" "LColophonHunt$Shelf;" ∈ wsX4_ordersWithoutLetter := by decide +kernel
theorem in_X4_ordersWithoutLetter_X2 : ∀ w ∈ wsX20, w ∈ wsX4_ordersWithoutLetter := by decide +kernel
theorem fl_X4_ordersWithoutLetter_75 : Cond.fieldLink RX4 75 "ColophonHunt$Shelf" "size" "I" ∈ wsX4_ordersWithoutLetter := by decide +kernel
theorem fl_X4_ordersWithoutLetter_33 : Cond.fieldLink RX4 33 "ColophonHunt" "supposedReading" "LColophonHunt$Reading;" ∈ wsX4_ordersWithoutLetter := by decide +kernel
theorem hd_X4_ordersWithoutLetter : yX4_ordersWithoutLetter.cls = RX4 ∧ yX4_ordersWithoutLetter.cls ≠ "java/lang/invoke/MethodHandle" ∧ yX4_ordersWithoutLetter.cls ≠ "java/lang/invoke/VarHandle" ∧ (parseMethodDescriptor yX4_ordersWithoutLetter.desc).map (fun d => d.parameters.length) = some 1 := by decide +kernel
set_option maxRecDepth 100000 in
set_option maxHeartbeats 4000000 in
theorem c_X4_ordersWithoutLetter (l : Launch) (D : va_G) (cI cS cL : ClassId) (a0 : Nat) (a1 : Nat) (a2 : Nat) (a3 : Nat) (a4 : Nat) (a5 : Nat) (a6 : Nat) (a7 : Nat) (a8 : Nat) (a9 : Nat) (a10 : Nat) (a11 : Nat) (a12 : Nat) (a13 : Nat) (a14 : Nat) (a15 : Nat) (a16 : Nat) (a17 : Nat) (a18 : Nat) (b0_2 : Nat) (b0_3 : Nat) (b0_5 : Nat) (b0_6 : Nat) (p1 : Int32) (x0_length : Int32) (x0_isReadingOld : Int32) (x1_size : Int32) (f2 : Nat → Int32) (f3 : Nat → Int32) (f4 : Nat → Int32) (f5 : Nat → Int32) (x6_size : Int32) (f7 : Nat → Int32) (f8 : Nat → Int32) (f9 : Nat → Int32) (f10 : Nat → Int32) (x11_areOrdersCounted : Int32) (x11_isAnyOrder : Int32) (x11_size : Int32) (f12 : Nat → Int32) (f13 : Nat → Int32) (f14 : Nat → Int32) (f15 : Nat → Int32) (f16 : Nat → Int32) (f17 : Nat → Int32) (f18 : Nat → Int32) (rr : Int32) (y0 : Int32) (y1 : Nat → Int32) (y2 : Nat → Int32) (y3 : Nat → Int32) (y4 : Nat → Int32) (y5 : Int32) (y6 : Int32) (y7 : Int32) (y8 : Nat → Int32) (y9 : Nat → Int32) (y10 : Nat → Int32) (y11 : Nat → Int32) (y12 : Nat → Int32) (y13 : Nat → Int32) (y14 : Nat → Int32) (hc : f_X4_ordersWithoutLetter p1 x1_size f2 f3 f4 f5 x6_size f7 f8 f9 f10 x11_areOrdersCounted x11_isAnyOrder x11_size f12 f13 f14 f15 f16 f17 f18 = some (rr, y0, y1, y2, y3, y4, y5, y6, y7, y8, y9, y10, y11, y12, y13, y14)) : KM l yX4_ordersWithoutLetter wsX4_ordersWithoutLetter { frames := 4, cells := 0, slots := 0, locals := 85 } D (tyS cI cS cL) [.ref a0, .int p1] [(a0, .inr (4, [.ref a1, .ref a6, .ref b0_2, .ref b0_3, .ref a11, .ref b0_5, .ref b0_6, .int x0_length, .int x0_isReadingOld])), (a1, .inr (2, [.ref a2, .ref a3, .ref a4, .ref a5, .int x1_size])), (a2, .inl (cI, 10, .inl f2)), (a3, .inl (cI, 10, .inl f3)), (a4, .inl (cI, 10, .inl f4)), (a5, .inl (cI, 10, .inl f5)), (a6, .inr (2, [.ref a7, .ref a8, .ref a9, .ref a10, .int x6_size])), (a7, .inl (cI, 10, .inl f7)), (a8, .inl (cI, 10, .inl f8)), (a9, .inl (cI, 10, .inl f9)), (a10, .inl (cI, 10, .inl f10)), (a11, .inr (1, [.ref a12, .ref a13, .ref a14, .ref a15, .ref a16, .ref a17, .ref a18, .int x11_areOrdersCounted, .int x11_isAnyOrder, .int x11_size])), (a12, .inl (cI, 10, .inl f12)), (a13, .inl (cI, 10, .inl f13)), (a14, .inl (cI, 10, .inl f14)), (a15, .inl (cI, 10, .inl f15)), (a16, .inl (cI, 10, .inl f16)), (a17, .inl (cI, 10, .inl f17)), (a18, .inl (cI, 1024, .inl f18))] (some (.int rr)) (fun w => w = [(a0, .inr (4, [.ref a1, .ref a6, .ref b0_2, .ref b0_3, .ref a11, .ref b0_5, .ref b0_6, .int x0_length, .int x0_isReadingOld])), (a1, .inr (2, [.ref a2, .ref a3, .ref a4, .ref a5, .int x1_size])), (a2, .inl (cI, 10, .inl f2)), (a3, .inl (cI, 10, .inl f3)), (a4, .inl (cI, 10, .inl f4)), (a5, .inl (cI, 10, .inl f5)), (a6, .inr (2, [.ref a7, .ref a8, .ref a9, .ref a10, .int y0])), (a7, .inl (cI, 10, .inl y1)), (a8, .inl (cI, 10, .inl y2)), (a9, .inl (cI, 10, .inl y3)), (a10, .inl (cI, 10, .inl y4)), (a11, .inr (1, [.ref a12, .ref a13, .ref a14, .ref a15, .ref a16, .ref a17, .ref a18, .int y5, .int y6, .int y7])), (a12, .inl (cI, 10, .inl y8)), (a13, .inl (cI, 10, .inl y9)), (a14, .inl (cI, 10, .inl y10)), (a15, .inl (cI, 10, .inl y11)), (a16, .inl (cI, 10, .inl y12)), (a17, .inl (cI, 10, .inl y13)), (a18, .inl (cI, 1024, .inl y14))]) 0 0 := by
  refine g_entry (cc := cX4_ordersWithoutLetter) (nL := 3) (rt := (some .int)) (by decide) rfl (Nat.le_of_ble_eq_true rfl) ?_
  intro p e s m args below meth c A (X : GC p s m args c cX4_ordersWithoutLetter 3 RX4 wsX4_ordersWithoutLetter D (tyS cI cS cL) A) hr hlk _ _
  have h := hc
  unfold f_X4_ordersWithoutLetter at h
  refine g_lv (lv' := [(0, .ref a0), (1, .int p1)]) [0, 1] rfl ?_
  refine g_aload_n X (j := 0) dX4_ordersWithoutLetter_0 rfl ?_
  refine g_get (q0 := 0) (k := 1) (ci := 4) X in_X4_ordersWithoutLetter_X4 fl_X4_ordersWithoutLetter_16 rfl rfl (Nat.le_of_ble_eq_true rfl) rfl dX4_ordersWithoutLetter_1 ?_
  refine g_aload_n X (j := 0) dX4_ordersWithoutLetter_4 rfl ?_
  refine g_get (q0 := 0) (k := 0) (ci := 4) X in_X4_ordersWithoutLetter_X4 fl_X4_ordersWithoutLetter_12 rfl rfl (Nat.le_of_ble_eq_true rfl) rfl dX4_ordersWithoutLetter_5 ?_
  obtain ⟨o2, o3, o4, o5, o6, hc, h⟩ := bd5 h
  refine g_callV (q0 := 6) (ci := 2) (is := [6, 7, 8, 9, 10, 1, 2, 3, 4, 5]) (As := [.ref a1]) (ws' := [(a0, .inr (4, [.ref a1, .ref a6, .ref b0_2, .ref b0_3, .ref a11, .ref b0_5, .ref b0_6, .int x0_length, .int x0_isReadingOld])), (a1, .inr (2, [.ref a2, .ref a3, .ref a4, .ref a5, .int x1_size])), (a2, .inl (cI, 10, .inl f2)), (a3, .inl (cI, 10, .inl f3)), (a4, .inl (cI, 10, .inl f4)), (a5, .inl (cI, 10, .inl f5)), (a6, .inr (2, [.ref a7, .ref a8, .ref a9, .ref a10, .int o2])), (a7, .inl (cI, 10, .inl o3)), (a8, .inl (cI, 10, .inl o4)), (a9, .inl (cI, 10, .inl o5)), (a10, .inl (cI, 10, .inl o6)), (a11, .inr (1, [.ref a12, .ref a13, .ref a14, .ref a15, .ref a16, .ref a17, .ref a18, .int x11_areOrdersCounted, .int x11_isAnyOrder, .int x11_size])), (a12, .inl (cI, 10, .inl f12)), (a13, .inl (cI, 10, .inl f13)), (a14, .inl (cI, 10, .inl f14)), (a15, .inl (cI, 10, .inl f15)), (a16, .inl (cI, 10, .inl f16)), (a17, .inl (cI, 10, .inl f17)), (a18, .inl (cI, 1024, .inl f18))]) (st := []) X (c_X2_copyFrom l D cI cS cL a6 a7 a8 a9 a10 a1 a2 a3 a4 a5 x6_size f7 f8 f9 f10 x1_size f2 f3 f4 f5 o2 o3 o4 o5 o6 hc) gX4_ordersWithoutLetter_X2_copyFrom rfl ⟨rfl, rfl⟩ hd_X2_copyFrom ⟨Nat.le_of_ble_eq_true rfl, Nat.le_of_ble_eq_true rfl⟩ ⟨Nat.zero_le _, Nat.zero_le _⟩ rfl rfl rfl rfl rfl rfl rfl (Nat.le_of_ble_eq_true rfl) rfl dX4_ordersWithoutLetter_8 ?_
  refine g_iconst (v := 0) X dX4_ordersWithoutLetter_11 (by decide) ?_
  refine g_istore_n (lv' := [(2, .int 0), (0, .ref a0), (1, .int p1)]) X dX4_ordersWithoutLetter_12 rfl (by decide) rfl ?_
  refine g_lv (lv' := [(0, .ref a0), (1, .int p1), (2, .int 0)]) [1, 2, 0] rfl ?_
  refine wl_g1 h (u2 fun l2_7 w8 => [(a0, .inr (4, [.ref a1, .ref a6, .ref b0_2, .ref b0_3, .ref a11, .ref b0_5, .ref b0_6, .int x0_length, .int x0_isReadingOld])), (a1, .inr (2, [.ref a2, .ref a3, .ref a4, .ref a5, .int x1_size])), (a2, .inl (cI, 10, .inl f2)), (a3, .inl (cI, 10, .inl f3)), (a4, .inl (cI, 10, .inl f4)), (a5, .inl (cI, 10, .inl f5)), (a6, .inr (2, [.ref a7, .ref a8, .ref a9, .ref a10, .int o2])), (a7, .inl (cI, 10, .inl o3)), (a8, .inl (cI, 10, .inl w8)), (a9, .inl (cI, 10, .inl o5)), (a10, .inl (cI, 10, .inl o6)), (a11, .inr (1, [.ref a12, .ref a13, .ref a14, .ref a15, .ref a16, .ref a17, .ref a18, .int x11_areOrdersCounted, .int x11_isAnyOrder, .int x11_size])), (a12, .inl (cI, 10, .inl f12)), (a13, .inl (cI, 10, .inl f13)), (a14, .inl (cI, 10, .inl f14)), (a15, .inl (cI, 10, .inl f15)), (a16, .inl (cI, 10, .inl f16)), (a17, .inl (cI, 10, .inl f17)), (a18, .inl (cI, 1024, .inl f18))]) (u2 fun l2_7 w8 => [(0, .ref a0), (1, .int p1), (2, .int l2_7)]) rfl rfl (u1 fun w9 => [(a0, .inr (4, [.ref a1, .ref a6, .ref b0_2, .ref b0_3, .ref a11, .ref b0_5, .ref b0_6, .int x0_length, .int x0_isReadingOld])), (a1, .inr (2, [.ref a2, .ref a3, .ref a4, .ref a5, .int x1_size])), (a2, .inl (cI, 10, .inl f2)), (a3, .inl (cI, 10, .inl f3)), (a4, .inl (cI, 10, .inl f4)), (a5, .inl (cI, 10, .inl f5)), (a6, .inr (2, [.ref a7, .ref a8, .ref a9, .ref a10, .int o2])), (a7, .inl (cI, 10, .inl o3)), (a8, .inl (cI, 10, .inl w9)), (a9, .inl (cI, 10, .inl o5)), (a10, .inl (cI, 10, .inl o6)), (a11, .inr (1, [.ref a12, .ref a13, .ref a14, .ref a15, .ref a16, .ref a17, .ref a18, .int x11_areOrdersCounted, .int x11_isAnyOrder, .int x11_size])), (a12, .inl (cI, 10, .inl f12)), (a13, .inl (cI, 10, .inl f13)), (a14, .inl (cI, 10, .inl f14)), (a15, .inl (cI, 10, .inl f15)), (a16, .inl (cI, 10, .inl f16)), (a17, .inl (cI, 10, .inl f17)), (a18, .inl (cI, 1024, .inl f18))]) (u1 fun w9 => [(0, .ref a0)]) 40 ?_ ?_
  · rintro w9 h
    dsimp only [u1] at h ⊢
    refine g_aload_n X (j := 0) dX4_ordersWithoutLetter_40 rfl ?_
    refine g_get (q0 := 0) (k := 4) (ci := 4) X in_X4_ordersWithoutLetter_X4 fl_X4_ordersWithoutLetter_33 rfl rfl (Nat.le_of_ble_eq_true rfl) rfl dX4_ordersWithoutLetter_41 ?_
    refine g_aload_n X (j := 0) dX4_ordersWithoutLetter_44 rfl ?_
    refine g_get (q0 := 0) (k := 1) (ci := 4) X in_X4_ordersWithoutLetter_X4 fl_X4_ordersWithoutLetter_16 rfl rfl (Nat.le_of_ble_eq_true rfl) rfl dX4_ordersWithoutLetter_45 ?_
    obtain ⟨o13, o14, o15, o16, o17, o18, o19, o20, o21, hc, h⟩ := bd9 h
    refine g_callV (q0 := 11) (ci := 1) (is := [11, 12, 13, 14, 15, 16, 17, 6, 7, 8, 9, 10]) (As := [.ref a6]) (ws' := [(a0, .inr (4, [.ref a1, .ref a6, .ref b0_2, .ref b0_3, .ref a11, .ref b0_5, .ref b0_6, .int x0_length, .int x0_isReadingOld])), (a1, .inr (2, [.ref a2, .ref a3, .ref a4, .ref a5, .int x1_size])), (a2, .inl (cI, 10, .inl f2)), (a3, .inl (cI, 10, .inl f3)), (a4, .inl (cI, 10, .inl f4)), (a5, .inl (cI, 10, .inl f5)), (a6, .inr (2, [.ref a7, .ref a8, .ref a9, .ref a10, .int o2])), (a7, .inl (cI, 10, .inl o3)), (a8, .inl (cI, 10, .inl w9)), (a9, .inl (cI, 10, .inl o5)), (a10, .inl (cI, 10, .inl o6)), (a11, .inr (1, [.ref a12, .ref a13, .ref a14, .ref a15, .ref a16, .ref a17, .ref a18, .int o13, .int o14, .int o15])), (a12, .inl (cI, 10, .inl o16)), (a13, .inl (cI, 10, .inl o17)), (a14, .inl (cI, 10, .inl o18)), (a15, .inl (cI, 10, .inl o19)), (a16, .inl (cI, 10, .inl o20)), (a17, .inl (cI, 10, .inl o21)), (a18, .inl (cI, 1024, .inl f18))]) (st := []) X (c_X1_read l D cI cS cL a11 a12 a13 a14 a15 a16 a17 a6 a7 a8 a9 a10 a18 x11_areOrdersCounted x11_isAnyOrder x11_size f12 f13 f14 f15 f16 f17 o2 o3 w9 o5 o6 o13 o14 o15 o16 o17 o18 o19 o20 o21 hc) gX4_ordersWithoutLetter_X1_read rfl ⟨rfl, rfl⟩ hd_X1_read ⟨Nat.le_of_ble_eq_true rfl, Nat.le_of_ble_eq_true rfl⟩ ⟨Nat.zero_le _, Nat.zero_le _⟩ rfl rfl rfl rfl rfl rfl rfl (Nat.le_of_ble_eq_true rfl) rfl dX4_ordersWithoutLetter_48 ?_
    refine g_aload_n X (j := 0) dX4_ordersWithoutLetter_51 rfl ?_
    refine g_get (q0 := 0) (k := 4) (ci := 4) X in_X4_ordersWithoutLetter_X4 fl_X4_ordersWithoutLetter_33 rfl rfl (Nat.le_of_ble_eq_true rfl) rfl dX4_ordersWithoutLetter_52 ?_
    obtain ⟨r22, o23, o24, hc, h⟩ := bd3 h
    refine g_callV (q0 := 11) (ci := 1) (is := [11, 12, 18]) (As := []) (ws' := [(a0, .inr (4, [.ref a1, .ref a6, .ref b0_2, .ref b0_3, .ref a11, .ref b0_5, .ref b0_6, .int x0_length, .int x0_isReadingOld])), (a1, .inr (2, [.ref a2, .ref a3, .ref a4, .ref a5, .int x1_size])), (a2, .inl (cI, 10, .inl f2)), (a3, .inl (cI, 10, .inl f3)), (a4, .inl (cI, 10, .inl f4)), (a5, .inl (cI, 10, .inl f5)), (a6, .inr (2, [.ref a7, .ref a8, .ref a9, .ref a10, .int o2])), (a7, .inl (cI, 10, .inl o3)), (a8, .inl (cI, 10, .inl w9)), (a9, .inl (cI, 10, .inl o5)), (a10, .inl (cI, 10, .inl o6)), (a11, .inr (1, [.ref a12, .ref a13, .ref a14, .ref a15, .ref a16, .ref a17, .ref a18, .int o23, .int o14, .int o15])), (a12, .inl (cI, 10, .inl o16)), (a13, .inl (cI, 10, .inl o17)), (a14, .inl (cI, 10, .inl o18)), (a15, .inl (cI, 10, .inl o19)), (a16, .inl (cI, 10, .inl o20)), (a17, .inl (cI, 10, .inl o21)), (a18, .inl (cI, 1024, .inl o24))]) (st := []) X (c_X1_orders l D cI cS cL a11 a12 a18 a13 a14 a15 a16 a17 o13 o14 o15 o16 f18 r22 o23 o24 hc) gX4_ordersWithoutLetter_X1_orders rfl ⟨rfl, rfl⟩ hd_X1_orders ⟨Nat.le_of_ble_eq_true rfl, Nat.le_of_ble_eq_true rfl⟩ ⟨Nat.zero_le _, Nat.zero_le _⟩ rfl rfl rfl rfl rfl rfl rfl (Nat.le_of_ble_eq_true rfl) rfl dX4_ordersWithoutLetter_55 ?_
    have h := Option.some.inj h
    simp only [Prod.mk.injEq] at h
    obtain ⟨rfl, rfl, rfl, rfl, rfl, rfl, rfl, rfl, rfl, rfl, rfl, rfl, rfl, rfl, rfl, rfl⟩ := h
    exact g_iret X hr hlk dX4_ordersWithoutLetter_58 rfl rfl
  · rintro ⟨l2_7, w8⟩ o h hI hE
    dsimp only [u2] at h ⊢
    refine g_iload_n X (j := 2) dX4_ordersWithoutLetter_13 rfl ?_
    refine g_aload_n X (j := 0) dX4_ordersWithoutLetter_14 rfl ?_
    refine g_get (q0 := 0) (k := 1) (ci := 4) X in_X4_ordersWithoutLetter_X4 fl_X4_ordersWithoutLetter_16 rfl rfl (Nat.le_of_ble_eq_true rfl) rfl dX4_ordersWithoutLetter_15 ?_
    refine g_get (q0 := 6) (k := 4) (ci := 2) X in_X4_ordersWithoutLetter_X2 fl_X4_ordersWithoutLetter_75 rfl rfl (Nat.le_of_ble_eq_true rfl) rfl dX4_ordersWithoutLetter_18 ?_
    refine g_icmp_ge (tgt := 40) X h dX4_ordersWithoutLetter_21 (by decide) (fun h => ?_) (fun h => ?_)
    · refine g_lv (lv' := [(0, .ref a0)]) [0] rfl ?_
      exact hE w8 (Option.some.inj h).symm
    · refine g_aload_n X (j := 0) dX4_ordersWithoutLetter_24 rfl ?_
      refine g_get (q0 := 0) (k := 1) (ci := 4) X in_X4_ordersWithoutLetter_X4 fl_X4_ordersWithoutLetter_16 rfl rfl (Nat.le_of_ble_eq_true rfl) rfl dX4_ordersWithoutLetter_25 ?_
      refine g_iload_n X (j := 2) dX4_ordersWithoutLetter_28 rfl ?_
      refine g_iload_n X (j := 1) dX4_ordersWithoutLetter_29 rfl ?_
      refine g_iconst (v := 0) X dX4_ordersWithoutLetter_30 (by decide) ?_
      obtain ⟨o11, hc, h⟩ := bd1 h
      refine g_callV (q0 := 6) (ci := 2) (is := [6, 8]) (As := [.int l2_7, .int p1, .int 0]) (ws' := [(a0, .inr (4, [.ref a1, .ref a6, .ref b0_2, .ref b0_3, .ref a11, .ref b0_5, .ref b0_6, .int x0_length, .int x0_isReadingOld])), (a1, .inr (2, [.ref a2, .ref a3, .ref a4, .ref a5, .int x1_size])), (a2, .inl (cI, 10, .inl f2)), (a3, .inl (cI, 10, .inl f3)), (a4, .inl (cI, 10, .inl f4)), (a5, .inl (cI, 10, .inl f5)), (a6, .inr (2, [.ref a7, .ref a8, .ref a9, .ref a10, .int o2])), (a7, .inl (cI, 10, .inl o3)), (a8, .inl (cI, 10, .inl o11)), (a9, .inl (cI, 10, .inl o5)), (a10, .inl (cI, 10, .inl o6)), (a11, .inr (1, [.ref a12, .ref a13, .ref a14, .ref a15, .ref a16, .ref a17, .ref a18, .int x11_areOrdersCounted, .int x11_isAnyOrder, .int x11_size])), (a12, .inl (cI, 10, .inl f12)), (a13, .inl (cI, 10, .inl f13)), (a14, .inl (cI, 10, .inl f14)), (a15, .inl (cI, 10, .inl f15)), (a16, .inl (cI, 10, .inl f16)), (a17, .inl (cI, 10, .inl f17)), (a18, .inl (cI, 1024, .inl f18))]) (st := []) X (c_X2_show l D cI cS cL a6 a8 a7 a9 a10 l2_7 p1 0 o2 w8 o11 hc) gX4_ordersWithoutLetter_X2_show rfl ⟨rfl, rfl⟩ hd_X2_show ⟨Nat.le_of_ble_eq_true rfl, Nat.le_of_ble_eq_true rfl⟩ ⟨Nat.zero_le _, Nat.zero_le _⟩ rfl rfl rfl rfl rfl rfl rfl (Nat.le_of_ble_eq_true rfl) rfl dX4_ordersWithoutLetter_31 ?_
      refine g_iinc (j := 2) (lv' := [(2, .int (l2_7 + 1)), (0, .ref a0), (1, .int p1)]) X (l2_7 + 1) dX4_ordersWithoutLetter_34 rfl rfl (by decide) rfl ?_
      refine g_goto (tgt := 13) X dX4_ordersWithoutLetter_37 (by decide) ?_
      refine g_lv (lv' := [(0, .ref a0), (1, .int p1), (2, .int (l2_7 + 1))]) [1, 2, 0] rfl ?_
      exact hI ((l2_7 + 1), o11) (Option.some.inj h).symm
def f_X4_numberIfYear (p1 : Int32) (p2 : Int32) (p3 : Int32) (x1_size : Int32) (f2 : Nat → Int32) (f3 : Nat → Int32) (f4 : Nat → Int32) (f5 : Nat → Int32) (x6_size : Int32) (f7 : Nat → Int32) (f8 : Nat → Int32) (f9 : Nat → Int32) (f10 : Nat → Int32) (x11_areOrdersCounted : Int32) (x11_isAnyOrder : Int32) (x11_size : Int32) (f12 : Nat → Int32) (f13 : Nat → Int32) (f14 : Nat → Int32) (f15 : Nat → Int32) (f16 : Nat → Int32) (f17 : Nat → Int32) (f18 : Nat → Int32) : Option (Int32 × Int32 × (Nat → Int32) × (Nat → Int32) × (Nat → Int32) × (Nat → Int32) × Int32 × Int32 × Int32 × (Nat → Int32) × (Nat → Int32) × (Nat → Int32) × (Nat → Int32) × (Nat → Int32) × (Nat → Int32) × (Nat → Int32)) := (f_X2_copyFrom x6_size f7 f8 f9 f10 x1_size f2 f3 f4 f5).bind (u5 fun (o2 : Int32) (o3 : Nat → Int32) (o4 : Nat → Int32) (o5 : Nat → Int32) (o6 : Nat → Int32) => (wrA o6 10 p1 p2).bind (fun g7 => (f_X1_read x11_areOrdersCounted x11_isAnyOrder x11_size f12 f13 f14 f15 f16 f17 o2 o3 o4 o5 g7).bind (u9 fun (o9 : Int32) (o10 : Int32) (o11 : Int32) (o12 : Nat → Int32) (o13 : Nat → Int32) (o14 : Nat → Int32) (o15 : Nat → Int32) (o16 : Nat → Int32) (o17 : Nat → Int32) => (jn (u3 fun (w18 : Int32) (w19 : Nat → Int32) (s20 : Int32) => some (s20, o2, o3, o4, o5, g7, w18, o10, o11, o12, o13, o14, o15, o16, o17, w19)) (fun K21 => (if p3 = 0 then (f_X1_orders o9 o10 o11 o12 f18).bind (u3 fun (r23 : Int32) (o24 : Int32) (o25 : Nat → Int32) => K21 (o24, o25, r23)) else (f_X1_datedBooks o11 o14 o15).bind (u1 fun (r22 : Int32) => K21 (o9, f18, r22))))))))
theorem in_X4_numberIfYear_X4 : ∀ w ∈ wsX40, w ∈ wsX4_numberIfYear := by decide +kernel
theorem fl_X4_numberIfYear_16 : Cond.fieldLink RX4 16 "ColophonHunt" "supposedShelf" "LColophonHunt$Shelf;" ∈ wsX4_numberIfYear := by decide +kernel
theorem fl_X4_numberIfYear_12 : Cond.fieldLink RX4 12 "ColophonHunt" "shelf" "LColophonHunt$Shelf;" ∈ wsX4_numberIfYear := by decide +kernel
theorem in_X4_numberIfYear_X2 : ∀ w ∈ wsX20, w ∈ wsX4_numberIfYear := by decide +kernel
theorem fl_X4_numberIfYear_121 : Cond.fieldLink RX4 121 "ColophonHunt$Shelf" "years" "[I" ∈ wsX4_numberIfYear := by decide +kernel
theorem fl_X4_numberIfYear_33 : Cond.fieldLink RX4 33 "ColophonHunt" "supposedReading" "LColophonHunt$Reading;" ∈ wsX4_numberIfYear := by decide +kernel
theorem hd_X4_numberIfYear : yX4_numberIfYear.cls = RX4 ∧ yX4_numberIfYear.cls ≠ "java/lang/invoke/MethodHandle" ∧ yX4_numberIfYear.cls ≠ "java/lang/invoke/VarHandle" ∧ (parseMethodDescriptor yX4_numberIfYear.desc).map (fun d => d.parameters.length) = some 3 := by decide +kernel
set_option maxRecDepth 100000 in
set_option maxHeartbeats 4000000 in
theorem c_X4_numberIfYear (l : Launch) (D : va_G) (cI cS cL : ClassId) (a0 : Nat) (a1 : Nat) (a2 : Nat) (a3 : Nat) (a4 : Nat) (a5 : Nat) (a6 : Nat) (a7 : Nat) (a8 : Nat) (a9 : Nat) (a10 : Nat) (a11 : Nat) (a12 : Nat) (a13 : Nat) (a14 : Nat) (a15 : Nat) (a16 : Nat) (a17 : Nat) (a18 : Nat) (b0_2 : Nat) (b0_3 : Nat) (b0_5 : Nat) (b0_6 : Nat) (p1 : Int32) (p2 : Int32) (p3 : Int32) (x0_length : Int32) (x0_isReadingOld : Int32) (x1_size : Int32) (f2 : Nat → Int32) (f3 : Nat → Int32) (f4 : Nat → Int32) (f5 : Nat → Int32) (x6_size : Int32) (f7 : Nat → Int32) (f8 : Nat → Int32) (f9 : Nat → Int32) (f10 : Nat → Int32) (x11_areOrdersCounted : Int32) (x11_isAnyOrder : Int32) (x11_size : Int32) (f12 : Nat → Int32) (f13 : Nat → Int32) (f14 : Nat → Int32) (f15 : Nat → Int32) (f16 : Nat → Int32) (f17 : Nat → Int32) (f18 : Nat → Int32) (rr : Int32) (y0 : Int32) (y1 : Nat → Int32) (y2 : Nat → Int32) (y3 : Nat → Int32) (y4 : Nat → Int32) (y5 : Int32) (y6 : Int32) (y7 : Int32) (y8 : Nat → Int32) (y9 : Nat → Int32) (y10 : Nat → Int32) (y11 : Nat → Int32) (y12 : Nat → Int32) (y13 : Nat → Int32) (y14 : Nat → Int32) (hc : f_X4_numberIfYear p1 p2 p3 x1_size f2 f3 f4 f5 x6_size f7 f8 f9 f10 x11_areOrdersCounted x11_isAnyOrder x11_size f12 f13 f14 f15 f16 f17 f18 = some (rr, y0, y1, y2, y3, y4, y5, y6, y7, y8, y9, y10, y11, y12, y13, y14)) : KM l yX4_numberIfYear wsX4_numberIfYear { frames := 4, cells := 0, slots := 0, locals := 85 } D (tyS cI cS cL) [.ref a0, .int p1, .int p2, .int p3] [(a0, .inr (4, [.ref a1, .ref a6, .ref b0_2, .ref b0_3, .ref a11, .ref b0_5, .ref b0_6, .int x0_length, .int x0_isReadingOld])), (a1, .inr (2, [.ref a2, .ref a3, .ref a4, .ref a5, .int x1_size])), (a2, .inl (cI, 10, .inl f2)), (a3, .inl (cI, 10, .inl f3)), (a4, .inl (cI, 10, .inl f4)), (a5, .inl (cI, 10, .inl f5)), (a6, .inr (2, [.ref a7, .ref a8, .ref a9, .ref a10, .int x6_size])), (a7, .inl (cI, 10, .inl f7)), (a8, .inl (cI, 10, .inl f8)), (a9, .inl (cI, 10, .inl f9)), (a10, .inl (cI, 10, .inl f10)), (a11, .inr (1, [.ref a12, .ref a13, .ref a14, .ref a15, .ref a16, .ref a17, .ref a18, .int x11_areOrdersCounted, .int x11_isAnyOrder, .int x11_size])), (a12, .inl (cI, 10, .inl f12)), (a13, .inl (cI, 10, .inl f13)), (a14, .inl (cI, 10, .inl f14)), (a15, .inl (cI, 10, .inl f15)), (a16, .inl (cI, 10, .inl f16)), (a17, .inl (cI, 10, .inl f17)), (a18, .inl (cI, 1024, .inl f18))] (some (.int rr)) (fun w => w = [(a0, .inr (4, [.ref a1, .ref a6, .ref b0_2, .ref b0_3, .ref a11, .ref b0_5, .ref b0_6, .int x0_length, .int x0_isReadingOld])), (a1, .inr (2, [.ref a2, .ref a3, .ref a4, .ref a5, .int x1_size])), (a2, .inl (cI, 10, .inl f2)), (a3, .inl (cI, 10, .inl f3)), (a4, .inl (cI, 10, .inl f4)), (a5, .inl (cI, 10, .inl f5)), (a6, .inr (2, [.ref a7, .ref a8, .ref a9, .ref a10, .int y0])), (a7, .inl (cI, 10, .inl y1)), (a8, .inl (cI, 10, .inl y2)), (a9, .inl (cI, 10, .inl y3)), (a10, .inl (cI, 10, .inl y4)), (a11, .inr (1, [.ref a12, .ref a13, .ref a14, .ref a15, .ref a16, .ref a17, .ref a18, .int y5, .int y6, .int y7])), (a12, .inl (cI, 10, .inl y8)), (a13, .inl (cI, 10, .inl y9)), (a14, .inl (cI, 10, .inl y10)), (a15, .inl (cI, 10, .inl y11)), (a16, .inl (cI, 10, .inl y12)), (a17, .inl (cI, 10, .inl y13)), (a18, .inl (cI, 1024, .inl y14))]) 0 0 := by
  refine g_entry (cc := cX4_numberIfYear) (nL := 4) (rt := (some .int)) (by decide) rfl (Nat.le_of_ble_eq_true rfl) ?_
  intro p e s m args below meth c A (X : GC p s m args c cX4_numberIfYear 4 RX4 wsX4_numberIfYear D (tyS cI cS cL) A) hr hlk _ _
  have h := hc
  unfold f_X4_numberIfYear at h
  refine g_lv (lv' := [(0, .ref a0), (1, .int p1), (2, .int p2), (3, .int p3)]) [0, 1, 2, 3] rfl ?_
  refine g_aload_n X (j := 0) dX4_numberIfYear_0 rfl ?_
  refine g_get (q0 := 0) (k := 1) (ci := 4) X in_X4_numberIfYear_X4 fl_X4_numberIfYear_16 rfl rfl (Nat.le_of_ble_eq_true rfl) rfl dX4_numberIfYear_1 ?_
  refine g_aload_n X (j := 0) dX4_numberIfYear_4 rfl ?_
  refine g_get (q0 := 0) (k := 0) (ci := 4) X in_X4_numberIfYear_X4 fl_X4_numberIfYear_12 rfl rfl (Nat.le_of_ble_eq_true rfl) rfl dX4_numberIfYear_5 ?_
  obtain ⟨o2, o3, o4, o5, o6, hc, h⟩ := bd5 h
  refine g_callV (q0 := 6) (ci := 2) (is := [6, 7, 8, 9, 10, 1, 2, 3, 4, 5]) (As := [.ref a1]) (ws' := [(a0, .inr (4, [.ref a1, .ref a6, .ref b0_2, .ref b0_3, .ref a11, .ref b0_5, .ref b0_6, .int x0_length, .int x0_isReadingOld])), (a1, .inr (2, [.ref a2, .ref a3, .ref a4, .ref a5, .int x1_size])), (a2, .inl (cI, 10, .inl f2)), (a3, .inl (cI, 10, .inl f3)), (a4, .inl (cI, 10, .inl f4)), (a5, .inl (cI, 10, .inl f5)), (a6, .inr (2, [.ref a7, .ref a8, .ref a9, .ref a10, .int o2])), (a7, .inl (cI, 10, .inl o3)), (a8, .inl (cI, 10, .inl o4)), (a9, .inl (cI, 10, .inl o5)), (a10, .inl (cI, 10, .inl o6)), (a11, .inr (1, [.ref a12, .ref a13, .ref a14, .ref a15, .ref a16, .ref a17, .ref a18, .int x11_areOrdersCounted, .int x11_isAnyOrder, .int x11_size])), (a12, .inl (cI, 10, .inl f12)), (a13, .inl (cI, 10, .inl f13)), (a14, .inl (cI, 10, .inl f14)), (a15, .inl (cI, 10, .inl f15)), (a16, .inl (cI, 10, .inl f16)), (a17, .inl (cI, 10, .inl f17)), (a18, .inl (cI, 1024, .inl f18))]) (st := []) X (c_X2_copyFrom l D cI cS cL a6 a7 a8 a9 a10 a1 a2 a3 a4 a5 x6_size f7 f8 f9 f10 x1_size f2 f3 f4 f5 o2 o3 o4 o5 o6 hc) gX4_numberIfYear_X2_copyFrom rfl ⟨rfl, rfl⟩ hd_X2_copyFrom ⟨Nat.le_of_ble_eq_true rfl, Nat.le_of_ble_eq_true rfl⟩ ⟨Nat.zero_le _, Nat.zero_le _⟩ rfl rfl rfl rfl rfl rfl rfl (Nat.le_of_ble_eq_true rfl) rfl dX4_numberIfYear_8 ?_
  refine g_aload_n X (j := 0) dX4_numberIfYear_11 rfl ?_
  refine g_get (q0 := 0) (k := 1) (ci := 4) X in_X4_numberIfYear_X4 fl_X4_numberIfYear_16 rfl rfl (Nat.le_of_ble_eq_true rfl) rfl dX4_numberIfYear_12 ?_
  refine g_get (q0 := 6) (k := 3) (ci := 2) X in_X4_numberIfYear_X2 fl_X4_numberIfYear_121 rfl rfl (Nat.le_of_ble_eq_true rfl) rfl dX4_numberIfYear_15 ?_
  refine g_iload_n X (j := 1) dX4_numberIfYear_18 rfl ?_
  refine g_iload_n X (j := 2) dX4_numberIfYear_19 rfl ?_
  refine g_iast (q0 := 10) (t0 := 0) (ws1 := fun g7 => [(a0, .inr (4, [.ref a1, .ref a6, .ref b0_2, .ref b0_3, .ref a11, .ref b0_5, .ref b0_6, .int x0_length, .int x0_isReadingOld])), (a1, .inr (2, [.ref a2, .ref a3, .ref a4, .ref a5, .int x1_size])), (a2, .inl (cI, 10, .inl f2)), (a3, .inl (cI, 10, .inl f3)), (a4, .inl (cI, 10, .inl f4)), (a5, .inl (cI, 10, .inl f5)), (a6, .inr (2, [.ref a7, .ref a8, .ref a9, .ref a10, .int o2])), (a7, .inl (cI, 10, .inl o3)), (a8, .inl (cI, 10, .inl o4)), (a9, .inl (cI, 10, .inl o5)), (a10, .inl (cI, 10, .inl g7)), (a11, .inr (1, [.ref a12, .ref a13, .ref a14, .ref a15, .ref a16, .ref a17, .ref a18, .int x11_areOrdersCounted, .int x11_isAnyOrder, .int x11_size])), (a12, .inl (cI, 10, .inl f12)), (a13, .inl (cI, 10, .inl f13)), (a14, .inl (cI, 10, .inl f14)), (a15, .inl (cI, 10, .inl f15)), (a16, .inl (cI, 10, .inl f16)), (a17, .inl (cI, 10, .inl f17)), (a18, .inl (cI, 1024, .inl f18))]) X h rfl rfl dX4_numberIfYear_20 (fun _ => rfl) (fun g7 h => ?_)
  refine g_aload_n X (j := 0) dX4_numberIfYear_21 rfl ?_
  refine g_get (q0 := 0) (k := 4) (ci := 4) X in_X4_numberIfYear_X4 fl_X4_numberIfYear_33 rfl rfl (Nat.le_of_ble_eq_true rfl) rfl dX4_numberIfYear_22 ?_
  refine g_aload_n X (j := 0) dX4_numberIfYear_25 rfl ?_
  refine g_get (q0 := 0) (k := 1) (ci := 4) X in_X4_numberIfYear_X4 fl_X4_numberIfYear_16 rfl rfl (Nat.le_of_ble_eq_true rfl) rfl dX4_numberIfYear_26 ?_
  obtain ⟨o9, o10, o11, o12, o13, o14, o15, o16, o17, hc, h⟩ := bd9 h
  refine g_callV (q0 := 11) (ci := 1) (is := [11, 12, 13, 14, 15, 16, 17, 6, 7, 8, 9, 10]) (As := [.ref a6]) (ws' := [(a0, .inr (4, [.ref a1, .ref a6, .ref b0_2, .ref b0_3, .ref a11, .ref b0_5, .ref b0_6, .int x0_length, .int x0_isReadingOld])), (a1, .inr (2, [.ref a2, .ref a3, .ref a4, .ref a5, .int x1_size])), (a2, .inl (cI, 10, .inl f2)), (a3, .inl (cI, 10, .inl f3)), (a4, .inl (cI, 10, .inl f4)), (a5, .inl (cI, 10, .inl f5)), (a6, .inr (2, [.ref a7, .ref a8, .ref a9, .ref a10, .int o2])), (a7, .inl (cI, 10, .inl o3)), (a8, .inl (cI, 10, .inl o4)), (a9, .inl (cI, 10, .inl o5)), (a10, .inl (cI, 10, .inl g7)), (a11, .inr (1, [.ref a12, .ref a13, .ref a14, .ref a15, .ref a16, .ref a17, .ref a18, .int o9, .int o10, .int o11])), (a12, .inl (cI, 10, .inl o12)), (a13, .inl (cI, 10, .inl o13)), (a14, .inl (cI, 10, .inl o14)), (a15, .inl (cI, 10, .inl o15)), (a16, .inl (cI, 10, .inl o16)), (a17, .inl (cI, 10, .inl o17)), (a18, .inl (cI, 1024, .inl f18))]) (st := []) X (c_X1_read l D cI cS cL a11 a12 a13 a14 a15 a16 a17 a6 a7 a8 a9 a10 a18 x11_areOrdersCounted x11_isAnyOrder x11_size f12 f13 f14 f15 f16 f17 o2 o3 o4 o5 g7 o9 o10 o11 o12 o13 o14 o15 o16 o17 hc) gX4_numberIfYear_X1_read rfl ⟨rfl, rfl⟩ hd_X1_read ⟨Nat.le_of_ble_eq_true rfl, Nat.le_of_ble_eq_true rfl⟩ ⟨Nat.zero_le _, Nat.zero_le _⟩ rfl rfl rfl rfl rfl rfl rfl (Nat.le_of_ble_eq_true rfl) rfl dX4_numberIfYear_29 ?_
  refine g_iload_n X (j := 3) dX4_numberIfYear_32 rfl ?_
  refine jn_g h (u3 fun w18 w19 s20 => [(a0, .inr (4, [.ref a1, .ref a6, .ref b0_2, .ref b0_3, .ref a11, .ref b0_5, .ref b0_6, .int x0_length, .int x0_isReadingOld])), (a1, .inr (2, [.ref a2, .ref a3, .ref a4, .ref a5, .int x1_size])), (a2, .inl (cI, 10, .inl f2)), (a3, .inl (cI, 10, .inl f3)), (a4, .inl (cI, 10, .inl f4)), (a5, .inl (cI, 10, .inl f5)), (a6, .inr (2, [.ref a7, .ref a8, .ref a9, .ref a10, .int o2])), (a7, .inl (cI, 10, .inl o3)), (a8, .inl (cI, 10, .inl o4)), (a9, .inl (cI, 10, .inl o5)), (a10, .inl (cI, 10, .inl g7)), (a11, .inr (1, [.ref a12, .ref a13, .ref a14, .ref a15, .ref a16, .ref a17, .ref a18, .int w18, .int o10, .int o11])), (a12, .inl (cI, 10, .inl o12)), (a13, .inl (cI, 10, .inl o13)), (a14, .inl (cI, 10, .inl o14)), (a15, .inl (cI, 10, .inl o15)), (a16, .inl (cI, 10, .inl o16)), (a17, .inl (cI, 10, .inl o17)), (a18, .inl (cI, 1024, .inl w19))]) (u3 fun w18 w19 s20 => []) (u3 fun w18 w19 s20 => [.int s20]) 53 ?_ ?_
  · rintro ⟨w18, w19, s20⟩ h
    dsimp only [u3] at h ⊢
    have h := Option.some.inj h
    simp only [Prod.mk.injEq] at h
    obtain ⟨rfl, rfl, rfl, rfl, rfl, rfl, rfl, rfl, rfl, rfl, rfl, rfl, rfl, rfl, rfl, rfl⟩ := h
    exact g_iret X hr hlk dX4_numberIfYear_53 rfl rfl
  · intro K21 hK21 h
    refine g_if_ne (tgt := 46) X h dX4_numberIfYear_33 (by decide) (fun h => ?_) (fun h => ?_)
    · refine g_aload_n X (j := 0) dX4_numberIfYear_46 rfl ?_
      refine g_get (q0 := 0) (k := 4) (ci := 4) X in_X4_numberIfYear_X4 fl_X4_numberIfYear_33 rfl rfl (Nat.le_of_ble_eq_true rfl) rfl dX4_numberIfYear_47 ?_
      obtain ⟨r22, hc, h⟩ := bd1 h
      refine g_callV (q0 := 11) (ci := 1) (is := [11, 14, 15]) (As := []) (ws' := [(a0, .inr (4, [.ref a1, .ref a6, .ref b0_2, .ref b0_3, .ref a11, .ref b0_5, .ref b0_6, .int x0_length, .int x0_isReadingOld])), (a1, .inr (2, [.ref a2, .ref a3, .ref a4, .ref a5, .int x1_size])), (a2, .inl (cI, 10, .inl f2)), (a3, .inl (cI, 10, .inl f3)), (a4, .inl (cI, 10, .inl f4)), (a5, .inl (cI, 10, .inl f5)), (a6, .inr (2, [.ref a7, .ref a8, .ref a9, .ref a10, .int o2])), (a7, .inl (cI, 10, .inl o3)), (a8, .inl (cI, 10, .inl o4)), (a9, .inl (cI, 10, .inl o5)), (a10, .inl (cI, 10, .inl g7)), (a11, .inr (1, [.ref a12, .ref a13, .ref a14, .ref a15, .ref a16, .ref a17, .ref a18, .int o9, .int o10, .int o11])), (a12, .inl (cI, 10, .inl o12)), (a13, .inl (cI, 10, .inl o13)), (a14, .inl (cI, 10, .inl o14)), (a15, .inl (cI, 10, .inl o15)), (a16, .inl (cI, 10, .inl o16)), (a17, .inl (cI, 10, .inl o17)), (a18, .inl (cI, 1024, .inl f18))]) (st := []) X (c_X1_datedBooks l D cI cS cL a11 a14 a15 a12 a13 a16 a17 a18 o9 o10 o11 o14 o15 r22 hc) gX4_numberIfYear_X1_datedBooks rfl ⟨rfl, rfl⟩ hd_X1_datedBooks ⟨Nat.le_of_ble_eq_true rfl, Nat.le_of_ble_eq_true rfl⟩ ⟨Nat.zero_le _, Nat.zero_le _⟩ rfl rfl rfl rfl rfl rfl rfl (Nat.le_of_ble_eq_true rfl) rfl dX4_numberIfYear_50 ?_
      refine g_lv (lv' := []) [] rfl ?_
      exact hK21 (o9, f18, r22) h
    · refine g_aload_n X (j := 0) dX4_numberIfYear_36 rfl ?_
      refine g_get (q0 := 0) (k := 4) (ci := 4) X in_X4_numberIfYear_X4 fl_X4_numberIfYear_33 rfl rfl (Nat.le_of_ble_eq_true rfl) rfl dX4_numberIfYear_37 ?_
      obtain ⟨r23, o24, o25, hc, h⟩ := bd3 h
      refine g_callV (q0 := 11) (ci := 1) (is := [11, 12, 18]) (As := []) (ws' := [(a0, .inr (4, [.ref a1, .ref a6, .ref b0_2, .ref b0_3, .ref a11, .ref b0_5, .ref b0_6, .int x0_length, .int x0_isReadingOld])), (a1, .inr (2, [.ref a2, .ref a3, .ref a4, .ref a5, .int x1_size])), (a2, .inl (cI, 10, .inl f2)), (a3, .inl (cI, 10, .inl f3)), (a4, .inl (cI, 10, .inl f4)), (a5, .inl (cI, 10, .inl f5)), (a6, .inr (2, [.ref a7, .ref a8, .ref a9, .ref a10, .int o2])), (a7, .inl (cI, 10, .inl o3)), (a8, .inl (cI, 10, .inl o4)), (a9, .inl (cI, 10, .inl o5)), (a10, .inl (cI, 10, .inl g7)), (a11, .inr (1, [.ref a12, .ref a13, .ref a14, .ref a15, .ref a16, .ref a17, .ref a18, .int o24, .int o10, .int o11])), (a12, .inl (cI, 10, .inl o12)), (a13, .inl (cI, 10, .inl o13)), (a14, .inl (cI, 10, .inl o14)), (a15, .inl (cI, 10, .inl o15)), (a16, .inl (cI, 10, .inl o16)), (a17, .inl (cI, 10, .inl o17)), (a18, .inl (cI, 1024, .inl o25))]) (st := []) X (c_X1_orders l D cI cS cL a11 a12 a18 a13 a14 a15 a16 a17 o9 o10 o11 o12 f18 r23 o24 o25 hc) gX4_numberIfYear_X1_orders rfl ⟨rfl, rfl⟩ hd_X1_orders ⟨Nat.le_of_ble_eq_true rfl, Nat.le_of_ble_eq_true rfl⟩ ⟨Nat.zero_le _, Nat.zero_le _⟩ rfl rfl rfl rfl rfl rfl rfl (Nat.le_of_ble_eq_true rfl) rfl dX4_numberIfYear_40 ?_
      refine g_goto (tgt := 53) X dX4_numberIfYear_43 (by decide) ?_
      refine g_lv (lv' := []) [] rfl ?_
      exact hK21 (o24, o25, r23) h
def f_X4_datedShare (x0_isReadingOld : Int32) (x1_size : Int32) (f2 : Nat → Int32) (f3 : Nat → Int32) (f4 : Nat → Int32) (f5 : Nat → Int32) (x6_areOrdersCounted : Int32) (x6_isAnyOrder : Int32) (x6_size : Int32) (f7 : Nat → Int32) (f8 : Nat → Int32) (f9 : Nat → Int32) (f10 : Nat → Int32) (f11 : Nat → Int32) (f12 : Nat → Int32) : Option (UInt64 × Int32 × Int32 × Int32 × Int32 × (Nat → Int32) × (Nat → Int32) × (Nat → Int32) × (Nat → Int32) × (Nat → Int32) × (Nat → Int32)) := (if x1_size = 0 then some (FP.dconst1, x0_isReadingOld, x6_areOrdersCounted, x6_isAnyOrder, x6_size, f7, f8, f9, f10, f11, f12) else (f_X4_currentReading x0_isReadingOld x1_size f2 f3 f4 f5 x6_areOrdersCounted x6_isAnyOrder x6_size f7 f8 f9 f10 f11 f12).bind (u10 fun (o2 : Int32) (o3 : Int32) (o4 : Int32) (o5 : Int32) (o6 : Nat → Int32) (o7 : Nat → Int32) (o8 : Nat → Int32) (o9 : Nat → Int32) (o10 : Nat → Int32) (o11 : Nat → Int32) => (f_X1_datedBooks o5 o8 o9).bind (u1 fun (r12 : Int32) => gN (FP.ddiv (FP.i2d r12) (FP.i2d x1_size)) fun _ => some ((FP.ddiv (FP.i2d r12) (FP.i2d x1_size)), o2, o3, o4, o5, o6, o7, o8, o9, o10, o11))))
theorem in_X4_datedShare_X4 : ∀ w ∈ wsX40, w ∈ wsX4_datedShare := by decide +kernel
theorem fl_X4_datedShare_12 : Cond.fieldLink RX4 12 "ColophonHunt" "shelf" "LColophonHunt$Shelf;" ∈ wsX4_datedShare := by decide +kernel
theorem in_X4_datedShare_X2 : ∀ w ∈ wsX20, w ∈ wsX4_datedShare := by decide +kernel
theorem fl_X4_datedShare_75 : Cond.fieldLink RX4 75 "ColophonHunt$Shelf" "size" "I" ∈ wsX4_datedShare := by decide +kernel
theorem hd_X4_datedShare : yX4_datedShare.cls = RX4 ∧ yX4_datedShare.cls ≠ "java/lang/invoke/MethodHandle" ∧ yX4_datedShare.cls ≠ "java/lang/invoke/VarHandle" ∧ (parseMethodDescriptor yX4_datedShare.desc).map (fun d => d.parameters.length) = some 0 := by decide +kernel
set_option maxRecDepth 100000 in
set_option maxHeartbeats 4000000 in
theorem c_X4_datedShare (l : Launch) (D : va_G) (cI cS cL : ClassId) (a0 : Nat) (a1 : Nat) (a2 : Nat) (a3 : Nat) (a4 : Nat) (a5 : Nat) (a6 : Nat) (a7 : Nat) (a8 : Nat) (a9 : Nat) (a10 : Nat) (a11 : Nat) (a12 : Nat) (b0_1 : Nat) (b0_2 : Nat) (b0_4 : Nat) (b0_5 : Nat) (b0_6 : Nat) (b6_6 : Nat) (x0_length : Int32) (x0_isReadingOld : Int32) (x1_size : Int32) (f2 : Nat → Int32) (f3 : Nat → Int32) (f4 : Nat → Int32) (f5 : Nat → Int32) (x6_areOrdersCounted : Int32) (x6_isAnyOrder : Int32) (x6_size : Int32) (f7 : Nat → Int32) (f8 : Nat → Int32) (f9 : Nat → Int32) (f10 : Nat → Int32) (f11 : Nat → Int32) (f12 : Nat → Int32) (rr : UInt64) (y0 : Int32) (y1 : Int32) (y2 : Int32) (y3 : Int32) (y4 : Nat → Int32) (y5 : Nat → Int32) (y6 : Nat → Int32) (y7 : Nat → Int32) (y8 : Nat → Int32) (y9 : Nat → Int32) (hc : f_X4_datedShare x0_isReadingOld x1_size f2 f3 f4 f5 x6_areOrdersCounted x6_isAnyOrder x6_size f7 f8 f9 f10 f11 f12 = some (rr, y0, y1, y2, y3, y4, y5, y6, y7, y8, y9)) : KM l yX4_datedShare wsX4_datedShare { frames := 4, cells := 0, slots := 0, locals := 88 } D (tyS cI cS cL) [.ref a0] [(a0, .inr (4, [.ref a1, .ref b0_1, .ref b0_2, .ref a6, .ref b0_4, .ref b0_5, .ref b0_6, .int x0_length, .int x0_isReadingOld])), (a1, .inr (2, [.ref a2, .ref a3, .ref a4, .ref a5, .int x1_size])), (a2, .inl (cI, 10, .inl f2)), (a3, .inl (cI, 10, .inl f3)), (a4, .inl (cI, 10, .inl f4)), (a5, .inl (cI, 10, .inl f5)), (a6, .inr (1, [.ref a7, .ref a8, .ref a9, .ref a10, .ref a11, .ref a12, .ref b6_6, .int x6_areOrdersCounted, .int x6_isAnyOrder, .int x6_size])), (a7, .inl (cI, 10, .inl f7)), (a8, .inl (cI, 10, .inl f8)), (a9, .inl (cI, 10, .inl f9)), (a10, .inl (cI, 10, .inl f10)), (a11, .inl (cI, 10, .inl f11)), (a12, .inl (cI, 10, .inl f12))] (some (.double rr)) (fun w => w = [(a0, .inr (4, [.ref a1, .ref b0_1, .ref b0_2, .ref a6, .ref b0_4, .ref b0_5, .ref b0_6, .int x0_length, .int y0])), (a1, .inr (2, [.ref a2, .ref a3, .ref a4, .ref a5, .int x1_size])), (a2, .inl (cI, 10, .inl f2)), (a3, .inl (cI, 10, .inl f3)), (a4, .inl (cI, 10, .inl f4)), (a5, .inl (cI, 10, .inl f5)), (a6, .inr (1, [.ref a7, .ref a8, .ref a9, .ref a10, .ref a11, .ref a12, .ref b6_6, .int y1, .int y2, .int y3])), (a7, .inl (cI, 10, .inl y4)), (a8, .inl (cI, 10, .inl y5)), (a9, .inl (cI, 10, .inl y6)), (a10, .inl (cI, 10, .inl y7)), (a11, .inl (cI, 10, .inl y8)), (a12, .inl (cI, 10, .inl y9))]) 0 0 := by
  refine g_entry (cc := cX4_datedShare) (nL := 1) (rt := (some .double)) (by decide) rfl (Nat.le_of_ble_eq_true rfl) ?_
  intro p e s m args below meth c A (X : GC p s m args c cX4_datedShare 1 RX4 wsX4_datedShare D (tyS cI cS cL) A) hr hlk _ _
  have h := hc
  unfold f_X4_datedShare at h
  refine g_lv (lv' := [(0, .ref a0)]) [0] rfl ?_
  refine g_aload_n X (j := 0) dX4_datedShare_0 rfl ?_
  refine g_get (q0 := 0) (k := 0) (ci := 4) X in_X4_datedShare_X4 fl_X4_datedShare_12 rfl rfl (Nat.le_of_ble_eq_true rfl) rfl dX4_datedShare_1 ?_
  refine g_get (q0 := 1) (k := 4) (ci := 2) X in_X4_datedShare_X2 fl_X4_datedShare_75 rfl rfl (Nat.le_of_ble_eq_true rfl) rfl dX4_datedShare_4 ?_
  refine g_if_ne (tgt := 12) X h dX4_datedShare_7 (by decide) (fun h => ?_) (fun h => ?_)
  · refine g_aload_n X (j := 0) dX4_datedShare_12 rfl ?_
    obtain ⟨o2, o3, o4, o5, o6, o7, o8, o9, o10, o11, hc, h⟩ := bd10 h
    refine g_callV (q0 := 0) (ci := 4) (is := [0, 1, 2, 3, 4, 5, 6, 7, 8, 9, 10, 11, 12]) (As := []) (ws' := [(a0, .inr (4, [.ref a1, .ref b0_1, .ref b0_2, .ref a6, .ref b0_4, .ref b0_5, .ref b0_6, .int x0_length, .int o2])), (a1, .inr (2, [.ref a2, .ref a3, .ref a4, .ref a5, .int x1_size])), (a2, .inl (cI, 10, .inl f2)), (a3, .inl (cI, 10, .inl f3)), (a4, .inl (cI, 10, .inl f4)), (a5, .inl (cI, 10, .inl f5)), (a6, .inr (1, [.ref a7, .ref a8, .ref a9, .ref a10, .ref a11, .ref a12, .ref b6_6, .int o3, .int o4, .int o5])), (a7, .inl (cI, 10, .inl o6)), (a8, .inl (cI, 10, .inl o7)), (a9, .inl (cI, 10, .inl o8)), (a10, .inl (cI, 10, .inl o9)), (a11, .inl (cI, 10, .inl o10)), (a12, .inl (cI, 10, .inl o11))]) (st := []) X (c_X4_currentReading l D cI cS cL a0 a1 a2 a3 a4 a5 a6 a7 a8 a9 a10 a11 a12 b0_1 b0_2 b0_4 b0_5 b0_6 b6_6 x0_length x0_isReadingOld x1_size f2 f3 f4 f5 x6_areOrdersCounted x6_isAnyOrder x6_size f7 f8 f9 f10 f11 f12 o2 o3 o4 o5 o6 o7 o8 o9 o10 o11 hc) gX4_datedShare_X4_currentReading rfl ⟨rfl, rfl⟩ hd_X4_currentReading ⟨Nat.le_of_ble_eq_true rfl, Nat.le_of_ble_eq_true rfl⟩ ⟨Nat.zero_le _, Nat.zero_le _⟩ rfl rfl rfl rfl rfl rfl rfl (Nat.le_of_ble_eq_true rfl) rfl dX4_datedShare_13 ?_
    obtain ⟨r12, hc, h⟩ := bd1 h
    refine g_callV (q0 := 6) (ci := 1) (is := [6, 9, 10]) (As := []) (ws' := [(a0, .inr (4, [.ref a1, .ref b0_1, .ref b0_2, .ref a6, .ref b0_4, .ref b0_5, .ref b0_6, .int x0_length, .int o2])), (a1, .inr (2, [.ref a2, .ref a3, .ref a4, .ref a5, .int x1_size])), (a2, .inl (cI, 10, .inl f2)), (a3, .inl (cI, 10, .inl f3)), (a4, .inl (cI, 10, .inl f4)), (a5, .inl (cI, 10, .inl f5)), (a6, .inr (1, [.ref a7, .ref a8, .ref a9, .ref a10, .ref a11, .ref a12, .ref b6_6, .int o3, .int o4, .int o5])), (a7, .inl (cI, 10, .inl o6)), (a8, .inl (cI, 10, .inl o7)), (a9, .inl (cI, 10, .inl o8)), (a10, .inl (cI, 10, .inl o9)), (a11, .inl (cI, 10, .inl o10)), (a12, .inl (cI, 10, .inl o11))]) (st := []) X (c_X1_datedBooks l D cI cS cL a6 a9 a10 a7 a8 a11 a12 b6_6 o3 o4 o5 o8 o9 r12 hc) gX4_datedShare_X1_datedBooks rfl ⟨rfl, rfl⟩ hd_X1_datedBooks ⟨Nat.le_of_ble_eq_true rfl, Nat.le_of_ble_eq_true rfl⟩ ⟨Nat.zero_le _, Nat.zero_le _⟩ rfl rfl rfl rfl rfl rfl rfl (Nat.le_of_ble_eq_true rfl) rfl dX4_datedShare_16 ?_
    refine g_i2d X dX4_datedShare_19 ?_
    refine g_aload_n X (j := 0) dX4_datedShare_20 rfl ?_
    refine g_get (q0 := 0) (k := 0) (ci := 4) X in_X4_datedShare_X4 fl_X4_datedShare_12 rfl rfl (Nat.le_of_ble_eq_true rfl) rfl dX4_datedShare_21 ?_
    refine g_get (q0 := 1) (k := 4) (ci := 2) X in_X4_datedShare_X2 fl_X4_datedShare_75 rfl rfl (Nat.le_of_ble_eq_true rfl) rfl dX4_datedShare_24 ?_
    refine g_i2d X dX4_datedShare_27 ?_
    refine g_ddiv X h dX4_datedShare_28 (fun h => ?_)
    have h := Option.some.inj h
    simp only [Prod.mk.injEq] at h
    obtain ⟨rfl, rfl, rfl, rfl, rfl, rfl, rfl, rfl, rfl, rfl, rfl⟩ := h
    exact g_dret X hr hlk dX4_datedShare_29 rfl rfl
  · refine g_dconst1 X dX4_datedShare_10 ?_
    have h := Option.some.inj h
    simp only [Prod.mk.injEq] at h
    obtain ⟨rfl, rfl, rfl, rfl, rfl, rfl, rfl, rfl, rfl, rfl, rfl⟩ := h
    exact g_dret X hr hlk dX4_datedShare_11 rfl rfl
def f_X4_mixed (p0 : Int64) (p2 : Int64) : Option (Int64) := some (((31 : Int64) * p0) + p2)
theorem ct_X4_mixed_253 : Jvm.Cond.constantLong RX4 253 (31) ∈ wsX4_mixed := by decide +kernel
theorem hd_X4_mixed : yX4_mixed.cls = RX4 ∧ yX4_mixed.cls ≠ "java/lang/invoke/MethodHandle" ∧ yX4_mixed.cls ≠ "java/lang/invoke/VarHandle" ∧ (parseMethodDescriptor yX4_mixed.desc).map (fun d => d.parameters.length) = some 2 := by decide +kernel
set_option maxRecDepth 100000 in
set_option maxHeartbeats 4000000 in
theorem c_X4_mixed (l : Launch) (D : va_G) (cI cS cL : ClassId) (p0 : Int64) (p2 : Int64) (rr : Int64) (hc : f_X4_mixed p0 p2 = some rr) : KM l yX4_mixed wsX4_mixed { frames := 0, cells := 0, slots := 0, locals := 0 } D (tyS cI cS cL) [.long p0, .long p2] [] (some (.long rr)) (fun w => w = []) 0 0 := by
  refine g_entry (cc := cX4_mixed) (nL := 4) (rt := (some .long)) (by decide) rfl (Nat.le_of_ble_eq_true rfl) ?_
  intro p e s m args below meth c A (X : GC p s m args c cX4_mixed 4 RX4 wsX4_mixed D (tyS cI cS cL) A) hr hlk _ _
  have h := hc
  unfold f_X4_mixed at h
  refine g_lv (lv' := [(0, .long p0), (2, .long p2)]) [0, 1] rfl ?_
  refine g_ldc2 X ct_X4_mixed_253 dX4_mixed_0 ?_
  refine g_lload_n X (j := 0) dX4_mixed_3 rfl ?_
  refine g_lmul X dX4_mixed_4 ?_
  refine g_lload_n X (j := 1) dX4_mixed_5 rfl ?_
  refine g_ladd X dX4_mixed_6 ?_
  have h := Option.some.inj h
  subst h
  exact g_lret X hr hlk dX4_mixed_7 rfl rfl
def f_X4_withBooks (p1 : Int64) (x0_isReadingOld : Int32) (x1_size : Int32) (f2 : Nat → Int32) (f3 : Nat → Int32) (f4 : Nat → Int32) (f5 : Nat → Int32) (x6_areOrdersCounted : Int32) (x6_isAnyOrder : Int32) (x6_size : Int32) (f7 : Nat → Int32) (f8 : Nat → Int32) (f9 : Nat → Int32) (f10 : Nat → Int32) (f11 : Nat → Int32) (f12 : Nat → Int32) (f13 : Nat → Int32) : Option (Int64 × Int32 × Int32 × Int32 × Int32 × (Nat → Int32) × (Nat → Int32) × (Nat → Int32) × (Nat → Int32) × (Nat → Int32) × (Nat → Int32) × (Nat → Int32)) := (wl (u13 fun (l1_1 : Int64) (l3_2 : Int32) (w3 : Int32) (w4 : Int32) (w5 : Int32) (w6 : Int32) (w7 : Nat → Int32) (w8 : Nat → Int32) (w9 : Nat → Int32) (w10 : Nat → Int32) (w11 : Nat → Int32) (w12 : Nat → Int32) (w13 : Nat → Int32) => (if x1_size ≤ l3_2 then some (Sum.inr (l1_1, w3, w4, w5, w6, w7, w8, w9, w10, w11, w12, w13)) else (wl (u12 fun (l1_26 : Int64) (l4_27 : Int32) (w28 : Int32) (w29 : Int32) (w30 : Int32) (w31 : Int32) (w32 : Nat → Int32) (w33 : Nat → Int32) (w34 : Nat → Int32) (w35 : Nat → Int32) (w36 : Nat → Int32) (w37 : Nat → Int32) => (if 10 < l4_27 then some (Sum.inr (l1_26, w28, w29, w30, w31, w32, w33, w34, w35, w36, w37)) else (f_X4_numberOfBook l3_2 l4_27 w28 x1_size f2 f3 f4 f5 w29 w30 w31 w32 w33 w34 w35 w36 w37).bind (u11 fun (r49 : Int32) (o50 : Int32) (o51 : Int32) (o52 : Int32) (o53 : Int32) (o54 : Nat → Int32) (o55 : Nat → Int32) (o56 : Nat → Int32) (o57 : Nat → Int32) (o58 : Nat → Int32) (o59 : Nat → Int32) => (f_X4_mixed l1_26 (((r49 : Int32)).toInt64)).bind (u1 fun (r60 : Int64) => some (Sum.inl (r60, (l4_27 + 1), o50, o51, o52, o53, o54, o55, o56, o57, o58, o59)))))) 9999 (l1_1, 0, w3, w4, w5, w6, w7, w8, w9, w10, w11, w12)).bind (u11 fun (l1_38 : Int64) (w39 : Int32) (w40 : Int32) (w41 : Int32) (w42 : Int32) (w43 : Nat → Int32) (w44 : Nat → Int32) (w45 : Nat → Int32) (w46 : Nat → Int32) (w47 : Nat → Int32) (w48 : Nat → Int32) => (wl (u13 fun (l1_61 : Int64) (l4_62 : Int32) (w63 : Int32) (w64 : Int32) (w65 : Int32) (w66 : Int32) (w67 : Nat → Int32) (w68 : Nat → Int32) (w69 : Nat → Int32) (w70 : Nat → Int32) (w71 : Nat → Int32) (w72 : Nat → Int32) (w73 : Nat → Int32) => (if 2 < l4_62 then some (Sum.inr (l1_61, w63, w64, w65, w66, w67, w68, w69, w70, w71, w72, w73)) else (f_X4_numberOfPlaces l3_2 l4_62 w63 x1_size f2 f3 f4 f5 w64 w65 w66 w67 w68 w69 w70 w71 w72 w73).bind (u12 fun (r86 : Int32) (o87 : Int32) (o88 : Int32) (o89 : Int32) (o90 : Int32) (o91 : Nat → Int32) (o92 : Nat → Int32) (o93 : Nat → Int32) (o94 : Nat → Int32) (o95 : Nat → Int32) (o96 : Nat → Int32) (o97 : Nat → Int32) => (f_X4_mixed l1_61 (((r86 : Int32)).toInt64)).bind (u1 fun (r98 : Int64) => some (Sum.inl (r98, (l4_62 + 1), o87, o88, o89, o90, o91, o92, o93, o94, o95, o96, o97)))))) 9999 (l1_38, 0, w39, w40, w41, w42, w43, w44, w45, w46, w47, w48, w13)).bind (u12 fun (l1_74 : Int64) (w75 : Int32) (w76 : Int32) (w77 : Int32) (w78 : Int32) (w79 : Nat → Int32) (w80 : Nat → Int32) (w81 : Nat → Int32) (w82 : Nat → Int32) (w83 : Nat → Int32) (w84 : Nat → Int32) (w85 : Nat → Int32) => some (Sum.inl (l1_74, (l3_2 + 1), w75, w76, w77, w78, w79, w80, w81, w82, w83, w84, w85)))))) 9999 (p1, 0, x0_isReadingOld, x6_areOrdersCounted, x6_isAnyOrder, x6_size, f7, f8, f9, f10, f11, f12, f13)).bind (u12 fun (l1_14 : Int64) (w15 : Int32) (w16 : Int32) (w17 : Int32) (w18 : Int32) (w19 : Nat → Int32) (w20 : Nat → Int32) (w21 : Nat → Int32) (w22 : Nat → Int32) (w23 : Nat → Int32) (w24 : Nat → Int32) (w25 : Nat → Int32) => some (l1_14, w15, w16, w17, w18, w19, w20, w21, w22, w23, w24, w25))
theorem in_X4_withBooks_X4 : ∀ w ∈ wsX40, w ∈ wsX4_withBooks := by decide +kernel
theorem fl_X4_withBooks_12 : Cond.fieldLink RX4 12 "ColophonHunt" "shelf" "LColophonHunt$Shelf;" ∈ wsX4_withBooks := by decide +kernel
theorem in_X4_withBooks_X2 : ∀ w ∈ wsX20, w ∈ wsX4_withBooks := by decide +kernel
theorem fl_X4_withBooks_75 : Cond.fieldLink RX4 75 "ColophonHunt$Shelf" "size" "I" ∈ wsX4_withBooks := by decide +kernel
theorem hd_X4_withBooks : yX4_withBooks.cls = RX4 ∧ yX4_withBooks.cls ≠ "java/lang/invoke/MethodHandle" ∧ yX4_withBooks.cls ≠ "java/lang/invoke/VarHandle" ∧ (parseMethodDescriptor yX4_withBooks.desc).map (fun d => d.parameters.length) = some 1 := by decide +kernel
set_option maxRecDepth 100000 in
set_option maxHeartbeats 4000000 in
theorem c_X4_withBooks (l : Launch) (D : va_G) (cI cS cL : ClassId) (a0 : Nat) (a1 : Nat) (a2 : Nat) (a3 : Nat) (a4 : Nat) (a5 : Nat) (a6 : Nat) (a7 : Nat) (a8 : Nat) (a9 : Nat) (a10 : Nat) (a11 : Nat) (a12 : Nat) (a13 : Nat) (b0_1 : Nat) (b0_2 : Nat) (b0_4 : Nat) (b0_5 : Nat) (b0_6 : Nat) (p1 : Int64) (x0_length : Int32) (x0_isReadingOld : Int32) (x1_size : Int32) (f2 : Nat → Int32) (f3 : Nat → Int32) (f4 : Nat → Int32) (f5 : Nat → Int32) (x6_areOrdersCounted : Int32) (x6_isAnyOrder : Int32) (x6_size : Int32) (f7 : Nat → Int32) (f8 : Nat → Int32) (f9 : Nat → Int32) (f10 : Nat → Int32) (f11 : Nat → Int32) (f12 : Nat → Int32) (f13 : Nat → Int32) (rr : Int64) (y0 : Int32) (y1 : Int32) (y2 : Int32) (y3 : Int32) (y4 : Nat → Int32) (y5 : Nat → Int32) (y6 : Nat → Int32) (y7 : Nat → Int32) (y8 : Nat → Int32) (y9 : Nat → Int32) (y10 : Nat → Int32) (hc : f_X4_withBooks p1 x0_isReadingOld x1_size f2 f3 f4 f5 x6_areOrdersCounted x6_isAnyOrder x6_size f7 f8 f9 f10 f11 f12 f13 = some (rr, y0, y1, y2, y3, y4, y5, y6, y7, y8, y9, y10)) : KM l yX4_withBooks wsX4_withBooks { frames := 5, cells := 0, slots := 0, locals := 111 } D (tyS cI cS cL) [.ref a0, .long p1] [(a0, .inr (4, [.ref a1, .ref b0_1, .ref b0_2, .ref a6, .ref b0_4, .ref b0_5, .ref b0_6, .int x0_length, .int x0_isReadingOld])), (a1, .inr (2, [.ref a2, .ref a3, .ref a4, .ref a5, .int x1_size])), (a2, .inl (cI, 10, .inl f2)), (a3, .inl (cI, 10, .inl f3)), (a4, .inl (cI, 10, .inl f4)), (a5, .inl (cI, 10, .inl f5)), (a6, .inr (1, [.ref a7, .ref a8, .ref a9, .ref a10, .ref a11, .ref a12, .ref a13, .int x6_areOrdersCounted, .int x6_isAnyOrder, .int x6_size])), (a7, .inl (cI, 10, .inl f7)), (a8, .inl (cI, 10, .inl f8)), (a9, .inl (cI, 10, .inl f9)), (a10, .inl (cI, 10, .inl f10)), (a11, .inl (cI, 10, .inl f11)), (a12, .inl (cI, 10, .inl f12)), (a13, .inl (cI, 1024, .inl f13))] (some (.long rr)) (fun w => w = [(a0, .inr (4, [.ref a1, .ref b0_1, .ref b0_2, .ref a6, .ref b0_4, .ref b0_5, .ref b0_6, .int x0_length, .int y0])), (a1, .inr (2, [.ref a2, .ref a3, .ref a4, .ref a5, .int x1_size])), (a2, .inl (cI, 10, .inl f2)), (a3, .inl (cI, 10, .inl f3)), (a4, .inl (cI, 10, .inl f4)), (a5, .inl (cI, 10, .inl f5)), (a6, .inr (1, [.ref a7, .ref a8, .ref a9, .ref a10, .ref a11, .ref a12, .ref a13, .int y1, .int y2, .int y3])), (a7, .inl (cI, 10, .inl y4)), (a8, .inl (cI, 10, .inl y5)), (a9, .inl (cI, 10, .inl y6)), (a10, .inl (cI, 10, .inl y7)), (a11, .inl (cI, 10, .inl y8)), (a12, .inl (cI, 10, .inl y9)), (a13, .inl (cI, 1024, .inl y10))]) 0 0 := by
  refine g_entry (cc := cX4_withBooks) (nL := 5) (rt := (some .long)) (by decide) rfl (Nat.le_of_ble_eq_true rfl) ?_
  intro p e s m args below meth c A (X : GC p s m args c cX4_withBooks 5 RX4 wsX4_withBooks D (tyS cI cS cL) A) hr hlk _ _
  have h := hc
  unfold f_X4_withBooks at h
  refine g_lv (lv' := [(0, .ref a0), (1, .long p1)]) [0, 1] rfl ?_
  refine g_iconst (v := 0) X dX4_withBooks_0 (by decide) ?_
  refine g_istore_n (lv' := [(3, .int 0), (0, .ref a0), (1, .long p1)]) X dX4_withBooks_1 rfl (by decide) rfl ?_
  refine g_lv (lv' := [(0, .ref a0), (1, .long p1), (3, .int 0)]) [1, 2, 0] rfl ?_
  refine wl_g1 h (u13 fun l1_1 l3_2 w3 w4 w5 w6 w7 w8 w9 w10 w11 w12 w13 => [(a0, .inr (4, [.ref a1, .ref b0_1, .ref b0_2, .ref a6, .ref b0_4, .ref b0_5, .ref b0_6, .int x0_length, .int w3])), (a1, .inr (2, [.ref a2, .ref a3, .ref a4, .ref a5, .int x1_size])), (a2, .inl (cI, 10, .inl f2)), (a3, .inl (cI, 10, .inl f3)), (a4, .inl (cI, 10, .inl f4)), (a5, .inl (cI, 10, .inl f5)), (a6, .inr (1, [.ref a7, .ref a8, .ref a9, .ref a10, .ref a11, .ref a12, .ref a13, .int w4, .int w5, .int w6])), (a7, .inl (cI, 10, .inl w7)), (a8, .inl (cI, 10, .inl w8)), (a9, .inl (cI, 10, .inl w9)), (a10, .inl (cI, 10, .inl w10)), (a11, .inl (cI, 10, .inl w11)), (a12, .inl (cI, 10, .inl w12)), (a13, .inl (cI, 1024, .inl w13))]) (u13 fun l1_1 l3_2 w3 w4 w5 w6 w7 w8 w9 w10 w11 w12 w13 => [(0, .ref a0), (1, .long l1_1), (3, .int l3_2)]) rfl rfl (u12 fun l1_14 w15 w16 w17 w18 w19 w20 w21 w22 w23 w24 w25 => [(a0, .inr (4, [.ref a1, .ref b0_1, .ref b0_2, .ref a6, .ref b0_4, .ref b0_5, .ref b0_6, .int x0_length, .int w15])), (a1, .inr (2, [.ref a2, .ref a3, .ref a4, .ref a5, .int x1_size])), (a2, .inl (cI, 10, .inl f2)), (a3, .inl (cI, 10, .inl f3)), (a4, .inl (cI, 10, .inl f4)), (a5, .inl (cI, 10, .inl f5)), (a6, .inr (1, [.ref a7, .ref a8, .ref a9, .ref a10, .ref a11, .ref a12, .ref a13, .int w16, .int w17, .int w18])), (a7, .inl (cI, 10, .inl w19)), (a8, .inl (cI, 10, .inl w20)), (a9, .inl (cI, 10, .inl w21)), (a10, .inl (cI, 10, .inl w22)), (a11, .inl (cI, 10, .inl w23)), (a12, .inl (cI, 10, .inl w24)), (a13, .inl (cI, 1024, .inl w25))]) (u12 fun l1_14 w15 w16 w17 w18 w19 w20 w21 w22 w23 w24 w25 => [(1, .long l1_14)]) 76 ?_ ?_
  · rintro ⟨l1_14, w15, w16, w17, w18, w19, w20, w21, w22, w23, w24, w25⟩ h
    dsimp only [u12] at h ⊢
    refine g_lload_n X (j := 0) dX4_withBooks_76 rfl ?_
    have h := Option.some.inj h
    simp only [Prod.mk.injEq] at h
    obtain ⟨rfl, rfl, rfl, rfl, rfl, rfl, rfl, rfl, rfl, rfl, rfl, rfl⟩ := h
    exact g_lret X hr hlk dX4_withBooks_77 rfl rfl
  · rintro ⟨l1_1, l3_2, w3, w4, w5, w6, w7, w8, w9, w10, w11, w12, w13⟩ o h hI hE
    dsimp only [u13] at h ⊢
    refine g_iload_n X (j := 2) dX4_withBooks_2 rfl ?_
    refine g_aload_n X (j := 0) dX4_withBooks_3 rfl ?_
    refine g_get (q0 := 0) (k := 0) (ci := 4) X in_X4_withBooks_X4 fl_X4_withBooks_12 rfl rfl (Nat.le_of_ble_eq_true rfl) rfl dX4_withBooks_4 ?_
    refine g_get (q0 := 1) (k := 4) (ci := 2) X in_X4_withBooks_X2 fl_X4_withBooks_75 rfl rfl (Nat.le_of_ble_eq_true rfl) rfl dX4_withBooks_7 ?_
    refine g_icmp_ge (tgt := 76) X h dX4_withBooks_10 (by decide) (fun h => ?_) (fun h => ?_)
    · refine g_lv (lv' := [(1, .long l1_1)]) [1] rfl ?_
      exact hE (l1_1, w3, w4, w5, w6, w7, w8, w9, w10, w11, w12, w13) (Option.some.inj h).symm
    · refine g_iconst (v := 0) X dX4_withBooks_13 (by decide) ?_
      refine g_istore (lv' := [(4, .int 0), (0, .ref a0), (1, .long l1_1), (3, .int l3_2)]) X dX4_withBooks_14 (by decide) rfl ?_
      refine g_lv (lv' := [(0, .ref a0), (1, .long l1_1), (3, .int l3_2), (4, .int 0)]) [1, 2, 3, 0] rfl ?_
      refine wl_g1 h (u12 fun l1_26 l4_27 w28 w29 w30 w31 w32 w33 w34 w35 w36 w37 => [(a0, .inr (4, [.ref a1, .ref b0_1, .ref b0_2, .ref a6, .ref b0_4, .ref b0_5, .ref b0_6, .int x0_length, .int w28])), (a1, .inr (2, [.ref a2, .ref a3, .ref a4, .ref a5, .int x1_size])), (a2, .inl (cI, 10, .inl f2)), (a3, .inl (cI, 10, .inl f3)), (a4, .inl (cI, 10, .inl f4)), (a5, .inl (cI, 10, .inl f5)), (a6, .inr (1, [.ref a7, .ref a8, .ref a9, .ref a10, .ref a11, .ref a12, .ref a13, .int w29, .int w30, .int w31])), (a7, .inl (cI, 10, .inl w32)), (a8, .inl (cI, 10, .inl w33)), (a9, .inl (cI, 10, .inl w34)), (a10, .inl (cI, 10, .inl w35)), (a11, .inl (cI, 10, .inl w36)), (a12, .inl (cI, 10, .inl w37)), (a13, .inl (cI, 1024, .inl w13))]) (u12 fun l1_26 l4_27 w28 w29 w30 w31 w32 w33 w34 w35 w36 w37 => [(0, .ref a0), (1, .long l1_26), (3, .int l3_2), (4, .int l4_27)]) rfl rfl (u11 fun l1_38 w39 w40 w41 w42 w43 w44 w45 w46 w47 w48 => [(a0, .inr (4, [.ref a1, .ref b0_1, .ref b0_2, .ref a6, .ref b0_4, .ref b0_5, .ref b0_6, .int x0_length, .int w39])), (a1, .inr (2, [.ref a2, .ref a3, .ref a4, .ref a5, .int x1_size])), (a2, .inl (cI, 10, .inl f2)), (a3, .inl (cI, 10, .inl f3)), (a4, .inl (cI, 10, .inl f4)), (a5, .inl (cI, 10, .inl f5)), (a6, .inr (1, [.ref a7, .ref a8, .ref a9, .ref a10, .ref a11, .ref a12, .ref a13, .int w40, .int w41, .int w42])), (a7, .inl (cI, 10, .inl w43)), (a8, .inl (cI, 10, .inl w44)), (a9, .inl (cI, 10, .inl w45)), (a10, .inl (cI, 10, .inl w46)), (a11, .inl (cI, 10, .inl w47)), (a12, .inl (cI, 10, .inl w48)), (a13, .inl (cI, 1024, .inl w13))]) (u11 fun l1_38 w39 w40 w41 w42 w43 w44 w45 w46 w47 w48 => [(0, .ref a0), (1, .long l1_38), (3, .int l3_2)]) 42 ?_ ?_
      · rintro ⟨l1_38, w39, w40, w41, w42, w43, w44, w45, w46, w47, w48⟩ h
        dsimp only [u11] at h ⊢
        refine g_iconst (v := 0) X dX4_withBooks_42 (by decide) ?_
        refine g_istore (lv' := [(4, .int 0), (0, .ref a0), (1, .long l1_38), (3, .int l3_2)]) X dX4_withBooks_43 (by decide) rfl ?_
        refine g_lv (lv' := [(0, .ref a0), (1, .long l1_38), (3, .int l3_2), (4, .int 0)]) [1, 2, 3, 0] rfl ?_
        refine wl_g1 h (u13 fun l1_61 l4_62 w63 w64 w65 w66 w67 w68 w69 w70 w71 w72 w73 => [(a0, .inr (4, [.ref a1, .ref b0_1, .ref b0_2, .ref a6, .ref b0_4, .ref b0_5, .ref b0_6, .int x0_length, .int w63])), (a1, .inr (2, [.ref a2, .ref a3, .ref a4, .ref a5, .int x1_size])), (a2, .inl (cI, 10, .inl f2)), (a3, .inl (cI, 10, .inl f3)), (a4, .inl (cI, 10, .inl f4)), (a5, .inl (cI, 10, .inl f5)), (a6, .inr (1, [.ref a7, .ref a8, .ref a9, .ref a10, .ref a11, .ref a12, .ref a13, .int w64, .int w65, .int w66])), (a7, .inl (cI, 10, .inl w67)), (a8, .inl (cI, 10, .inl w68)), (a9, .inl (cI, 10, .inl w69)), (a10, .inl (cI, 10, .inl w70)), (a11, .inl (cI, 10, .inl w71)), (a12, .inl (cI, 10, .inl w72)), (a13, .inl (cI, 1024, .inl w73))]) (u13 fun l1_61 l4_62 w63 w64 w65 w66 w67 w68 w69 w70 w71 w72 w73 => [(0, .ref a0), (1, .long l1_61), (3, .int l3_2), (4, .int l4_62)]) rfl rfl (u12 fun l1_74 w75 w76 w77 w78 w79 w80 w81 w82 w83 w84 w85 => [(a0, .inr (4, [.ref a1, .ref b0_1, .ref b0_2, .ref a6, .ref b0_4, .ref b0_5, .ref b0_6, .int x0_length, .int w75])), (a1, .inr (2, [.ref a2, .ref a3, .ref a4, .ref a5, .int x1_size])), (a2, .inl (cI, 10, .inl f2)), (a3, .inl (cI, 10, .inl f3)), (a4, .inl (cI, 10, .inl f4)), (a5, .inl (cI, 10, .inl f5)), (a6, .inr (1, [.ref a7, .ref a8, .ref a9, .ref a10, .ref a11, .ref a12, .ref a13, .int w76, .int w77, .int w78])), (a7, .inl (cI, 10, .inl w79)), (a8, .inl (cI, 10, .inl w80)), (a9, .inl (cI, 10, .inl w81)), (a10, .inl (cI, 10, .inl w82)), (a11, .inl (cI, 10, .inl w83)), (a12, .inl (cI, 10, .inl w84)), (a13, .inl (cI, 1024, .inl w85))]) (u12 fun l1_74 w75 w76 w77 w78 w79 w80 w81 w82 w83 w84 w85 => [(0, .ref a0), (1, .long l1_74), (3, .int l3_2)]) 70 ?_ ?_
        · rintro ⟨l1_74, w75, w76, w77, w78, w79, w80, w81, w82, w83, w84, w85⟩ h
          dsimp only [u12] at h ⊢
          refine g_iinc (j := 2) (lv' := [(3, .int (l3_2 + 1)), (0, .ref a0), (1, .long l1_74)]) X (l3_2 + 1) dX4_withBooks_70 rfl rfl (by decide) rfl ?_
          refine g_goto (tgt := 2) X dX4_withBooks_73 (by decide) ?_
          refine g_lv (lv' := [(0, .ref a0), (1, .long l1_74), (3, .int (l3_2 + 1))]) [1, 2, 0] rfl ?_
          exact hI (l1_74, (l3_2 + 1), w75, w76, w77, w78, w79, w80, w81, w82, w83, w84, w85) (Option.some.inj h).symm
        · rintro ⟨l1_61, l4_62, w63, w64, w65, w66, w67, w68, w69, w70, w71, w72, w73⟩ o h hI hE
          dsimp only [u13] at h ⊢
          refine g_iload X (j := 3) dX4_withBooks_45 rfl ?_
          refine g_iconst (v := 2) X dX4_withBooks_47 (by decide) ?_
          refine g_icmp_gt (tgt := 70) X h dX4_withBooks_48 (by decide) (fun h => ?_) (fun h => ?_)
          · refine g_lv (lv' := [(0, .ref a0), (1, .long l1_61), (3, .int l3_2)]) [0, 1, 2] rfl ?_
            exact hE (l1_61, w63, w64, w65, w66, w67, w68, w69, w70, w71, w72, w73) (Option.some.inj h).symm
          · refine g_lload_n X (j := 1) dX4_withBooks_51 rfl ?_
            refine g_aload_n X (j := 0) dX4_withBooks_52 rfl ?_
            refine g_iload_n X (j := 2) dX4_withBooks_53 rfl ?_
            refine g_iload X (j := 3) dX4_withBooks_54 rfl ?_
            obtain ⟨r86, o87, o88, o89, o90, o91, o92, o93, o94, o95, o96, o97, hc, h⟩ := bd12 h
            refine g_callV (q0 := 0) (ci := 4) (is := [0, 1, 2, 3, 4, 5, 6, 7, 8, 9, 10, 11, 12, 13]) (As := [.int l3_2, .int l4_62]) (ws' := [(a0, .inr (4, [.ref a1, .ref b0_1, .ref b0_2, .ref a6, .ref b0_4, .ref b0_5, .ref b0_6, .int x0_length, .int o87])), (a1, .inr (2, [.ref a2, .ref a3, .ref a4, .ref a5, .int x1_size])), (a2, .inl (cI, 10, .inl f2)), (a3, .inl (cI, 10, .inl f3)), (a4, .inl (cI, 10, .inl f4)), (a5, .inl (cI, 10, .inl f5)), (a6, .inr (1, [.ref a7, .ref a8, .ref a9, .ref a10, .ref a11, .ref a12, .ref a13, .int o88, .int o89, .int o90])), (a7, .inl (cI, 10, .inl o91)), (a8, .inl (cI, 10, .inl o92)), (a9, .inl (cI, 10, .inl o93)), (a10, .inl (cI, 10, .inl o94)), (a11, .inl (cI, 10, .inl o95)), (a12, .inl (cI, 10, .inl o96)), (a13, .inl (cI, 1024, .inl o97))]) (st := [.long l1_61]) X (c_X4_numberOfPlaces l D cI cS cL a0 a1 a2 a3 a4 a5 a6 a7 a8 a9 a10 a11 a12 a13 b0_1 b0_2 b0_4 b0_5 b0_6 l3_2 l4_62 x0_length w63 x1_size f2 f3 f4 f5 w64 w65 w66 w67 w68 w69 w70 w71 w72 w73 r86 o87 o88 o89 o90 o91 o92 o93 o94 o95 o96 o97 hc) gX4_withBooks_X4_numberOfPlaces rfl ⟨rfl, rfl⟩ hd_X4_numberOfPlaces ⟨Nat.le_of_ble_eq_true rfl, Nat.le_of_ble_eq_true rfl⟩ ⟨Nat.zero_le _, Nat.zero_le _⟩ rfl rfl rfl rfl rfl rfl rfl (Nat.le_of_ble_eq_true rfl) rfl dX4_withBooks_56 ?_
            refine g_i2l X dX4_withBooks_59 ?_
            obtain ⟨r98, hc, h⟩ := bd1 h
            refine g_callS (is := []) (As := [.long l1_61, .long (((r86 : Int32)).toInt64)]) (ws' := [(a0, .inr (4, [.ref a1, .ref b0_1, .ref b0_2, .ref a6, .ref b0_4, .ref b0_5, .ref b0_6, .int x0_length, .int o87])), (a1, .inr (2, [.ref a2, .ref a3, .ref a4, .ref a5, .int x1_size])), (a2, .inl (cI, 10, .inl f2)), (a3, .inl (cI, 10, .inl f3)), (a4, .inl (cI, 10, .inl f4)), (a5, .inl (cI, 10, .inl f5)), (a6, .inr (1, [.ref a7, .ref a8, .ref a9, .ref a10, .ref a11, .ref a12, .ref a13, .int o88, .int o89, .int o90])), (a7, .inl (cI, 10, .inl o91)), (a8, .inl (cI, 10, .inl o92)), (a9, .inl (cI, 10, .inl o93)), (a10, .inl (cI, 10, .inl o94)), (a11, .inl (cI, 10, .inl o95)), (a12, .inl (cI, 10, .inl o96)), (a13, .inl (cI, 1024, .inl o97))]) (st := []) X (c_X4_mixed l D cI cS cL l1_61 (((r86 : Int32)).toInt64) r98 hc) gX4_withBooks_X4_mixed rfl ⟨rfl, rfl⟩ hd_X4_mixed.2 ⟨Nat.le_of_ble_eq_true rfl, Nat.le_of_ble_eq_true rfl⟩ ⟨Nat.zero_le _, Nat.zero_le _⟩ rfl rfl rfl rfl rfl (Nat.le_of_ble_eq_true rfl) rfl dX4_withBooks_60 ?_
            refine g_lstore_n (lv' := [(1, .long r98), (0, .ref a0), (3, .int l3_2), (4, .int l4_62)]) X dX4_withBooks_63 rfl (by decide) rfl ?_
            refine g_iinc (j := 3) (lv' := [(4, .int (l4_62 + 1)), (1, .long r98), (0, .ref a0), (3, .int l3_2)]) X (l4_62 + 1) dX4_withBooks_64 rfl rfl (by decide) rfl ?_
            refine g_goto (tgt := 45) X dX4_withBooks_67 (by decide) ?_
            refine g_lv (lv' := [(0, .ref a0), (1, .long r98), (3, .int l3_2), (4, .int (l4_62 + 1))]) [2, 1, 3, 0] rfl ?_
            exact hI (r98, (l4_62 + 1), o87, o88, o89, o90, o91, o92, o93, o94, o95, o96, o97) (Option.some.inj h).symm
      · rintro ⟨l1_26, l4_27, w28, w29, w30, w31, w32, w33, w34, w35, w36, w37⟩ o h hI hE
        dsimp only [u12] at h ⊢
        refine g_iload X (j := 3) dX4_withBooks_16 rfl ?_
        refine g_bipush (v := 10) X dX4_withBooks_18 (by decide) ?_
        refine g_icmp_gt (tgt := 42) X h dX4_withBooks_20 (by decide) (fun h => ?_) (fun h => ?_)
        · refine g_lv (lv' := [(0, .ref a0), (1, .long l1_26), (3, .int l3_2)]) [0, 1, 2] rfl ?_
          exact hE (l1_26, w28, w29, w30, w31, w32, w33, w34, w35, w36, w37) (Option.some.inj h).symm
        · refine g_lload_n X (j := 1) dX4_withBooks_23 rfl ?_
          refine g_aload_n X (j := 0) dX4_withBooks_24 rfl ?_
          refine g_iload_n X (j := 2) dX4_withBooks_25 rfl ?_
          refine g_iload X (j := 3) dX4_withBooks_26 rfl ?_
          obtain ⟨r49, o50, o51, o52, o53, o54, o55, o56, o57, o58, o59, hc, h⟩ := bd11 h
          refine g_callV (q0 := 0) (ci := 4) (is := [0, 1, 2, 3, 4, 5, 6, 7, 8, 9, 10, 11, 12]) (As := [.int l3_2, .int l4_27]) (ws' := [(a0, .inr (4, [.ref a1, .ref b0_1, .ref b0_2, .ref a6, .ref b0_4, .ref b0_5, .ref b0_6, .int x0_length, .int o50])), (a1, .inr (2, [.ref a2, .ref a3, .ref a4, .ref a5, .int x1_size])), (a2, .inl (cI, 10, .inl f2)), (a3, .inl (cI, 10, .inl f3)), (a4, .inl (cI, 10, .inl f4)), (a5, .inl (cI, 10, .inl f5)), (a6, .inr (1, [.ref a7, .ref a8, .ref a9, .ref a10, .ref a11, .ref a12, .ref a13, .int o51, .int o52, .int o53])), (a7, .inl (cI, 10, .inl o54)), (a8, .inl (cI, 10, .inl o55)), (a9, .inl (cI, 10, .inl o56)), (a10, .inl (cI, 10, .inl o57)), (a11, .inl (cI, 10, .inl o58)), (a12, .inl (cI, 10, .inl o59)), (a13, .inl (cI, 1024, .inl w13))]) (st := [.long l1_26]) X (c_X4_numberOfBook l D cI cS cL a0 a1 a2 a3 a4 a5 a6 a7 a8 a9 a10 a11 a12 b0_1 b0_2 b0_4 b0_5 b0_6 a13 l3_2 l4_27 x0_length w28 x1_size f2 f3 f4 f5 w29 w30 w31 w32 w33 w34 w35 w36 w37 r49 o50 o51 o52 o53 o54 o55 o56 o57 o58 o59 hc) gX4_withBooks_X4_numberOfBook rfl ⟨rfl, rfl⟩ hd_X4_numberOfBook ⟨Nat.le_of_ble_eq_true rfl, Nat.le_of_ble_eq_true rfl⟩ ⟨Nat.zero_le _, Nat.zero_le _⟩ rfl rfl rfl rfl rfl rfl rfl (Nat.le_of_ble_eq_true rfl) rfl dX4_withBooks_28 ?_
          refine g_i2l X dX4_withBooks_31 ?_
          obtain ⟨r60, hc, h⟩ := bd1 h
          refine g_callS (is := []) (As := [.long l1_26, .long (((r49 : Int32)).toInt64)]) (ws' := [(a0, .inr (4, [.ref a1, .ref b0_1, .ref b0_2, .ref a6, .ref b0_4, .ref b0_5, .ref b0_6, .int x0_length, .int o50])), (a1, .inr (2, [.ref a2, .ref a3, .ref a4, .ref a5, .int x1_size])), (a2, .inl (cI, 10, .inl f2)), (a3, .inl (cI, 10, .inl f3)), (a4, .inl (cI, 10, .inl f4)), (a5, .inl (cI, 10, .inl f5)), (a6, .inr (1, [.ref a7, .ref a8, .ref a9, .ref a10, .ref a11, .ref a12, .ref a13, .int o51, .int o52, .int o53])), (a7, .inl (cI, 10, .inl o54)), (a8, .inl (cI, 10, .inl o55)), (a9, .inl (cI, 10, .inl o56)), (a10, .inl (cI, 10, .inl o57)), (a11, .inl (cI, 10, .inl o58)), (a12, .inl (cI, 10, .inl o59)), (a13, .inl (cI, 1024, .inl w13))]) (st := []) X (c_X4_mixed l D cI cS cL l1_26 (((r49 : Int32)).toInt64) r60 hc) gX4_withBooks_X4_mixed rfl ⟨rfl, rfl⟩ hd_X4_mixed.2 ⟨Nat.le_of_ble_eq_true rfl, Nat.le_of_ble_eq_true rfl⟩ ⟨Nat.zero_le _, Nat.zero_le _⟩ rfl rfl rfl rfl rfl (Nat.le_of_ble_eq_true rfl) rfl dX4_withBooks_32 ?_
          refine g_lstore_n (lv' := [(1, .long r60), (0, .ref a0), (3, .int l3_2), (4, .int l4_27)]) X dX4_withBooks_35 rfl (by decide) rfl ?_
          refine g_iinc (j := 3) (lv' := [(4, .int (l4_27 + 1)), (1, .long r60), (0, .ref a0), (3, .int l3_2)]) X (l4_27 + 1) dX4_withBooks_36 rfl rfl (by decide) rfl ?_
          refine g_goto (tgt := 16) X dX4_withBooks_39 (by decide) ?_
          refine g_lv (lv' := [(0, .ref a0), (1, .long r60), (3, .int l3_2), (4, .int (l4_27 + 1))]) [2, 1, 3, 0] rfl ?_
          exact hI (r60, (l4_27 + 1), o50, o51, o52, o53, o54, o55, o56, o57, o58, o59) (Option.some.inj h).symm
