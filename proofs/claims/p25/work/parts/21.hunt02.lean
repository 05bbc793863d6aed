set_option maxRecDepth 20000 in
theorem ggX4_numberOfBook_X4_currentReading : GoodIn wsX4_numberOfBook wsX4_currentReading := goodIn_r _ [14, 15, 16, 1, 17, 18, 19, 20, 21, 22, 23, 24, 25, 26, 27, 28, 29, 30, 31, 32, 33, 34, 35, 36, 37, 38, 39, 40, 41, 42, 43, 44, 45, 46, 47, 48, 49, 50, 51, 52, 53, 54, 55, 56, 57, 58, 59, 60, 61, 62, 63, 75, 76, 77, 78, 79, 80, 81, 82, 83, 84, 85, 86, 87, 88, 89, 90, 91, 92, 93, 94, 95, 96, 97, 98] (by decide +kernel) (by decide +kernel)
set_option maxRecDepth 20000 in
theorem gX4_numberOfBook_X4_currentReading : GoodIn wsX4_numberOfBook (wsV RX4 129 RX4 yX4_currentReading wsX4_currentReading) := goodIn_app (goodIn_of _ (by decide +kernel)) ggX4_numberOfBook_X4_currentReading
set_option maxRecDepth 20000 in
theorem ggX4_numberOfBook_J6_bitCount_0f7a4 : GoodIn wsX4_numberOfBook wsJ6_bitCount_0f7a4 := goodIn_r _ [67, 68, 69, 70] (by decide +kernel) (by decide +kernel)
set_option maxRecDepth 20000 in
theorem gX4_numberOfBook_J6_bitCount_0f7a4 : GoodIn wsX4_numberOfBook (va_wsS RX4 207 yJ6_bitCount_0f7a4 wsJ6_bitCount_0f7a4) := goodIn_app (goodIn_of _ (by decide +kernel)) ggX4_numberOfBook_J6_bitCount_0f7a4
set_option maxRecDepth 20000 in
theorem ggX4_numberOfBook_X1_isDated : GoodIn wsX4_numberOfBook wsX1_isDated := goodIn_r _ [74, 62, 63, 89, 90, 91, 92, 93, 94, 95, 96, 97, 98] (by decide +kernel) (by decide +kernel)
set_option maxRecDepth 20000 in
theorem gX4_numberOfBook_X1_isDated : GoodIn wsX4_numberOfBook (wsV RX4 133 RX1 yX1_isDated wsX1_isDated) := goodIn_app (goodIn_of _ (by decide +kernel)) ggX4_numberOfBook_X1_isDated
theorem dX4_numberOfBook_0 : decode cX4_numberOfBook 0 = .ok (.aload_n 0, 1) := by decide +kernel
theorem dX4_numberOfBook_1 : decode cX4_numberOfBook 1 = .ok (.invokevirtual 129, 3) := by decide +kernel
theorem dX4_numberOfBook_4 : decode cX4_numberOfBook 4 = .ok (.astore_n 3, 1) := by decide +kernel
theorem dX4_numberOfBook_5 : decode cX4_numberOfBook 5 = .ok (.iload_n 2, 1) := by decide +kernel
theorem dX4_numberOfBook_6 : decode cX4_numberOfBook 6 = .ok (.tableswitch 155 0 9 #[54, 64, 74, 84, 94, 107, 114, 121, 135, 145], 54) := by decide +kernel
theorem dX4_numberOfBook_60 : decode cX4_numberOfBook 60 = .ok (.aload_n 0, 1) := by decide +kernel
theorem dX4_numberOfBook_61 : decode cX4_numberOfBook 61 = .ok (.getfield 12, 3) := by decide +kernel
theorem dX4_numberOfBook_64 : decode cX4_numberOfBook 64 = .ok (.getfield 126, 3) := by decide +kernel
theorem dX4_numberOfBook_67 : decode cX4_numberOfBook 67 = .ok (.iload_n 1, 1) := by decide +kernel
theorem dX4_numberOfBook_68 : decode cX4_numberOfBook 68 = .ok (.iaload, 1) := by decide +kernel
theorem dX4_numberOfBook_69 : decode cX4_numberOfBook 69 = .ok (.ireturn, 1) := by decide +kernel
theorem dX4_numberOfBook_70 : decode cX4_numberOfBook 70 = .ok (.aload_n 0, 1) := by decide +kernel
theorem dX4_numberOfBook_71 : decode cX4_numberOfBook 71 = .ok (.getfield 12, 3) := by decide +kernel
theorem dX4_numberOfBook_74 : decode cX4_numberOfBook 74 = .ok (.getfield 107, 3) := by decide +kernel
theorem dX4_numberOfBook_77 : decode cX4_numberOfBook 77 = .ok (.iload_n 1, 1) := by decide +kernel
theorem dX4_numberOfBook_78 : decode cX4_numberOfBook 78 = .ok (.iaload, 1) := by decide +kernel
theorem dX4_numberOfBook_79 : decode cX4_numberOfBook 79 = .ok (.ireturn, 1) := by decide +kernel
theorem dX4_numberOfBook_80 : decode cX4_numberOfBook 80 = .ok (.aload_n 0, 1) := by decide +kernel
theorem dX4_numberOfBook_81 : decode cX4_numberOfBook 81 = .ok (.getfield 12, 3) := by decide +kernel
theorem dX4_numberOfBook_84 : decode cX4_numberOfBook 84 = .ok (.getfield 116, 3) := by decide +kernel
theorem dX4_numberOfBook_87 : decode cX4_numberOfBook 87 = .ok (.iload_n 1, 1) := by decide +kernel
theorem dX4_numberOfBook_88 : decode cX4_numberOfBook 88 = .ok (.iaload, 1) := by decide +kernel
theorem dX4_numberOfBook_89 : decode cX4_numberOfBook 89 = .ok (.ireturn, 1) := by decide +kernel
theorem dX4_numberOfBook_90 : decode cX4_numberOfBook 90 = .ok (.aload_n 0, 1) := by decide +kernel
theorem dX4_numberOfBook_91 : decode cX4_numberOfBook 91 = .ok (.getfield 12, 3) := by decide +kernel
theorem dX4_numberOfBook_94 : decode cX4_numberOfBook 94 = .ok (.getfield 121, 3) := by decide +kernel
theorem dX4_numberOfBook_97 : decode cX4_numberOfBook 97 = .ok (.iload_n 1, 1) := by decide +kernel
theorem dX4_numberOfBook_98 : decode cX4_numberOfBook 98 = .ok (.iaload, 1) := by decide +kernel
theorem dX4_numberOfBook_99 : decode cX4_numberOfBook 99 = .ok (.ireturn, 1) := by decide +kernel
theorem dX4_numberOfBook_100 : decode cX4_numberOfBook 100 = .ok (.aload_n 0, 1) := by decide +kernel
theorem dX4_numberOfBook_101 : decode cX4_numberOfBook 101 = .ok (.getfield 12, 3) := by decide +kernel
theorem dX4_numberOfBook_104 : decode cX4_numberOfBook 104 = .ok (.getfield 107, 3) := by decide +kernel
theorem dX4_numberOfBook_107 : decode cX4_numberOfBook 107 = .ok (.iload_n 1, 1) := by decide +kernel
theorem dX4_numberOfBook_108 : decode cX4_numberOfBook 108 = .ok (.iaload, 1) := by decide +kernel
theorem dX4_numberOfBook_109 : decode cX4_numberOfBook 109 = .ok (.invokestatic 207, 3) := by decide +kernel
theorem dX4_numberOfBook_112 : decode cX4_numberOfBook 112 = .ok (.ireturn, 1) := by decide +kernel
theorem dX4_numberOfBook_113 : decode cX4_numberOfBook 113 = .ok (.aload_n 3, 1) := by decide +kernel
theorem dX4_numberOfBook_114 : decode cX4_numberOfBook 114 = .ok (.getfield 136, 3) := by decide +kernel
theorem dX4_numberOfBook_117 : decode cX4_numberOfBook 117 = .ok (.iload_n 1, 1) := by decide +kernel
theorem dX4_numberOfBook_118 : decode cX4_numberOfBook 118 = .ok (.iaload, 1) := by decide +kernel
theorem dX4_numberOfBook_119 : decode cX4_numberOfBook 119 = .ok (.ireturn, 1) := by decide +kernel
theorem dX4_numberOfBook_120 : decode cX4_numberOfBook 120 = .ok (.aload_n 3, 1) := by decide +kernel
theorem dX4_numberOfBook_121 : decode cX4_numberOfBook 121 = .ok (.getfield 261, 3) := by decide +kernel
theorem dX4_numberOfBook_124 : decode cX4_numberOfBook 124 = .ok (.iload_n 1, 1) := by decide +kernel
theorem dX4_numberOfBook_125 : decode cX4_numberOfBook 125 = .ok (.iaload, 1) := by decide +kernel
theorem dX4_numberOfBook_126 : decode cX4_numberOfBook 126 = .ok (.ireturn, 1) := by decide +kernel
theorem dX4_numberOfBook_127 : decode cX4_numberOfBook 127 = .ok (.aload_n 3, 1) := by decide +kernel
theorem dX4_numberOfBook_128 : decode cX4_numberOfBook 128 = .ok (.iload_n 1, 1) := by decide +kernel
theorem dX4_numberOfBook_129 : decode cX4_numberOfBook 129 = .ok (.invokevirtual 133, 3) := by decide +kernel
theorem dX4_numberOfBook_132 : decode cX4_numberOfBook 132 = .ok (.ifCond .eq 7, 3) := by decide +kernel
theorem dX4_numberOfBook_135 : decode cX4_numberOfBook 135 = .ok (.iconst 1, 1) := by decide +kernel
theorem dX4_numberOfBook_136 : decode cX4_numberOfBook 136 = .ok (.goto 4, 3) := by decide +kernel
theorem dX4_numberOfBook_139 : decode cX4_numberOfBook 139 = .ok (.iconst 0, 1) := by decide +kernel
theorem dX4_numberOfBook_140 : decode cX4_numberOfBook 140 = .ok (.ireturn, 1) := by decide +kernel
theorem dX4_numberOfBook_141 : decode cX4_numberOfBook 141 = .ok (.aload_n 3, 1) := by decide +kernel
theorem dX4_numberOfBook_142 : decode cX4_numberOfBook 142 = .ok (.getfield 264, 3) := by decide +kernel
theorem dX4_numberOfBook_145 : decode cX4_numberOfBook 145 = .ok (.iload_n 1, 1) := by decide +kernel
theorem dX4_numberOfBook_146 : decode cX4_numberOfBook 146 = .ok (.iaload, 1) := by decide +kernel
theorem dX4_numberOfBook_147 : decode cX4_numberOfBook 147 = .ok (.invokestatic 207, 3) := by decide +kernel
theorem dX4_numberOfBook_150 : decode cX4_numberOfBook 150 = .ok (.ireturn, 1) := by decide +kernel
theorem dX4_numberOfBook_151 : decode cX4_numberOfBook 151 = .ok (.aload_n 3, 1) := by decide +kernel
theorem dX4_numberOfBook_152 : decode cX4_numberOfBook 152 = .ok (.getfield 267, 3) := by decide +kernel
theorem dX4_numberOfBook_155 : decode cX4_numberOfBook 155 = .ok (.iload_n 1, 1) := by decide +kernel
theorem dX4_numberOfBook_156 : decode cX4_numberOfBook 156 = .ok (.iaload, 1) := by decide +kernel
theorem dX4_numberOfBook_157 : decode cX4_numberOfBook 157 = .ok (.invokestatic 207, 3) := by decide +kernel
theorem dX4_numberOfBook_160 : decode cX4_numberOfBook 160 = .ok (.ireturn, 1) := by decide +kernel
theorem dX4_numberOfBook_161 : decode cX4_numberOfBook 161 = .ok (.aload_n 3, 1) := by decide +kernel
theorem dX4_numberOfBook_162 : decode cX4_numberOfBook 162 = .ok (.getfield 264, 3) := by decide +kernel
theorem dX4_numberOfBook_165 : decode cX4_numberOfBook 165 = .ok (.iload_n 1, 1) := by decide +kernel
theorem dX4_numberOfBook_166 : decode cX4_numberOfBook 166 = .ok (.iaload, 1) := by decide +kernel
theorem dX4_numberOfBook_167 : decode cX4_numberOfBook 167 = .ok (.aload_n 3, 1) := by decide +kernel
theorem dX4_numberOfBook_168 : decode cX4_numberOfBook 168 = .ok (.getfield 267, 3) := by decide +kernel
theorem dX4_numberOfBook_171 : decode cX4_numberOfBook 171 = .ok (.iload_n 1, 1) := by decide +kernel
theorem dX4_numberOfBook_172 : decode cX4_numberOfBook 172 = .ok (.iaload, 1) := by decide +kernel
theorem dX4_numberOfBook_173 : decode cX4_numberOfBook 173 = .ok (.iand, 1) := by decide +kernel
theorem dX4_numberOfBook_174 : decode cX4_numberOfBook 174 = .ok (.invokestatic 207, 3) := by decide +kernel
theorem dX4_numberOfBook_177 : decode cX4_numberOfBook 177 = .ok (.ireturn, 1) := by decide +kernel
set_option maxRecDepth 20000 in
theorem ggX4_numberOfAll_X4_currentReading : GoodIn wsX4_numberOfAll wsX4_currentReading := goodIn_r _ [9, 10, 11, 1, 12, 13, 14, 15, 16, 17, 18, 19, 20, 21, 22, 23, 24, 25, 26, 27, 28, 29, 30, 31, 32, 33, 34, 35, 36, 37, 38, 39, 40, 41, 42, 43, 44, 45, 46, 47, 48, 49, 50, 51, 52, 53, 54, 55, 56, 57, 58, 108, 109, 110, 111, 112, 113, 114, 115, 116, 117, 118, 119, 120, 121, 124, 125, 126, 127, 128, 129, 130, 131, 132, 133] (by decide +kernel) (by decide +kernel)
set_option maxRecDepth 20000 in
theorem gX4_numberOfAll_X4_currentReading : GoodIn wsX4_numberOfAll (wsV RX4 129 RX4 yX4_currentReading wsX4_currentReading) := goodIn_app (goodIn_of _ (by decide +kernel)) ggX4_numberOfAll_X4_currentReading
set_option maxRecDepth 20000 in
theorem ggX4_numberOfAll_X1_datedBooks : GoodIn wsX4_numberOfAll wsX1_datedBooks := goodIn_r _ [62, 18, 63, 64, 65, 15, 66, 57, 58, 124, 125, 126, 127, 128, 129, 130, 131, 132, 133] (by decide +kernel) (by decide +kernel)
set_option maxRecDepth 20000 in
theorem gX4_numberOfAll_X1_datedBooks : GoodIn wsX4_numberOfAll (wsV RX4 229 RX1 yX1_datedBooks wsX1_datedBooks) := goodIn_app (goodIn_of _ (by decide +kernel)) ggX4_numberOfAll_X1_datedBooks
set_option maxRecDepth 20000 in
theorem ggX4_numberOfAll_X2_booksWithYear : GoodIn wsX4_numberOfAll wsX2_booksWithYear := goodIn_r _ [70, 71, 34, 117, 118, 119, 120, 121] (by decide +kernel) (by decide +kernel)
set_option maxRecDepth 20000 in
theorem gX4_numberOfAll_X2_booksWithYear : GoodIn wsX4_numberOfAll (wsV RX4 270 RX2 yX2_booksWithYear wsX2_booksWithYear) := goodIn_app (goodIn_of _ (by decide +kernel)) ggX4_numberOfAll_X2_booksWithYear
set_option maxRecDepth 20000 in
theorem ggX4_numberOfAll_X1_contradictingPairs : GoodIn wsX4_numberOfAll wsX1_contradictingPairs := goodIn_r _ [75, 18, 24, 25, 76, 77, 78, 79, 80, 81, 82, 124, 125, 126, 127, 128, 129, 130, 131, 132, 133] (by decide +kernel) (by decide +kernel)
set_option maxRecDepth 20000 in
theorem gX4_numberOfAll_X1_contradictingPairs : GoodIn wsX4_numberOfAll (wsV RX4 273 RX1 yX1_contradictingPairs wsX1_contradictingPairs) := goodIn_app (goodIn_of _ (by decide +kernel)) ggX4_numberOfAll_X1_contradictingPairs
set_option maxRecDepth 20000 in
theorem ggX4_numberOfAll_X1_orders : GoodIn wsX4_numberOfAll wsX1_orders := goodIn_r _ [86, 41, 87, 88, 89, 15, 90, 18, 91, 92, 93, 94, 19, 95, 96, 97, 98, 99, 24, 42, 43, 44, 124, 125, 126, 127, 128, 129, 130, 131, 132, 133] (by decide +kernel) (by decide +kernel)
set_option maxRecDepth 20000 in
theorem gX4_numberOfAll_X1_orders : GoodIn wsX4_numberOfAll (wsV RX4 217 RX1 yX1_orders wsX1_orders) := goodIn_app (goodIn_of _ (by decide +kernel)) ggX4_numberOfAll_X1_orders
set_option maxRecDepth 20000 in
theorem ggX4_numberOfAll_X1_orderedPairs : GoodIn wsX4_numberOfAll wsX1_orderedPairs := goodIn_r _ [103, 18, 24, 25, 76, 77, 78, 79, 80, 81, 82, 124, 125, 126, 127, 128, 129, 130, 131, 132, 133] (by decide +kernel) (by decide +kernel)
set_option maxRecDepth 20000 in
theorem gX4_numberOfAll_X1_orderedPairs : GoodIn wsX4_numberOfAll (wsV RX4 276 RX1 yX1_orderedPairs wsX1_orderedPairs) := goodIn_app (goodIn_of _ (by decide +kernel)) ggX4_numberOfAll_X1_orderedPairs
set_option maxRecDepth 20000 in
theorem ggX4_numberOfAll_X2_booksOfPress : GoodIn wsX4_numberOfAll wsX2_booksOfPress := goodIn_r _ [107, 71, 31, 117, 118, 119, 120, 121] (by decide +kernel) (by decide +kernel)
set_option maxRecDepth 20000 in
theorem gX4_numberOfAll_X2_booksOfPress : GoodIn wsX4_numberOfAll (wsV RX4 279 RX2 yX2_booksOfPress wsX2_booksOfPress) := goodIn_app (goodIn_of _ (by decide +kernel)) ggX4_numberOfAll_X2_booksOfPress
theorem dX4_numberOfAll_0 : decode cX4_numberOfAll 0 = .ok (.iload_n 1, 1) := by decide +kernel
theorem dX4_numberOfAll_1 : decode cX4_numberOfAll 1 = .ok (.tableswitch 99 0 6 #[43, 51, 59, 67, 75, 83, 91], 43) := by decide +kernel
theorem dX4_numberOfAll_44 : decode cX4_numberOfAll 44 = .ok (.aload_n 0, 1) := by decide +kernel
theorem dX4_numberOfAll_45 : decode cX4_numberOfAll 45 = .ok (.getfield 12, 3) := by decide +kernel
theorem dX4_numberOfAll_48 : decode cX4_numberOfAll 48 = .ok (.getfield 75, 3) := by decide +kernel
theorem dX4_numberOfAll_51 : decode cX4_numberOfAll 51 = .ok (.ireturn, 1) := by decide +kernel
theorem dX4_numberOfAll_52 : decode cX4_numberOfAll 52 = .ok (.aload_n 0, 1) := by decide +kernel
theorem dX4_numberOfAll_53 : decode cX4_numberOfAll 53 = .ok (.invokevirtual 129, 3) := by decide +kernel
theorem dX4_numberOfAll_56 : decode cX4_numberOfAll 56 = .ok (.invokevirtual 229, 3) := by decide +kernel
theorem dX4_numberOfAll_59 : decode cX4_numberOfAll 59 = .ok (.ireturn, 1) := by decide +kernel
theorem dX4_numberOfAll_60 : decode cX4_numberOfAll 60 = .ok (.aload_n 0, 1) := by decide +kernel
theorem dX4_numberOfAll_61 : decode cX4_numberOfAll 61 = .ok (.getfield 12, 3) := by decide +kernel
theorem dX4_numberOfAll_64 : decode cX4_numberOfAll 64 = .ok (.invokevirtual 270, 3) := by decide +kernel
theorem dX4_numberOfAll_67 : decode cX4_numberOfAll 67 = .ok (.ireturn, 1) := by decide +kernel
theorem dX4_numberOfAll_68 : decode cX4_numberOfAll 68 = .ok (.aload_n 0, 1) := by decide +kernel
theorem dX4_numberOfAll_69 : decode cX4_numberOfAll 69 = .ok (.invokevirtual 129, 3) := by decide +kernel
theorem dX4_numberOfAll_72 : decode cX4_numberOfAll 72 = .ok (.invokevirtual 273, 3) := by decide +kernel
theorem dX4_numberOfAll_75 : decode cX4_numberOfAll 75 = .ok (.ireturn, 1) := by decide +kernel
theorem dX4_numberOfAll_76 : decode cX4_numberOfAll 76 = .ok (.aload_n 0, 1) := by decide +kernel
theorem dX4_numberOfAll_77 : decode cX4_numberOfAll 77 = .ok (.invokevirtual 129, 3) := by decide +kernel
theorem dX4_numberOfAll_80 : decode cX4_numberOfAll 80 = .ok (.invokevirtual 217, 3) := by decide +kernel
theorem dX4_numberOfAll_83 : decode cX4_numberOfAll 83 = .ok (.ireturn, 1) := by decide +kernel
theorem dX4_numberOfAll_84 : decode cX4_numberOfAll 84 = .ok (.aload_n 0, 1) := by decide +kernel
theorem dX4_numberOfAll_85 : decode cX4_numberOfAll 85 = .ok (.invokevirtual 129, 3) := by decide +kernel
theorem dX4_numberOfAll_88 : decode cX4_numberOfAll 88 = .ok (.invokevirtual 276, 3) := by decide +kernel
theorem dX4_numberOfAll_91 : decode cX4_numberOfAll 91 = .ok (.ireturn, 1) := by decide +kernel
theorem dX4_numberOfAll_92 : decode cX4_numberOfAll 92 = .ok (.aload_n 0, 1) := by decide +kernel
theorem dX4_numberOfAll_93 : decode cX4_numberOfAll 93 = .ok (.getfield 22, 3) := by decide +kernel
theorem dX4_numberOfAll_96 : decode cX4_numberOfAll 96 = .ok (.getfield 168, 3) := by decide +kernel
theorem dX4_numberOfAll_99 : decode cX4_numberOfAll 99 = .ok (.ireturn, 1) := by decide +kernel
theorem dX4_numberOfAll_100 : decode cX4_numberOfAll 100 = .ok (.aload_n 0, 1) := by decide +kernel
theorem dX4_numberOfAll_101 : decode cX4_numberOfAll 101 = .ok (.getfield 12, 3) := by decide +kernel
theorem dX4_numberOfAll_104 : decode cX4_numberOfAll 104 = .ok (.iload_n 1, 1) := by decide +kernel
theorem dX4_numberOfAll_105 : decode cX4_numberOfAll 105 = .ok (.bipush 7, 2) := by decide +kernel
theorem dX4_numberOfAll_107 : decode cX4_numberOfAll 107 = .ok (.isub, 1) := by decide +kernel
theorem dX4_numberOfAll_108 : decode cX4_numberOfAll 108 = .ok (.invokevirtual 279, 3) := by decide +kernel
theorem dX4_numberOfAll_111 : decode cX4_numberOfAll 111 = .ok (.ireturn, 1) := by decide +kernel
set_option maxRecDepth 20000 in
theorem ggX4_currentReading_X1_read : GoodIn wsX4_currentReading wsX1_read := goodIn_r _ [8, 9, 10, 11, 12, 13, 14, 7, 15, 16, 17, 18, 19, 20, 21, 22, 23, 24, 25, 26, 27, 28, 29, 30, 31, 32, 33, 34, 35, 36, 37, 38, 39, 40, 41, 42, 43, 44, 45, 46, 47, 48, 49, 50, 60, 61, 62, 63, 64, 65, 66, 67, 68, 69, 70, 71, 72, 73, 74] (by decide +kernel) (by decide +kernel)
set_option maxRecDepth 20000 in
theorem gX4_currentReading_X1_read : GoodIn wsX4_currentReading (wsV RX4 294 RX1 yX1_read wsX1_read) := goodIn_app (goodIn_of _ (by decide +kernel)) ggX4_currentReading_X1_read
theorem dX4_currentReading_0 : decode cX4_currentReading 0 = .ok (.aload_n 0, 1) := by decide +kernel
theorem dX4_currentReading_1 : decode cX4_currentReading 1 = .ok (.getfield 51, 3) := by decide +kernel
theorem dX4_currentReading_4 : decode cX4_currentReading 4 = .ok (.ifCond .eq 19, 3) := by decide +kernel
theorem dX4_currentReading_7 : decode cX4_currentReading 7 = .ok (.aload_n 0, 1) := by decide +kernel
theorem dX4_currentReading_8 : decode cX4_currentReading 8 = .ok (.getfield 29, 3) := by decide +kernel
theorem dX4_currentReading_11 : decode cX4_currentReading 11 = .ok (.aload_n 0, 1) := by decide +kernel
theorem dX4_currentReading_12 : decode cX4_currentReading 12 = .ok (.getfield 12, 3) := by decide +kernel
theorem dX4_currentReading_15 : decode cX4_currentReading 15 = .ok (.invokevirtual 294, 3) := by decide +kernel
theorem dX4_currentReading_18 : decode cX4_currentReading 18 = .ok (.aload_n 0, 1) := by decide +kernel
theorem dX4_currentReading_19 : decode cX4_currentReading 19 = .ok (.iconst 0, 1) := by decide +kernel
theorem dX4_currentReading_20 : decode cX4_currentReading 20 = .ok (.putfield 51, 3) := by decide +kernel
theorem dX4_currentReading_23 : decode cX4_currentReading 23 = .ok (.aload_n 0, 1) := by decide +kernel
theorem dX4_currentReading_24 : decode cX4_currentReading 24 = .ok (.getfield 29, 3) := by decide +kernel
theorem dX4_currentReading_27 : decode cX4_currentReading 27 = .ok (.areturn, 1) := by decide +kernel
def f_X4_currentReading (x0_isReadingOld : Int32) (x1_size : Int32) (f2 : Nat → Int32) (f3 : Nat → Int32) (f4 : Nat → Int32) (f5 : Nat → Int32) (x6_areOrdersCounted : Int32) (x6_isAnyOrder : Int32) (x6_size : Int32) (f7 : Nat → Int32) (f8 : Nat → Int32) (f9 : Nat → Int32) (f10 : Nat → Int32) (f11 : Nat → Int32) (f12 : Nat → Int32) : Option (Int32 × Int32 × Int32 × Int32 × (Nat → Int32) × (Nat → Int32) × (Nat → Int32) × (Nat → Int32) × (Nat → Int32) × (Nat → Int32)) := (jn (u10 fun (w1 : Int32) (w2 : Int32) (w3 : Int32) (w4 : Int32) (w5 : Nat → Int32) (w6 : Nat → Int32) (w7 : Nat → Int32) (w8 : Nat → Int32) (w9 : Nat → Int32) (w10 : Nat → Int32) => some (w1, w2, w3, w4, w5, w6, w7, w8, w9, w10)) (fun K11 => (if x0_isReadingOld = 0 then K11 (x0_isReadingOld, x6_areOrdersCounted, x6_isAnyOrder, x6_size, f7, f8, f9, f10, f11, f12) else (f_X1_read x6_areOrdersCounted x6_isAnyOrder x6_size f7 f8 f9 f10 f11 f12 x1_size f2 f3 f4 f5).bind (u9 fun (o13 : Int32) (o14 : Int32) (o15 : Int32) (o16 : Nat → Int32) (o17 : Nat → Int32) (o18 : Nat → Int32) (o19 : Nat → Int32) (o20 : Nat → Int32) (o21 : Nat → Int32) => K11 (0, o13, o14, o15, o16, o17, o18, o19, o20, o21)))))
theorem in_X4_currentReading_X4 : ∀ w ∈ wsX40, w ∈ wsX4_currentReading := by decide +kernel
theorem fl_X4_currentReading_51 : Cond.fieldLink RX4 51 "ColophonHunt" "isReadingOld" "Z" ∈ wsX4_currentReading := by decide +kernel
theorem fl_X4_currentReading_29 : Cond.fieldLink RX4 29 "ColophonHunt" "reading" "LColophonHunt$Reading;" ∈ wsX4_currentReading := by decide +kernel
theorem fl_X4_currentReading_12 : Cond.fieldLink RX4 12 "ColophonHunt" "shelf" "LColophonHunt$Shelf;" ∈ wsX4_currentReading := by decide +kernel
theorem hd_X4_currentReading : yX4_currentReading.cls = RX4 ∧ yX4_currentReading.cls ≠ "java/lang/invoke/MethodHandle" ∧ yX4_currentReading.cls ≠ "java/lang/invoke/VarHandle" ∧ (parseMethodDescriptor yX4_currentReading.desc).map (fun d => d.parameters.length) = some 0 := by decide +kernel
set_option maxRecDepth 100000 in
set_option maxHeartbeats 4000000 in
theorem c_X4_currentReading (l : Launch) (D : va_G) (cI cS cL : ClassId) (a0 : Nat) (a1 : Nat) (a2 : Nat) (a3 : Nat) (a4 : Nat) (a5 : Nat) (a6 : Nat) (a7 : Nat) (a8 : Nat) (a9 : Nat) (a10 : Nat) (a11 : Nat) (a12 : Nat) (b0_1 : Nat) (b0_2 : Nat) (b0_4 : Nat) (b0_5 : Nat) (b0_6 : Nat) (b6_6 : Nat) (x0_length : Int32) (x0_isReadingOld : Int32) (x1_size : Int32) (f2 : Nat → Int32) (f3 : Nat → Int32) (f4 : Nat → Int32) (f5 : Nat → Int32) (x6_areOrdersCounted : Int32) (x6_isAnyOrder : Int32) (x6_size : Int32) (f7 : Nat → Int32) (f8 : Nat → Int32) (f9 : Nat → Int32) (f10 : Nat → Int32) (f11 : Nat → Int32) (f12 : Nat → Int32) (y0 : Int32) (y1 : Int32) (y2 : Int32) (y3 : Int32) (y4 : Nat → Int32) (y5 : Nat → Int32) (y6 : Nat → Int32) (y7 : Nat → Int32) (y8 : Nat → Int32) (y9 : Nat → Int32) (hc : f_X4_currentReading x0_isReadingOld x1_size f2 f3 f4 f5 x6_areOrdersCounted x6_isAnyOrder x6_size f7 f8 f9 f10 f11 f12 = some (y0, y1, y2, y3, y4, y5, y6, y7, y8, y9)) : KM l yX4_currentReading wsX4_currentReading { frames := 3, cells := 0, slots := 0, locals := 68 } D (tyS cI cS cL) [.ref a0] [(a0, .inr (4, [.ref a1, .ref b0_1, .ref b0_2, .ref a6, .ref b0_4, .ref b0_5, .ref b0_6, .int x0_length, .int x0_isReadingOld])), (a1, .inr (2, [.ref a2, .ref a3, .ref a4, .ref a5, .int x1_size])), (a2, .inl (cI, 10, .inl f2)), (a3, .inl (cI, 10, .inl f3)), (a4, .inl (cI, 10, .inl f4)), (a5, .inl (cI, 10, .inl f5)), (a6, .inr (1, [.ref a7, .ref a8, .ref a9, .ref a10, .ref a11, .ref a12, .ref b6_6, .int x6_areOrdersCounted, .int x6_isAnyOrder, .int x6_size])), (a7, .inl (cI, 10, .inl f7)), (a8, .inl (cI, 10, .inl f8)), (a9, .inl (cI, 10, .inl f9)), (a10, .inl (cI, 10, .inl f10)), (a11, .inl (cI, 10, .inl f11)), (a12, .inl (cI, 10, .inl f12))] (some (.ref a6)) (fun w => w = [(a0, .inr (4, [.ref a1, .ref b0_1, .ref b0_2, .ref a6, .ref b0_4, .ref b0_5, .ref b0_6, .int x0_length, .int y0])), (a1, .inr (2, [.ref a2, .ref a3, .ref a4, .ref a5, .int x1_size])), (a2, .inl (cI, 10, .inl f2)), (a3, .inl (cI, 10, .inl f3)), (a4, .inl (cI, 10, .inl f4)), (a5, .inl (cI, 10, .inl f5)), (a6, .inr (1, [.ref a7, .ref a8, .ref a9, .ref a10, .ref a11, .ref a12, .ref b6_6, .int y1, .int y2, .int y3])), (a7, .inl (cI, 10, .inl y4)), (a8, .inl (cI, 10, .inl y5)), (a9, .inl (cI, 10, .inl y6)), (a10, .inl (cI, 10, .inl y7)), (a11, .inl (cI, 10, .inl y8)), (a12, .inl (cI, 10, .inl y9))]) 0 0 := by
  refine g_entry (cc := cX4_currentReading) (nL := 1) (rt := (some (.object "ColophonHunt$Reading"))) (by decide) rfl (Nat.le_of_ble_eq_true rfl) ?_
  intro p e s m args below meth c A (X : GC p s m args c cX4_currentReading 1 RX4 wsX4_currentReading D (tyS cI cS cL) A) hr hlk _ _
  have h := hc
  unfold f_X4_currentReading at h
  refine g_lv (lv' := [(0, .ref a0)]) [0] rfl ?_
  refine g_aload_n X (j := 0) dX4_currentReading_0 rfl ?_
  refine g_get (q0 := 0) (k := 8) (ci := 4) X in_X4_currentReading_X4 fl_X4_currentReading_51 rfl rfl (Nat.le_of_ble_eq_true rfl) rfl dX4_currentReading_1 ?_
  refine jn_g h (u10 fun w1 w2 w3 w4 w5 w6 w7 w8 w9 w10 => [(a0, .inr (4, [.ref a1, .ref b0_1, .ref b0_2, .ref a6, .ref b0_4, .ref b0_5, .ref b0_6, .int x0_length, .int w1])), (a1, .inr (2, [.ref a2, .ref a3, .ref a4, .ref a5, .int x1_size])), (a2, .inl (cI, 10, .inl f2)), (a3, .inl (cI, 10, .inl f3)), (a4, .inl (cI, 10, .inl f4)), (a5, .inl (cI, 10, .inl f5)), (a6, .inr (1, [.ref a7, .ref a8, .ref a9, .ref a10, .ref a11, .ref a12, .ref b6_6, .int w2, .int w3, .int w4])), (a7, .inl (cI, 10, .inl w5)), (a8, .inl (cI, 10, .inl w6)), (a9, .inl (cI, 10, .inl w7)), (a10, .inl (cI, 10, .inl w8)), (a11, .inl (cI, 10, .inl w9)), (a12, .inl (cI, 10, .inl w10))]) (u10 fun w1 w2 w3 w4 w5 w6 w7 w8 w9 w10 => [(0, .ref a0)]) (u10 fun w1 w2 w3 w4 w5 w6 w7 w8 w9 w10 => []) 23 ?_ ?_
  · rintro ⟨w1, w2, w3, w4, w5, w6, w7, w8, w9, w10⟩ h
    dsimp only [u10] at h ⊢
    refine g_aload_n X (j := 0) dX4_currentReading_23 rfl ?_
    refine g_get (q0 := 0) (k := 3) (ci := 4) X in_X4_currentReading_X4 fl_X4_currentReading_29 rfl rfl (Nat.le_of_ble_eq_true rfl) rfl dX4_currentReading_24 ?_
    have h := Option.some.inj h
    simp only [Prod.mk.injEq] at h
    obtain ⟨rfl, rfl, rfl, rfl, rfl, rfl, rfl, rfl, rfl, rfl⟩ := h
    exact g_aret X hr hlk dX4_currentReading_27 rfl
  · intro K11 hK11 h
    refine g_if_eq (tgt := 23) X h dX4_currentReading_4 (by decide) (fun h => ?_) (fun h => ?_)
    · exact hK11 (x0_isReadingOld, x6_areOrdersCounted, x6_isAnyOrder, x6_size, f7, f8, f9, f10, f11, f12) h
    · refine g_aload_n X (j := 0) dX4_currentReading_7 rfl ?_
      refine g_get (q0 := 0) (k := 3) (ci := 4) X in_X4_currentReading_X4 fl_X4_currentReading_29 rfl rfl (Nat.le_of_ble_eq_true rfl) rfl dX4_currentReading_8 ?_
      refine g_aload_n X (j := 0) dX4_currentReading_11 rfl ?_
      refine g_get (q0 := 0) (k := 0) (ci := 4) X in_X4_currentReading_X4 fl_X4_currentReading_12 rfl rfl (Nat.le_of_ble_eq_true rfl) rfl dX4_currentReading_12 ?_
      obtain ⟨o13, o14, o15, o16, o17, o18, o19, o20, o21, hc, h⟩ := bd9 h
      refine g_callV (q0 := 6) (ci := 1) (is := [6, 7, 8, 9, 10, 11, 12, 1, 2, 3, 4, 5]) (As := [.ref a1]) (ws' := [(a0, .inr (4, [.ref a1, .ref b0_1, .ref b0_2, .ref a6, .ref b0_4, .ref b0_5, .ref b0_6, .int x0_length, .int x0_isReadingOld])), (a1, .inr (2, [.ref a2, .ref a3, .ref a4, .ref a5, .int x1_size])), (a2, .inl (cI, 10, .inl f2)), (a3, .inl (cI, 10, .inl f3)), (a4, .inl (cI, 10, .inl f4)), (a5, .inl (cI, 10, .inl f5)), (a6, .inr (1, [.ref a7, .ref a8, .ref a9, .ref a10, .ref a11, .ref a12, .ref b6_6, .int o13, .int o14, .int o15])), (a7, .inl (cI, 10, .inl o16)), (a8, .inl (cI, 10, .inl o17)), (a9, .inl (cI, 10, .inl o18)), (a10, .inl (cI, 10, .inl o19)), (a11, .inl (cI, 10, .inl o20)), (a12, .inl (cI, 10, .inl o21))]) (st := []) X (c_X1_read l D cI cS cL a6 a7 a8 a9 a10 a11 a12 a1 a2 a3 a4 a5 b6_6 x6_areOrdersCounted x6_isAnyOrder x6_size f7 f8 f9 f10 f11 f12 x1_size f2 f3 f4 f5 o13 o14 o15 o16 o17 o18 o19 o20 o21 hc) gX4_currentReading_X1_read rfl ⟨rfl, rfl⟩ hd_X1_read (by exact ⟨Nat.le_of_ble_eq_true rfl, Nat.le_of_ble_eq_true rfl⟩) ⟨Nat.zero_le _, Nat.zero_le _⟩ rfl rfl rfl rfl rfl rfl rfl (Nat.le_of_ble_eq_true rfl) rfl dX4_currentReading_15 ?_
      refine g_aload_n X (j := 0) dX4_currentReading_18 rfl ?_
      refine g_iconst (v := 0) X dX4_currentReading_19 (by decide) ?_
      refine g_put (q0 := 0) (k := 8) (ci := 4) (ws' := [(a0, .inr (4, [.ref a1, .ref b0_1, .ref b0_2, .ref a6, .ref b0_4, .ref b0_5, .ref b0_6, .int x0_length, .int 0])), (a1, .inr (2, [.ref a2, .ref a3, .ref a4, .ref a5, .int x1_size])), (a2, .inl (cI, 10, .inl f2)), (a3, .inl (cI, 10, .inl f3)), (a4, .inl (cI, 10, .inl f4)), (a5, .inl (cI, 10, .inl f5)), (a6, .inr (1, [.ref a7, .ref a8, .ref a9, .ref a10, .ref a11, .ref a12, .ref b6_6, .int o13, .int o14, .int o15])), (a7, .inl (cI, 10, .inl o16)), (a8, .inl (cI, 10, .inl o17)), (a9, .inl (cI, 10, .inl o18)), (a10, .inl (cI, 10, .inl o19)), (a11, .inl (cI, 10, .inl o20)), (a12, .inl (cI, 10, .inl o21))]) X tyX4_ok nmX4 in_X4_currentReading_X4 fl_X4_currentReading_51 rfl rfl (Nat.le_of_ble_eq_true rfl) rfl rfl rfl (Nat.le_of_ble_eq_true rfl) dX4_currentReading_20 rfl ?_
      exact hK11 (0, o13, o14, o15, o16, o17, o18, o19, o20, o21) h
def f_X4_numberOfBook (p1 : Int32) (p2 : Int32) (x0_isReadingOld : Int32) (x1_size : Int32) (f2 : Nat → Int32) (f3 : Nat → Int32) (f4 : Nat → Int32) (f5 : Nat → Int32) (x6_areOrdersCounted : Int32) (x6_isAnyOrder : Int32) (x6_size : Int32) (f7 : Nat → Int32) (f8 : Nat → Int32) (f9 : Nat → Int32) (f10 : Nat → Int32) (f11 : Nat → Int32) (f12 : Nat → Int32) : Option (Int32 × Int32 × Int32 × Int32 × Int32 × (Nat → Int32) × (Nat → Int32) × (Nat → Int32) × (Nat → Int32) × (Nat → Int32) × (Nat → Int32)) := (f_X4_currentReading x0_isReadingOld x1_size f2 f3 f4 f5 x6_areOrdersCounted x6_isAnyOrder x6_size f7 f8 f9 f10 f11 f12).bind (u10 fun (o2 : Int32) (o3 : Int32) (o4 : Int32) (o5 : Int32) (o6 : Nat → Int32) (o7 : Nat → Int32) (o8 : Nat → Int32) (o9 : Nat → Int32) (o10 : Nat → Int32) (o11 : Nat → Int32) => (if p2 < 0 ∨ 9 < p2 then (rdA o6 10 p1).bind (fun v12 => (rdA o7 10 p1).bind (fun v13 => (f_J6_bitCount_0f7a4 (v12 &&& v13)).bind (u1 fun (r14 : Int32) => some (r14, o2, o3, o4, o5, o6, o7, o8, o9, o10, o11)))) else (if p2 = 0 then (rdA f2 10 p1).bind (fun v15 => some (v15, o2, o3, o4, o5, o6, o7, o8, o9, o10, o11)) else (if p2 = 1 then (rdA f3 10 p1).bind (fun v16 => some (v16, o2, o3, o4, o5, o6, o7, o8, o9, o10, o11)) else (if p2 = 2 then (rdA f4 10 p1).bind (fun v17 => some (v17, o2, o3, o4, o5, o6, o7, o8, o9, o10, o11)) else (if p2 = 3 then (rdA f5 10 p1).bind (fun v18 => some (v18, o2, o3, o4, o5, o6, o7, o8, o9, o10, o11)) else (if p2 = 4 then (rdA f3 10 p1).bind (fun v19 => (f_J6_bitCount_0f7a4 v19).bind (u1 fun (r20 : Int32) => some (r20, o2, o3, o4, o5, o6, o7, o8, o9, o10, o11))) else (if p2 = 5 then (rdA o8 10 p1).bind (fun v21 => some (v21, o2, o3, o4, o5, o6, o7, o8, o9, o10, o11)) else (if p2 = 6 then (rdA o9 10 p1).bind (fun v22 => some (v22, o2, o3, o4, o5, o6, o7, o8, o9, o10, o11)) else (if p2 = 7 then (f_X1_isDated p1 o8 o9).bind (u1 fun (r23 : Int32) => (jn (u1 fun (s24 : Int32) => some (s24, o2, o3, o4, o5, o6, o7, o8, o9, o10, o11)) (fun K25 => (if r23 = 0 then K25 0 else K25 1)))) else (if p2 = 8 then (rdA o6 10 p1).bind (fun v26 => (f_J6_bitCount_0f7a4 v26).bind (u1 fun (r27 : Int32) => some (r27, o2, o3, o4, o5, o6, o7, o8, o9, o10, o11))) else (if p2 = 9 then (rdA o7 10 p1).bind (fun v28 => (f_J6_bitCount_0f7a4 v28).bind (u1 fun (r29 : Int32) => some (r29, o2, o3, o4, o5, o6, o7, o8, o9, o10, o11))) else none))))))))))))
theorem in_X4_numberOfBook_X1 : ∀ w ∈ wsX10, w ∈ wsX4_numberOfBook := by decide +kernel
theorem fl_X4_numberOfBook_264 : Cond.fieldLink RX4 264 "ColophonHunt$Reading" "before" "[I" ∈ wsX4_numberOfBook := by decide +kernel
theorem fl_X4_numberOfBook_267 : Cond.fieldLink RX4 267 "ColophonHunt$Reading" "behind" "[I" ∈ wsX4_numberOfBook := by decide +kernel
theorem in_X4_numberOfBook_X4 : ∀ w ∈ wsX40, w ∈ wsX4_numberOfBook := by decide +kernel
theorem fl_X4_numberOfBook_12 : Cond.fieldLink RX4 12 "ColophonHunt" "shelf" "LColophonHunt$Shelf;" ∈ wsX4_numberOfBook := by decide +kernel
theorem in_X4_numberOfBook_X2 : ∀ w ∈ wsX20, w ∈ wsX4_numberOfBook := by decide +kernel
theorem fl_X4_numberOfBook_126 : Cond.fieldLink RX4 126 "ColophonHunt$Shelf" "presses" "[I" ∈ wsX4_numberOfBook := by decide +kernel
theorem fl_X4_numberOfBook_107 : Cond.fieldLink RX4 107 "ColophonHunt$Shelf" "letters" "[I" ∈ wsX4_numberOfBook := by decide +kernel
theorem fl_X4_numberOfBook_116 : Cond.fieldLink RX4 116 "ColophonHunt$Shelf" "moulds" "[I" ∈ wsX4_numberOfBook := by decide +kernel
theorem fl_X4_numberOfBook_121 : Cond.fieldLink RX4 121 "ColophonHunt$Shelf" "years" "[I" ∈ wsX4_numberOfBook := by decide +kernel
theorem fl_X4_numberOfBook_136 : Cond.fieldLink RX4 136 "ColophonHunt$Reading" "firstYears" "[I" ∈ wsX4_numberOfBook := by decide +kernel
theorem fl_X4_numberOfBook_261 : Cond.fieldLink RX4 261 "ColophonHunt$Reading" "lastYears" "[I" ∈ wsX4_numberOfBook := by decide +kernel
theorem hd_X4_numberOfBook : yX4_numberOfBook.cls = RX4 ∧ yX4_numberOfBook.cls ≠ "java/lang/invoke/MethodHandle" ∧ yX4_numberOfBook.cls ≠ "java/lang/invoke/VarHandle" ∧ (parseMethodDescriptor yX4_numberOfBook.desc).map (fun d => d.parameters.length) = some 2 := by decide +kernel
set_option maxRecDepth 100000 in
set_option maxHeartbeats 4000000 in
theorem c_X4_numberOfBook (l : Launch) (D : va_G) (cI cS cL : ClassId) (a0 : Nat) (a1 : Nat) (a2 : Nat) (a3 : Nat) (a4 : Nat) (a5 : Nat) (a6 : Nat) (a7 : Nat) (a8 : Nat) (a9 : Nat) (a10 : Nat) (a11 : Nat) (a12 : Nat) (b0_1 : Nat) (b0_2 : Nat) (b0_4 : Nat) (b0_5 : Nat) (b0_6 : Nat) (b6_6 : Nat) (p1 : Int32) (p2 : Int32) (x0_length : Int32) (x0_isReadingOld : Int32) (x1_size : Int32) (f2 : Nat → Int32) (f3 : Nat → Int32) (f4 : Nat → Int32) (f5 : Nat → Int32) (x6_areOrdersCounted : Int32) (x6_isAnyOrder : Int32) (x6_size : Int32) (f7 : Nat → Int32) (f8 : Nat → Int32) (f9 : Nat → Int32) (f10 : Nat → Int32) (f11 : Nat → Int32) (f12 : Nat → Int32) (rr : Int32) (y0 : Int32) (y1 : Int32) (y2 : Int32) (y3 : Int32) (y4 : Nat → Int32) (y5 : Nat → Int32) (y6 : Nat → Int32) (y7 : Nat → Int32) (y8 : Nat → Int32) (y9 : Nat → Int32) (hc : f_X4_numberOfBook p1 p2 x0_isReadingOld x1_size f2 f3 f4 f5 x6_areOrdersCounted x6_isAnyOrder x6_size f7 f8 f9 f10 f11 f12 = some (rr, y0, y1, y2, y3, y4, y5, y6, y7, y8, y9)) : KM l yX4_numberOfBook wsX4_numberOfBook { frames := 4, cells := 0, slots := 0, locals := 88 } D (tyS cI cS cL) [.ref a0, .int p1, .int p2] [(a0, .inr (4, [.ref a1, .ref b0_1, .ref b0_2, .ref a6, .ref b0_4, .ref b0_5, .ref b0_6, .int x0_length, .int x0_isReadingOld])), (a1, .inr (2, [.ref a2, .ref a3, .ref a4, .ref a5, .int x1_size])), (a2, .inl (cI, 10, .inl f2)), (a3, .inl (cI, 10, .inl f3)), (a4, .inl (cI, 10, .inl f4)), (a5, .inl (cI, 10, .inl f5)), (a6, .inr (1, [.ref a7, .ref a8, .ref a9, .ref a10, .ref a11, .ref a12, .ref b6_6, .int x6_areOrdersCounted, .int x6_isAnyOrder, .int x6_size])), (a7, .inl (cI, 10, .inl f7)), (a8, .inl (cI, 10, .inl f8)), (a9, .inl (cI, 10, .inl f9)), (a10, .inl (cI, 10, .inl f10)), (a11, .inl (cI, 10, .inl f11)), (a12, .inl (cI, 10, .inl f12))] (some (.int rr)) (fun w => w = [(a0, .inr (4, [.ref a1, .ref b0_1, .ref b0_2, .ref a6, .ref b0_4, .ref b0_5, .ref b0_6, .int x0_length, .int y0])), (a1, .inr (2, [.ref a2, .ref a3, .ref a4, .ref a5, .int x1_size])), (a2, .inl (cI, 10, .inl f2)), (a3, .inl (cI, 10, .inl f3)), (a4, .inl (cI, 10, .inl f4)), (a5, .inl (cI, 10, .inl f5)), (a6, .inr (1, [.ref a7, .ref a8, .ref a9, .ref a10, .ref a11, .ref a12, .ref b6_6, .int y1, .int y2, .int y3])), (a7, .inl (cI, 10, .inl y4)), (a8, .inl (cI, 10, .inl y5)), (a9, .inl (cI, 10, .inl y6)), (a10, .inl (cI, 10, .inl y7)), (a11, .inl (cI, 10, .inl y8)), (a12, .inl (cI, 10, .inl y9))]) 0 0 := by
  refine g_entry (cc := cX4_numberOfBook) (nL := 4) (rt := (some .int)) (by decide) rfl (Nat.le_of_ble_eq_true rfl) ?_
  intro p e s m args below meth c A (X : GC p s m args c cX4_numberOfBook 4 RX4 wsX4_numberOfBook D (tyS cI cS cL) A) hr hlk _ _
  have h := hc
  unfold f_X4_numberOfBook at h
  refine g_lv (lv' := [(0, .ref a0), (1, .int p1), (2, .int p2)]) [0, 1, 2] rfl ?_
  refine g_aload_n X (j := 0) dX4_numberOfBook_0 rfl ?_
  obtain ⟨o2, o3, o4, o5, o6, o7, o8, o9, o10, o11, hc, h⟩ := bd10 h
  refine g_callV (q0 := 0) (ci := 4) (is := [0, 1, 2, 3, 4, 5, 6, 7, 8, 9, 10, 11, 12]) (As := []) (ws' := [(a0, .inr (4, [.ref a1, .ref b0_1, .ref b0_2, .ref a6, .ref b0_4, .ref b0_5, .ref b0_6, .int x0_length, .int o2])), (a1, .inr (2, [.ref a2, .ref a3, .ref a4, .ref a5, .int x1_size])), (a2, .inl (cI, 10, .inl f2)), (a3, .inl (cI, 10, .inl f3)), (a4, .inl (cI, 10, .inl f4)), (a5, .inl (cI, 10, .inl f5)), (a6, .inr (1, [.ref a7, .ref a8, .ref a9, .ref a10, .ref a11, .ref a12, .ref b6_6, .int o3, .int o4, .int o5])), (a7, .inl (cI, 10, .inl o6)), (a8, .inl (cI, 10, .inl o7)), (a9, .inl (cI, 10, .inl o8)), (a10, .inl (cI, 10, .inl o9)), (a11, .inl (cI, 10, .inl o10)), (a12, .inl (cI, 10, .inl o11))]) (st := []) X (c_X4_currentReading l D cI cS cL a0 a1 a2 a3 a4 a5 a6 a7 a8 a9 a10 a11 a12 b0_1 b0_2 b0_4 b0_5 b0_6 b6_6 x0_length x0_isReadingOld x1_size f2 f3 f4 f5 x6_areOrdersCounted x6_isAnyOrder x6_size f7 f8 f9 f10 f11 f12 o2 o3 o4 o5 o6 o7 o8 o9 o10 o11 hc) gX4_numberOfBook_X4_currentReading rfl ⟨rfl, rfl⟩ hd_X4_currentReading (by exact ⟨Nat.le_of_ble_eq_true rfl, Nat.le_of_ble_eq_true rfl⟩) ⟨Nat.zero_le _, Nat.zero_le _⟩ rfl rfl rfl rfl rfl rfl rfl (Nat.le_of_ble_eq_true rfl) rfl dX4_numberOfBook_1 ?_
  refine g_astore_n (lv' := [(3, .ref a6), (0, .ref a0), (1, .int p1), (2, .int p2)]) X dX4_numberOfBook_4 rfl (by decide) rfl ?_
  refine g_iload_n X (j := 3) dX4_numberOfBook_5 rfl ?_
  refine g_tabOut (tgt := 161) X 0 9 h (by decide) (by decide) dX4_numberOfBook_6 (by decide) (fun h => ?_) (fun h => ?_)
  · refine g_aload_n X (j := 0) dX4_numberOfBook_161 rfl ?_
    refine g_get (q0 := 6) (k := 0) (ci := 1) X in_X4_numberOfBook_X1 fl_X4_numberOfBook_264 rfl rfl (Nat.le_of_ble_eq_true rfl) rfl dX4_numberOfBook_162 ?_
    refine g_iload_n X (j := 2) dX4_numberOfBook_165 rfl ?_
    refine g_iald (q0 := 7) (t0 := 0) X h rfl rfl dX4_numberOfBook_166 (fun v12 h => ?_)
    refine g_aload_n X (j := 0) dX4_numberOfBook_167 rfl ?_
    refine g_get (q0 := 6) (k := 1) (ci := 1) X in_X4_numberOfBook_X1 fl_X4_numberOfBook_267 rfl rfl (Nat.le_of_ble_eq_true rfl) rfl dX4_numberOfBook_168 ?_
    refine g_iload_n X (j := 2) dX4_numberOfBook_171 rfl ?_
    refine g_iald (q0 := 8) (t0 := 0) X h rfl rfl dX4_numberOfBook_172 (fun v13 h => ?_)
    refine g_iand X dX4_numberOfBook_173 ?_
    obtain ⟨r14, hc, h⟩ := bd1 h
    refine g_callS0 (As := [.int (v12 &&& v13)]) (st := []) X (c_J6_bitCount_0f7a4 l D cI cS cL (v12 &&& v13) r14 hc) gX4_numberOfBook_J6_bitCount_0f7a4 rfl ⟨rfl, rfl⟩ hd_J6_bitCount_0f7a4.2 ⟨Nat.le_of_ble_eq_true rfl, Nat.le_of_ble_eq_true rfl⟩ ⟨Nat.zero_le _, Nat.zero_le _⟩ rfl (Nat.le_of_ble_eq_true rfl) rfl dX4_numberOfBook_174 ?_
    have h := Option.some.inj h
    simp only [Prod.mk.injEq] at h
    obtain ⟨rfl, rfl, rfl, rfl, rfl, rfl, rfl, rfl, rfl, rfl, rfl⟩ := h
    exact g_iret X hr hlk dX4_numberOfBook_177 rfl rfl
  refine g_tabIn (tgt := 60) X 0 h dX4_numberOfBook_6 (by decide) (by decide) rfl (by decide) (fun h => ?_) (fun h => ?_)
  · refine g_aload_n X (j := 1) dX4_numberOfBook_60 rfl ?_
    refine g_get (q0 := 0) (k := 0) (ci := 4) X in_X4_numberOfBook_X4 fl_X4_numberOfBook_12 rfl rfl (Nat.le_of_ble_eq_true rfl) rfl dX4_numberOfBook_61 ?_
    refine g_get (q0 := 1) (k := 0) (ci := 2) X in_X4_numberOfBook_X2 fl_X4_numberOfBook_126 rfl rfl (Nat.le_of_ble_eq_true rfl) rfl dX4_numberOfBook_64 ?_
    refine g_iload_n X (j := 2) dX4_numberOfBook_67 rfl ?_
    refine g_iald (q0 := 2) (t0 := 0) X h rfl rfl dX4_numberOfBook_68 (fun v15 h => ?_)
    have h := Option.some.inj h
    simp only [Prod.mk.injEq] at h
    obtain ⟨rfl, rfl, rfl, rfl, rfl, rfl, rfl, rfl, rfl, rfl, rfl⟩ := h
    exact g_iret X hr hlk dX4_numberOfBook_69 rfl rfl
  refine g_tabIn (tgt := 70) X 1 h dX4_numberOfBook_6 (by decide) (by decide) rfl (by decide) (fun h => ?_) (fun h => ?_)
  · refine g_aload_n X (j := 1) dX4_numberOfBook_70 rfl ?_
    refine g_get (q0 := 0) (k := 0) (ci := 4) X in_X4_numberOfBook_X4 fl_X4_numberOfBook_12 rfl rfl (Nat.le_of_ble_eq_true rfl) rfl dX4_numberOfBook_71 ?_
    refine g_get (q0 := 1) (k := 1) (ci := 2) X in_X4_numberOfBook_X2 fl_X4_numberOfBook_107 rfl rfl (Nat.le_of_ble_eq_true rfl) rfl dX4_numberOfBook_74 ?_
    refine g_iload_n X (j := 2) dX4_numberOfBook_77 rfl ?_
    refine g_iald (q0 := 3) (t0 := 0) X h rfl rfl dX4_numberOfBook_78 (fun v16 h => ?_)
    have h := Option.some.inj h
    simp only [Prod.mk.injEq] at h
    obtain ⟨rfl, rfl, rfl, rfl, rfl, rfl, rfl, rfl, rfl, rfl, rfl⟩ := h
    exact g_iret X hr hlk dX4_numberOfBook_79 rfl rfl
  refine g_tabIn (tgt := 80) X 2 h dX4_numberOfBook_6 (by decide) (by decide) rfl (by decide) (fun h => ?_) (fun h => ?_)
  · refine g_aload_n X (j := 1) dX4_numberOfBook_80 rfl ?_
    refine g_get (q0 := 0) (k := 0) (ci := 4) X in_X4_numberOfBook_X4 fl_X4_numberOfBook_12 rfl rfl (Nat.le_of_ble_eq_true rfl) rfl dX4_numberOfBook_81 ?_
    refine g_get (q0 := 1) (k := 2) (ci := 2) X in_X4_numberOfBook_X2 fl_X4_numberOfBook_116 rfl rfl (Nat.le_of_ble_eq_true rfl) rfl dX4_numberOfBook_84 ?_
    refine g_iload_n X (j := 2) dX4_numberOfBook_87 rfl ?_
    refine g_iald (q0 := 4) (t0 := 0) X h rfl rfl dX4_numberOfBook_88 (fun v17 h => ?_)
    have h := Option.some.inj h
    simp only [Prod.mk.injEq] at h
    obtain ⟨rfl, rfl, rfl, rfl, rfl, rfl, rfl, rfl, rfl, rfl, rfl⟩ := h
    exact g_iret X hr hlk dX4_numberOfBook_89 rfl rfl
  refine g_tabIn (tgt := 90) X 3 h dX4_numberOfBook_6 (by decide) (by decide) rfl (by decide) (fun h => ?_) (fun h => ?_)
  · refine g_aload_n X (j := 1) dX4_numberOfBook_90 rfl ?_
    refine g_get (q0 := 0) (k := 0) (ci := 4) X in_X4_numberOfBook_X4 fl_X4_numberOfBook_12 rfl rfl (Nat.le_of_ble_eq_true rfl) rfl dX4_numberOfBook_91 ?_
    refine g_get (q0 := 1) (k := 3) (ci := 2) X in_X4_numberOfBook_X2 fl_X4_numberOfBook_121 rfl rfl (Nat.le_of_ble_eq_true rfl) rfl dX4_numberOfBook_94 ?_
    refine g_iload_n X (j := 2) dX4_numberOfBook_97 rfl ?_
    refine g_iald (q0 := 5) (t0 := 0) X h rfl rfl dX4_numberOfBook_98 (fun v18 h => ?_)
    have h := Option.some.inj h
    simp only [Prod.mk.injEq] at h
    obtain ⟨rfl, rfl, rfl, rfl, rfl, rfl, rfl, rfl, rfl, rfl, rfl⟩ := h
    exact g_iret X hr hlk dX4_numberOfBook_99 rfl rfl
  refine g_tabIn (tgt := 100) X 4 h dX4_numberOfBook_6 (by decide) (by decide) rfl (by decide) (fun h => ?_) (fun h => ?_)
  · refine g_aload_n X (j := 1) dX4_numberOfBook_100 rfl ?_
    refine g_get (q0 := 0) (k := 0) (ci := 4) X in_X4_numberOfBook_X4 fl_X4_numberOfBook_12 rfl rfl (Nat.le_of_ble_eq_true rfl) rfl dX4_numberOfBook_101 ?_
    refine g_get (q0 := 1) (k := 1) (ci := 2) X in_X4_numberOfBook_X2 fl_X4_numberOfBook_107 rfl rfl (Nat.le_of_ble_eq_true rfl) rfl dX4_numberOfBook_104 ?_
    refine g_iload_n X (j := 2) dX4_numberOfBook_107 rfl ?_
    refine g_iald (q0 := 3) (t0 := 0) X h rfl rfl dX4_numberOfBook_108 (fun v19 h => ?_)
    obtain ⟨r20, hc, h⟩ := bd1 h
    refine g_callS0 (As := [.int v19]) (st := []) X (c_J6_bitCount_0f7a4 l D cI cS cL v19 r20 hc) gX4_numberOfBook_J6_bitCount_0f7a4 rfl ⟨rfl, rfl⟩ hd_J6_bitCount_0f7a4.2 ⟨Nat.le_of_ble_eq_true rfl, Nat.le_of_ble_eq_true rfl⟩ ⟨Nat.zero_le _, Nat.zero_le _⟩ rfl (Nat.le_of_ble_eq_true rfl) rfl dX4_numberOfBook_109 ?_
    have h := Option.some.inj h
    simp only [Prod.mk.injEq] at h
    obtain ⟨rfl, rfl, rfl, rfl, rfl, rfl, rfl, rfl, rfl, rfl, rfl⟩ := h
    exact g_iret X hr hlk dX4_numberOfBook_112 rfl rfl
  refine g_tabIn (tgt := 113) X 5 h dX4_numberOfBook_6 (by decide) (by decide) rfl (by decide) (fun h => ?_) (fun h => ?_)
  · refine g_aload_n X (j := 0) dX4_numberOfBook_113 rfl ?_
    refine g_get (q0 := 6) (k := 2) (ci := 1) X in_X4_numberOfBook_X1 fl_X4_numberOfBook_136 rfl rfl (Nat.le_of_ble_eq_true rfl) rfl dX4_numberOfBook_114 ?_
    refine g_iload_n X (j := 2) dX4_numberOfBook_117 rfl ?_
    refine g_iald (q0 := 9) (t0 := 0) X h rfl rfl dX4_numberOfBook_118 (fun v21 h => ?_)
    have h := Option.some.inj h
    simp only [Prod.mk.injEq] at h
    obtain ⟨rfl, rfl, rfl, rfl, rfl, rfl, rfl, rfl, rfl, rfl, rfl⟩ := h
    exact g_iret X hr hlk dX4_numberOfBook_119 rfl rfl
  refine g_tabIn (tgt := 120) X 6 h dX4_numberOfBook_6 (by decide) (by decide) rfl (by decide) (fun h => ?_) (fun h => ?_)
  · refine g_aload_n X (j := 0) dX4_numberOfBook_120 rfl ?_
    refine g_get (q0 := 6) (k := 3) (ci := 1) X in_X4_numberOfBook_X1 fl_X4_numberOfBook_261 rfl rfl (Nat.le_of_ble_eq_true rfl) rfl dX4_numberOfBook_121 ?_
    refine g_iload_n X (j := 2) dX4_numberOfBook_124 rfl ?_
    refine g_iald (q0 := 10) (t0 := 0) X h rfl rfl dX4_numberOfBook_125 (fun v22 h => ?_)
    have h := Option.some.inj h
    simp only [Prod.mk.injEq] at h
    obtain ⟨rfl, rfl, rfl, rfl, rfl, rfl, rfl, rfl, rfl, rfl, rfl⟩ := h
    exact g_iret X hr hlk dX4_numberOfBook_126 rfl rfl
  refine g_tabIn (tgt := 127) X 7 h dX4_numberOfBook_6 (by decide) (by decide) rfl (by decide) (fun h => ?_) (fun h => ?_)
  · refine g_aload_n X (j := 0) dX4_numberOfBook_127 rfl ?_
    refine g_iload_n X (j := 2) dX4_numberOfBook_128 rfl ?_
    obtain ⟨r23, hc, h⟩ := bd1 h
    refine g_callV (q0 := 6) (ci := 1) (is := [6, 9, 10]) (As := [.int p1]) (ws' := [(a0, .inr (4, [.ref a1, .ref b0_1, .ref b0_2, .ref a6, .ref b0_4, .ref b0_5, .ref b0_6, .int x0_length, .int o2])), (a1, .inr (2, [.ref a2, .ref a3, .ref a4, .ref a5, .int x1_size])), (a2, .inl (cI, 10, .inl f2)), (a3, .inl (cI, 10, .inl f3)), (a4, .inl (cI, 10, .inl f4)), (a5, .inl (cI, 10, .inl f5)), (a6, .inr (1, [.ref a7, .ref a8, .ref a9, .ref a10, .ref a11, .ref a12, .ref b6_6, .int o3, .int o4, .int o5])), (a7, .inl (cI, 10, .inl o6)), (a8, .inl (cI, 10, .inl o7)), (a9, .inl (cI, 10, .inl o8)), (a10, .inl (cI, 10, .inl o9)), (a11, .inl (cI, 10, .inl o10)), (a12, .inl (cI, 10, .inl o11))]) (st := []) X (c_X1_isDated l D cI cS cL a6 a9 a10 a7 a8 a11 a12 b6_6 p1 o3 o4 o5 o8 o9 r23 hc) gX4_numberOfBook_X1_isDated rfl ⟨rfl, rfl⟩ hd_X1_isDated (by exact ⟨Nat.le_of_ble_eq_true rfl, Nat.le_of_ble_eq_true rfl⟩) ⟨Nat.zero_le _, Nat.zero_le _⟩ rfl rfl rfl rfl rfl rfl rfl (Nat.le_of_ble_eq_true rfl) rfl dX4_numberOfBook_129 ?_
    refine jn_g h (u1 fun s24 => [(a0, .inr (4, [.ref a1, .ref b0_1, .ref b0_2, .ref a6, .ref b0_4, .ref b0_5, .ref b0_6, .int x0_length, .int o2])), (a1, .inr (2, [.ref a2, .ref a3, .ref a4, .ref a5, .int x1_size])), (a2, .inl (cI, 10, .inl f2)), (a3, .inl (cI, 10, .inl f3)), (a4, .inl (cI, 10, .inl f4)), (a5, .inl (cI, 10, .inl f5)), (a6, .inr (1, [.ref a7, .ref a8, .ref a9, .ref a10, .ref a11, .ref a12, .ref b6_6, .int o3, .int o4, .int o5])), (a7, .inl (cI, 10, .inl o6)), (a8, .inl (cI, 10, .inl o7)), (a9, .inl (cI, 10, .inl o8)), (a10, .inl (cI, 10, .inl o9)), (a11, .inl (cI, 10, .inl o10)), (a12, .inl (cI, 10, .inl o11))]) (u1 fun s24 => []) (u1 fun s24 => [.int s24]) 140 ?_ ?_
    · rintro s24 h
      dsimp only [u1] at h ⊢
      have h := Option.some.inj h
      simp only [Prod.mk.injEq] at h
      obtain ⟨rfl, rfl, rfl, rfl, rfl, rfl, rfl, rfl, rfl, rfl, rfl⟩ := h
      exact g_iret X hr hlk dX4_numberOfBook_140 rfl rfl
    · intro K25 hK25 h
      refine g_if_eq (tgt := 139) X h dX4_numberOfBook_132 (by decide) (fun h => ?_) (fun h => ?_)
      · refine g_iconst (v := 0) X dX4_numberOfBook_139 (by decide) ?_
        refine g_lv (lv' := []) [] rfl ?_
        exact hK25 0 h
      · refine g_iconst (v := 1) X dX4_numberOfBook_135 (by decide) ?_
        refine g_goto (tgt := 140) X dX4_numberOfBook_136 (by decide) ?_
        refine g_lv (lv' := []) [] rfl ?_
        exact hK25 1 h
  refine g_tabIn (tgt := 141) X 8 h dX4_numberOfBook_6 (by decide) (by decide) rfl (by decide) (fun h => ?_) (fun h => ?_)
  · refine g_aload_n X (j := 0) dX4_numberOfBook_141 rfl ?_
    refine g_get (q0 := 6) (k := 0) (ci := 1) X in_X4_numberOfBook_X1 fl_X4_numberOfBook_264 rfl rfl (Nat.le_of_ble_eq_true rfl) rfl dX4_numberOfBook_142 ?_
    refine g_iload_n X (j := 2) dX4_numberOfBook_145 rfl ?_
    refine g_iald (q0 := 7) (t0 := 0) X h rfl rfl dX4_numberOfBook_146 (fun v26 h => ?_)
    obtain ⟨r27, hc, h⟩ := bd1 h
    refine g_callS0 (As := [.int v26]) (st := []) X (c_J6_bitCount_0f7a4 l D cI cS cL v26 r27 hc) gX4_numberOfBook_J6_bitCount_0f7a4 rfl ⟨rfl, rfl⟩ hd_J6_bitCount_0f7a4.2 ⟨Nat.le_of_ble_eq_true rfl, Nat.le_of_ble_eq_true rfl⟩ ⟨Nat.zero_le _, Nat.zero_le _⟩ rfl (Nat.le_of_ble_eq_true rfl) rfl dX4_numberOfBook_147 ?_
    have h := Option.some.inj h
    simp only [Prod.mk.injEq] at h
    obtain ⟨rfl, rfl, rfl, rfl, rfl, rfl, rfl, rfl, rfl, rfl, rfl⟩ := h
    exact g_iret X hr hlk dX4_numberOfBook_150 rfl rfl
  refine g_tabIn (tgt := 151) X 9 h dX4_numberOfBook_6 (by decide) (by decide) rfl (by decide) (fun h => ?_) (fun h => ?_)
  · refine g_aload_n X (j := 0) dX4_numberOfBook_151 rfl ?_
    refine g_get (q0 := 6) (k := 1) (ci := 1) X in_X4_numberOfBook_X1 fl_X4_numberOfBook_267 rfl rfl (Nat.le_of_ble_eq_true rfl) rfl dX4_numberOfBook_152 ?_
    refine g_iload_n X (j := 2) dX4_numberOfBook_155 rfl ?_
    refine g_iald (q0 := 8) (t0 := 0) X h rfl rfl dX4_numberOfBook_156 (fun v28 h => ?_)
    obtain ⟨r29, hc, h⟩ := bd1 h
    refine g_callS0 (As := [.int v28]) (st := []) X (c_J6_bitCount_0f7a4 l D cI cS cL v28 r29 hc) gX4_numberOfBook_J6_bitCount_0f7a4 rfl ⟨rfl, rfl⟩ hd_J6_bitCount_0f7a4.2 ⟨Nat.le_of_ble_eq_true rfl, Nat.le_of_ble_eq_true rfl⟩ ⟨Nat.zero_le _, Nat.zero_le _⟩ rfl (Nat.le_of_ble_eq_true rfl) rfl dX4_numberOfBook_157 ?_
    have h := Option.some.inj h
    simp only [Prod.mk.injEq] at h
    obtain ⟨rfl, rfl, rfl, rfl, rfl, rfl, rfl, rfl, rfl, rfl, rfl⟩ := h
    exact g_iret X hr hlk dX4_numberOfBook_160 rfl rfl
  cases h
def f_X4_numberOfAll (p1 : Int32) (x0_isReadingOld : Int32) (x1_size : Int32) (f2 : Nat → Int32) (f3 : Nat → Int32) (f4 : Nat → Int32) (f5 : Nat → Int32) (x6_size : Int32) (x7_areOrdersCounted : Int32) (x7_isAnyOrder : Int32) (x7_size : Int32) (f8 : Nat → Int32) (f9 : Nat → Int32) (f10 : Nat → Int32) (f11 : Nat → Int32) (f12 : Nat → Int32) (f13 : Nat → Int32) (f14 : Nat → Int32) : Option (Int32 × Int32 × Int32 × Int32 × Int32 × (Nat → Int32) × (Nat → Int32) × (Nat → Int32) × (Nat → Int32) × (Nat → Int32) × (Nat → Int32) × (Nat → Int32)) := (if p1 < 0 ∨ 6 < p1 then (f_X2_booksOfPress (p1 - 7) x1_size f2).bind (u1 fun (r1 : Int32) => some (r1, x0_isReadingOld, x7_areOrdersCounted, x7_isAnyOrder, x7_size, f8, f9, f10, f11, f12, f13, f14)) else (if p1 = 0 then some (x1_size, x0_isReadingOld, x7_areOrdersCounted, x7_isAnyOrder, x7_size, f8, f9, f10, f11, f12, f13, f14) else (if p1 = 1 then (f_X4_currentReading x0_isReadingOld x1_size f2 f3 f4 f5 x7_areOrdersCounted x7_isAnyOrder x7_size f8 f9 f10 f11 f12 f13).bind (u10 fun (o3 : Int32) (o4 : Int32) (o5 : Int32) (o6 : Int32) (o7 : Nat → Int32) (o8 : Nat → Int32) (o9 : Nat → Int32) (o10 : Nat → Int32) (o11 : Nat → Int32) (o12 : Nat → Int32) => (f_X1_datedBooks o6 o9 o10).bind (u1 fun (r13 : Int32) => some (r13, o3, o4, o5, o6, o7, o8, o9, o10, o11, o12, f14))) else (if p1 = 2 then (f_X2_booksWithYear x1_size f5).bind (u1 fun (r14 : Int32) => some (r14, x0_isReadingOld, x7_areOrdersCounted, x7_isAnyOrder, x7_size, f8, f9, f10, f11, f12, f13, f14)) else (if p1 = 3 then (f_X4_currentReading x0_isReadingOld x1_size f2 f3 f4 f5 x7_areOrdersCounted x7_isAnyOrder x7_size f8 f9 f10 f11 f12 f13).bind (u10 fun (o16 : Int32) (o17 : Int32) (o18 : Int32) (o19 : Int32) (o20 : Nat → Int32) (o21 : Nat → Int32) (o22 : Nat → Int32) (o23 : Nat → Int32) (o24 : Nat → Int32) (o25 : Nat → Int32) => (f_X1_contradictingPairs o19 o20 o21).bind (u1 fun (r26 : Int32) => some (r26, o16, o17, o18, o19, o20, o21, o22, o23, o24, o25, f14))) else (if p1 = 4 then (f_X4_currentReading x0_isReadingOld x1_size f2 f3 f4 f5 x7_areOrdersCounted x7_isAnyOrder x7_size f8 f9 f10 f11 f12 f13).bind (u10 fun (o28 : Int32) (o29 : Int32) (o30 : Int32) (o31 : Int32) (o32 : Nat → Int32) (o33 : Nat → Int32) (o34 : Nat → Int32) (o35 : Nat → Int32) (o36 : Nat → Int32) (o37 : Nat → Int32) => (f_X1_orders o29 o30 o31 o32 f14).bind (u3 fun (r38 : Int32) (o39 : Int32) (o40 : Nat → Int32) => some (r38, o28, o39, o30, o31, o32, o33, o34, o35, o36, o37, o40))) else (if p1 = 5 then (f_X4_currentReading x0_isReadingOld x1_size f2 f3 f4 f5 x7_areOrdersCounted x7_isAnyOrder x7_size f8 f9 f10 f11 f12 f13).bind (u10 fun (o42 : Int32) (o43 : Int32) (o44 : Int32) (o45 : Int32) (o46 : Nat → Int32) (o47 : Nat → Int32) (o48 : Nat → Int32) (o49 : Nat → Int32) (o50 : Nat → Int32) (o51 : Nat → Int32) => (f_X1_orderedPairs o45 o46 o47).bind (u1 fun (r52 : Int32) => some (r52, o42, o43, o44, o45, o46, o47, o48, o49, o50, o51, f14))) else (if p1 = 6 then some (x6_size, x0_isReadingOld, x7_areOrdersCounted, x7_isAnyOrder, x7_size, f8, f9, f10, f11, f12, f13, f14) else none))))))))
theorem in_X4_numberOfAll_X4 : ∀ w ∈ wsX40, w ∈ wsX4_numberOfAll := by decide +kernel
theorem fl_X4_numberOfAll_12 : Cond.fieldLink RX4 12 "ColophonHunt" "shelf" "LColophonHunt$Shelf;" ∈ wsX4_numberOfAll := by decide +kernel
theorem in_X4_numberOfAll_X2 : ∀ w ∈ wsX20, w ∈ wsX4_numberOfAll := by decide +kernel
theorem fl_X4_numberOfAll_75 : Cond.fieldLink RX4 75 "ColophonHunt$Shelf" "size" "I" ∈ wsX4_numberOfAll := by decide +kernel
theorem fl_X4_numberOfAll_22 : Cond.fieldLink RX4 22 "ColophonHunt" "history" "LColophonHunt$History;" ∈ wsX4_numberOfAll := by decide +kernel
theorem in_X4_numberOfAll_X0 : ∀ w ∈ wsX00, w ∈ wsX4_numberOfAll := by decide +kernel
theorem fl_X4_numberOfAll_168 : Cond.fieldLink RX4 168 "ColophonHunt$History" "size" "I" ∈ wsX4_numberOfAll := by decide +kernel
theorem hd_X4_numberOfAll : yX4_numberOfAll.cls = RX4 ∧ yX4_numberOfAll.cls ≠ "java/lang/invoke/MethodHandle" ∧ yX4_numberOfAll.cls ≠ "java/lang/invoke/VarHandle" ∧ (parseMethodDescriptor yX4_numberOfAll.desc).map (fun d => d.parameters.length) = some 1 := by decide +kernel
set_option maxRecDepth 100000 in
set_option maxHeartbeats 4000000 in
theorem c_X4_numberOfAll (l : Launch) (D : va_G) (cI cS cL : ClassId) (a0 : Nat) (a1 : Nat) (a2 : Nat) (a3 : Nat) (a4 : Nat) (a5 : Nat) (a6 : Nat) (a7 : Nat) (a8 : Nat) (a9 : Nat) (a10 : Nat) (a11 : Nat) (a12 : Nat) (a13 : Nat) (a14 : Nat) (b0_1 : Nat) (b0_4 : Nat) (b0_5 : Nat) (b0_6 : Nat) (b6_0 : Nat) (p1 : Int32) (x0_length : Int32) (x0_isReadingOld : Int32) (x1_size : Int32) (f2 : Nat → Int32) (f3 : Nat → Int32) (f4 : Nat → Int32) (f5 : Nat → Int32) (x6_size : Int32) (x7_areOrdersCounted : Int32) (x7_isAnyOrder : Int32) (x7_size : Int32) (f8 : Nat → Int32) (f9 : Nat → Int32) (f10 : Nat → Int32) (f11 : Nat → Int32) (f12 : Nat → Int32) (f13 : Nat → Int32) (f14 : Nat → Int32) (rr : Int32) (y0 : Int32) (y1 : Int32) (y2 : Int32) (y3 : Int32) (y4 : Nat → Int32) (y5 : Nat → Int32) (y6 : Nat → Int32) (y7 : Nat → Int32) (y8 : Nat → Int32) (y9 : Nat → Int32) (y10 : Nat → Int32) (hc : f_X4_numberOfAll p1 x0_isReadingOld x1_size f2 f3 f4 f5 x6_size x7_areOrdersCounted x7_isAnyOrder x7_size f8 f9 f10 f11 f12 f13 f14 = some (rr, y0, y1, y2, y3, y4, y5, y6, y7, y8, y9, y10)) : KM l yX4_numberOfAll wsX4_numberOfAll { frames := 4, cells := 0, slots := 0, locals := 88 } D (tyS cI cS cL) [.ref a0, .int p1] [(a0, .inr (4, [.ref a1, .ref b0_1, .ref a6, .ref a7, .ref b0_4, .ref b0_5, .ref b0_6, .int x0_length, .int x0_isReadingOld])), (a1, .inr (2, [.ref a2, .ref a3, .ref a4, .ref a5, .int x1_size])), (a2, .inl (cI, 10, .inl f2)), (a3, .inl (cI, 10, .inl f3)), (a4, .inl (cI, 10, .inl f4)), (a5, .inl (cI, 10, .inl f5)), (a6, .inr (0, [.ref b6_0, .int x6_size])), (a7, .inr (1, [.ref a8, .ref a9, .ref a10, .ref a11, .ref a12, .ref a13, .ref a14, .int x7_areOrdersCounted, .int x7_isAnyOrder, .int x7_size])), (a8, .inl (cI, 10, .inl f8)), (a9, .inl (cI, 10, .inl f9)), (a10, .inl (cI, 10, .inl f10)), (a11, .inl (cI, 10, .inl f11)), (a12, .inl (cI, 10, .inl f12)), (a13, .inl (cI, 10, .inl f13)), (a14, .inl (cI, 1024, .inl f14))] (some (.int rr)) (fun w => w = [(a0, .inr (4, [.ref a1, .ref b0_1, .ref a6, .ref a7, .ref b0_4, .ref b0_5, .ref b0_6, .int x0_length, .int y0])), (a1, .inr (2, [.ref a2, .ref a3, .ref a4, .ref a5, .int x1_size])), (a2, .inl (cI, 10, .inl f2)), (a3, .inl (cI, 10, .inl f3)), (a4, .inl (cI, 10, .inl f4)), (a5, .inl (cI, 10, .inl f5)), (a6, .inr (0, [.ref b6_0, .int x6_size])), (a7, .inr (1, [.ref a8, .ref a9, .ref a10, .ref a11, .ref a12, .ref a13, .ref a14, .int y1, .int y2, .int y3])), (a8, .inl (cI, 10, .inl y4)), (a9, .inl (cI, 10, .inl y5)), (a10, .inl (cI, 10, .inl y6)), (a11, .inl (cI, 10, .inl y7)), (a12, .inl (cI, 10, .inl y8)), (a13, .inl (cI, 10, .inl y9)), (a14, .inl (cI, 1024, .inl y10))]) 0 0 := by
  refine g_entry (cc := cX4_numberOfAll) (nL := 2) (rt := (some .int)) (by decide) rfl (Nat.le_of_ble_eq_true rfl) ?_
  intro p e s m args below meth c A (X : GC p s m args c cX4_numberOfAll 2 RX4 wsX4_numberOfAll D (tyS cI cS cL) A) hr hlk _ _
  have h := hc
  unfold f_X4_numberOfAll at h
  refine g_lv (lv' := [(0, .ref a0), (1, .int p1)]) [0, 1] rfl ?_
  refine g_iload_n X (j := 1) dX4_numberOfAll_0 rfl ?_
  refine g_tabOut (tgt := 100) X 0 6 h (by decide) (by decide) dX4_numberOfAll_1 (by decide) (fun h => ?_) (fun h => ?_)
  · refine g_aload_n X (j := 0) dX4_numberOfAll_100 rfl ?_
    refine g_get (q0 := 0) (k := 0) (ci := 4) X in_X4_numberOfAll_X4 fl_X4_numberOfAll_12 rfl rfl (Nat.le_of_ble_eq_true rfl) rfl dX4_numberOfAll_101 ?_
    refine g_iload_n X (j := 1) dX4_numberOfAll_104 rfl ?_
    refine g_bipush (v := 7) X dX4_numberOfAll_105 (by decide) ?_
    refine g_isub X dX4_numberOfAll_107 ?_
    obtain ⟨r1, hc, h⟩ := bd1 h
    refine g_callV (q0 := 1) (ci := 2) (is := [1, 2]) (As := [.int (p1 - 7)]) (ws' := [(a0, .inr (4, [.ref a1, .ref b0_1, .ref a6, .ref a7, .ref b0_4, .ref b0_5, .ref b0_6, .int x0_length, .int x0_isReadingOld])), (a1, .inr (2, [.ref a2, .ref a3, .ref a4, .ref a5, .int x1_size])), (a2, .inl (cI, 10, .inl f2)), (a3, .inl (cI, 10, .inl f3)), (a4, .inl (cI, 10, .inl f4)), (a5, .inl (cI, 10, .inl f5)), (a6, .inr (0, [.ref b6_0, .int x6_size])), (a7, .inr (1, [.ref a8, .ref a9, .ref a10, .ref a11, .ref a12, .ref a13, .ref a14, .int x7_areOrdersCounted, .int x7_isAnyOrder, .int x7_size])), (a8, .inl (cI, 10, .inl f8)), (a9, .inl (cI, 10, .inl f9)), (a10, .inl (cI, 10, .inl f10)), (a11, .inl (cI, 10, .inl f11)), (a12, .inl (cI, 10, .inl f12)), (a13, .inl (cI, 10, .inl f13)), (a14, .inl (cI, 1024, .inl f14))]) (st := []) X (c_X2_booksOfPress l D cI cS cL a1 a2 a3 a4 a5 (p1 - 7) x1_size f2 r1 hc) gX4_numberOfAll_X2_booksOfPress rfl ⟨rfl, rfl⟩ hd_X2_booksOfPress (by exact ⟨Nat.le_of_ble_eq_true rfl, Nat.le_of_ble_eq_true rfl⟩) ⟨Nat.zero_le _, Nat.zero_le _⟩ rfl rfl rfl rfl rfl rfl rfl (Nat.le_of_ble_eq_true rfl) rfl dX4_numberOfAll_108 ?_
    have h := Option.some.inj h
    simp only [Prod.mk.injEq] at h
    obtain ⟨rfl, rfl, rfl, rfl, rfl, rfl, rfl, rfl, rfl, rfl, rfl, rfl⟩ := h
    exact g_iret X hr hlk dX4_numberOfAll_111 rfl rfl
  refine g_tabIn (tgt := 44) X 0 h dX4_numberOfAll_1 (by decide) (by decide) rfl (by decide) (fun h => ?_) (fun h => ?_)
  · refine g_aload_n X (j := 0) dX4_numberOfAll_44 rfl ?_
    refine g_get (q0 := 0) (k := 0) (ci := 4) X in_X4_numberOfAll_X4 fl_X4_numberOfAll_12 rfl rfl (Nat.le_of_ble_eq_true rfl) rfl dX4_numberOfAll_45 ?_
    refine g_get (q0 := 1) (k := 4) (ci := 2) X in_X4_numberOfAll_X2 fl_X4_numberOfAll_75 rfl rfl (Nat.le_of_ble_eq_true rfl) rfl dX4_numberOfAll_48 ?_
    have h := Option.some.inj h
    simp only [Prod.mk.injEq] at h
    obtain ⟨rfl, rfl, rfl, rfl, rfl, rfl, rfl, rfl, rfl, rfl, rfl, rfl⟩ := h
    exact g_iret X hr hlk dX4_numberOfAll_51 rfl rfl
  refine g_tabIn (tgt := 52) X 1 h dX4_numberOfAll_1 (by decide) (by decide) rfl (by decide) (fun h => ?_) (fun h => ?_)
  · refine g_aload_n X (j := 0) dX4_numberOfAll_52 rfl ?_
    obtain ⟨o3, o4, o5, o6, o7, o8, o9, o10, o11, o12, hc, h⟩ := bd10 h
    refine g_callV (q0 := 0) (ci := 4) (is := [0, 1, 2, 3, 4, 5, 7, 8, 9, 10, 11, 12, 13]) (As := []) (ws' := [(a0, .inr (4, [.ref a1, .ref b0_1, .ref a6, .ref a7, .ref b0_4, .ref b0_5, .ref b0_6, .int x0_length, .int o3])), (a1, .inr (2, [.ref a2, .ref a3, .ref a4, .ref a5, .int x1_size])), (a2, .inl (cI, 10, .inl f2)), (a3, .inl (cI, 10, .inl f3)), (a4, .inl (cI, 10, .inl f4)), (a5, .inl (cI, 10, .inl f5)), (a6, .inr (0, [.ref b6_0, .int x6_size])), (a7, .inr (1, [.ref a8, .ref a9, .ref a10, .ref a11, .ref a12, .ref a13, .ref a14, .int o4, .int o5, .int o6])), (a8, .inl (cI, 10, .inl o7)), (a9, .inl (cI, 10, .inl o8)), (a10, .inl (cI, 10, .inl o9)), (a11, .inl (cI, 10, .inl o10)), (a12, .inl (cI, 10, .inl o11)), (a13, .inl (cI, 10, .inl o12)), (a14, .inl (cI, 1024, .inl f14))]) (st := []) X (c_X4_currentReading l D cI cS cL a0 a1 a2 a3 a4 a5 a7 a8 a9 a10 a11 a12 a13 b0_1 a6 b0_4 b0_5 b0_6 a14 x0_length x0_isReadingOld x1_size f2 f3 f4 f5 x7_areOrdersCounted x7_isAnyOrder x7_size f8 f9 f10 f11 f12 f13 o3 o4 o5 o6 o7 o8 o9 o10 o11 o12 hc) gX4_numberOfAll_X4_currentReading rfl ⟨rfl, rfl⟩ hd_X4_currentReading (by exact ⟨Nat.le_of_ble_eq_true rfl, Nat.le_of_ble_eq_true rfl⟩) ⟨Nat.zero_le _, Nat.zero_le _⟩ rfl rfl rfl rfl rfl rfl rfl (Nat.le_of_ble_eq_true rfl) rfl dX4_numberOfAll_53 ?_
    obtain ⟨r13, hc, h⟩ := bd1 h
    refine g_callV (q0 := 7) (ci := 1) (is := [7, 10, 11]) (As := []) (ws' := [(a0, .inr (4, [.ref a1, .ref b0_1, .ref a6, .ref a7, .ref b0_4, .ref b0_5, .ref b0_6, .int x0_length, .int o3])), (a1, .inr (2, [.ref a2, .ref a3, .ref a4, .ref a5, .int x1_size])), (a2, .inl (cI, 10, .inl f2)), (a3, .inl (cI, 10, .inl f3)), (a4, .inl (cI, 10, .inl f4)), (a5, .inl (cI, 10, .inl f5)), (a6, .inr (0, [.ref b6_0, .int x6_size])), (a7, .inr (1, [.ref a8, .ref a9, .ref a10, .ref a11, .ref a12, .ref a13, .ref a14, .int o4, .int o5, .int o6])), (a8, .inl (cI, 10, .inl o7)), (a9, .inl (cI, 10, .inl o8)), (a10, .inl (cI, 10, .inl o9)), (a11, .inl (cI, 10, .inl o10)), (a12, .inl (cI, 10, .inl o11)), (a13, .inl (cI, 10, .inl o12)), (a14, .inl (cI, 1024, .inl f14))]) (st := []) X (c_X1_datedBooks l D cI cS cL a7 a10 a11 a8 a9 a12 a13 a14 o4 o5 o6 o9 o10 r13 hc) gX4_numberOfAll_X1_datedBooks rfl ⟨rfl, rfl⟩ hd_X1_datedBooks (by exact ⟨Nat.le_of_ble_eq_true rfl, Nat.le_of_ble_eq_true rfl⟩) ⟨Nat.zero_le _, Nat.zero_le _⟩ rfl rfl rfl rfl rfl rfl rfl (Nat.le_of_ble_eq_true rfl) rfl dX4_numberOfAll_56 ?_
    have h := Option.some.inj h
    simp only [Prod.mk.injEq] at h
    obtain ⟨rfl, rfl, rfl, rfl, rfl, rfl, rfl, rfl, rfl, rfl, rfl, rfl⟩ := h
    exact g_iret X hr hlk dX4_numberOfAll_59 rfl rfl
  refine g_tabIn (tgt := 60) X 2 h dX4_numberOfAll_1 (by decide) (by decide) rfl (by decide) (fun h => ?_) (fun h => ?_)
  · refine g_aload_n X (j := 0) dX4_numberOfAll_60 rfl ?_
    refine g_get (q0 := 0) (k := 0) (ci := 4) X in_X4_numberOfAll_X4 fl_X4_numberOfAll_12 rfl rfl (Nat.le_of_ble_eq_true rfl) rfl dX4_numberOfAll_61 ?_
    obtain ⟨r14, hc, h⟩ := bd1 h
    refine g_callV (q0 := 1) (ci := 2) (is := [1, 5]) (As := []) (ws' := [(a0, .inr (4, [.ref a1, .ref b0_1, .ref a6, .ref a7, .ref b0_4, .ref b0_5, .ref b0_6, .int x0_length, .int x0_isReadingOld])), (a1, .inr (2, [.ref a2, .ref a3, .ref a4, .ref a5, .int x1_size])), (a2, .inl (cI, 10, .inl f2)), (a3, .inl (cI, 10, .inl f3)), (a4, .inl (cI, 10, .inl f4)), (a5, .inl (cI, 10, .inl f5)), (a6, .inr (0, [.ref b6_0, .int x6_size])), (a7, .inr (1, [.ref a8, .ref a9, .ref a10, .ref a11, .ref a12, .ref a13, .ref a14, .int x7_areOrdersCounted, .int x7_isAnyOrder, .int x7_size])), (a8, .inl (cI, 10, .inl f8)), (a9, .inl (cI, 10, .inl f9)), (a10, .inl (cI, 10, .inl f10)), (a11, .inl (cI, 10, .inl f11)), (a12, .inl (cI, 10, .inl f12)), (a13, .inl (cI, 10, .inl f13)), (a14, .inl (cI, 1024, .inl f14))]) (st := []) X (c_X2_booksWithYear l D cI cS cL a1 a5 a2 a3 a4 x1_size f5 r14 hc) gX4_numberOfAll_X2_booksWithYear rfl ⟨rfl, rfl⟩ hd_X2_booksWithYear (by exact ⟨Nat.le_of_ble_eq_true rfl, Nat.le_of_ble_eq_true rfl⟩) ⟨Nat.zero_le _, Nat.zero_le _⟩ rfl rfl rfl rfl rfl rfl rfl (Nat.le_of_ble_eq_true rfl) rfl dX4_numberOfAll_64 ?_
    have h := Option.some.inj h
    simp only [Prod.mk.injEq] at h
    obtain ⟨rfl, rfl, rfl, rfl, rfl, rfl, rfl, rfl, rfl, rfl, rfl, rfl⟩ := h
    exact g_iret X hr hlk dX4_numberOfAll_67 rfl rfl
  refine g_tabIn (tgt := 68) X 3 h dX4_numberOfAll_1 (by decide) (by decide) rfl (by decide) (fun h => ?_) (fun h => ?_)
  · refine g_aload_n X (j := 0) dX4_numberOfAll_68 rfl ?_
    obtain ⟨o16, o17, o18, o19, o20, o21, o22, o23, o24, o25, hc, h⟩ := bd10 h
    refine g_callV (q0 := 0) (ci := 4) (is := [0, 1, 2, 3, 4, 5, 7, 8, 9, 10, 11, 12, 13]) (As := []) (ws' := [(a0, .inr (4, [.ref a1, .ref b0_1, .ref a6, .ref a7, .ref b0_4, .ref b0_5, .ref b0_6, .int x0_length, .int o16])), (a1, .inr (2, [.ref a2, .ref a3, .ref a4, .ref a5, .int x1_size])), (a2, .inl (cI, 10, .inl f2)), (a3, .inl (cI, 10, .inl f3)), (a4, .inl (cI, 10, .inl f4)), (a5, .inl (cI, 10, .inl f5)), (a6, .inr (0, [.ref b6_0, .int x6_size])), (a7, .inr (1, [.ref a8, .ref a9, .ref a10, .ref a11, .ref a12, .ref a13, .ref a14, .int o17, .int o18, .int o19])), (a8, .inl (cI, 10, .inl o20)), (a9, .inl (cI, 10, .inl o21)), (a10, .inl (cI, 10, .inl o22)), (a11, .inl (cI, 10, .inl o23)), (a12, .inl (cI, 10, .inl o24)), (a13, .inl (cI, 10, .inl o25)), (a14, .inl (cI, 1024, .inl f14))]) (st := []) X (c_X4_currentReading l D cI cS cL a0 a1 a2 a3 a4 a5 a7 a8 a9 a10 a11 a12 a13 b0_1 a6 b0_4 b0_5 b0_6 a14 x0_length x0_isReadingOld x1_size f2 f3 f4 f5 x7_areOrdersCounted x7_isAnyOrder x7_size f8 f9 f10 f11 f12 f13 o16 o17 o18 o19 o20 o21 o22 o23 o24 o25 hc) gX4_numberOfAll_X4_currentReading rfl ⟨rfl, rfl⟩ hd_X4_currentReading (by exact ⟨Nat.le_of_ble_eq_true rfl, Nat.le_of_ble_eq_true rfl⟩) ⟨Nat.zero_le _, Nat.zero_le _⟩ rfl rfl rfl rfl rfl rfl rfl (Nat.le_of_ble_eq_true rfl) rfl dX4_numberOfAll_69 ?_
    obtain ⟨r26, hc, h⟩ := bd1 h
    refine g_callV (q0 := 7) (ci := 1) (is := [7, 8, 9]) (As := []) (ws' := [(a0, .inr (4, [.ref a1, .ref b0_1, .ref a6, .ref a7, .ref b0_4, .ref b0_5, .ref b0_6, .int x0_length, .int o16])), (a1, .inr (2, [.ref a2, .ref a3, .ref a4, .ref a5, .int x1_size])), (a2, .inl (cI, 10, .inl f2)), (a3, .inl (cI, 10, .inl f3)), (a4, .inl (cI, 10, .inl f4)), (a5, .inl (cI, 10, .inl f5)), (a6, .inr (0, [.ref b6_0, .int x6_size])), (a7, .inr (1, [.ref a8, .ref a9, .ref a10, .ref a11, .ref a12, .ref a13, .ref a14, .int o17, .int o18, .int o19])), (a8, .inl (cI, 10, .inl o20)), (a9, .inl (cI, 10, .inl o21)), (a10, .inl (cI, 10, .inl o22)), (a11, .inl (cI, 10, .inl o23)), (a12, .inl (cI, 10, .inl o24)), (a13, .inl (cI, 10, .inl o25)), (a14, .inl (cI, 1024, .inl f14))]) (st := []) X (c_X1_contradictingPairs l D cI cS cL a7 a8 a9 a10 a11 a12 a13 a14 o17 o18 o19 o20 o21 r26 hc) gX4_numberOfAll_X1_contradictingPairs rfl ⟨rfl, rfl⟩ hd_X1_contradictingPairs (by exact ⟨Nat.le_of_ble_eq_true rfl, Nat.le_of_ble_eq_true rfl⟩) ⟨Nat.zero_le _, Nat.zero_le _⟩ rfl rfl rfl rfl rfl rfl rfl (Nat.le_of_ble_eq_true rfl) rfl dX4_numberOfAll_72 ?_
    have h := Option.some.inj h
    simp only [Prod.mk.injEq] at h
    obtain ⟨rfl, rfl, rfl, rfl, rfl, rfl, rfl, rfl, rfl, rfl, rfl, rfl⟩ := h
    exact g_iret X hr hlk dX4_numberOfAll_75 rfl rfl
  refine g_tabIn (tgt := 76) X 4 h dX4_numberOfAll_1 (by decide) (by decide) rfl (by decide) (fun h => ?_) (fun h => ?_)
  · refine g_aload_n X (j := 0) dX4_numberOfAll_76 rfl ?_
    obtain ⟨o28, o29, o30, o31, o32, o33, o34, o35, o36, o37, hc, h⟩ := bd10 h
    refine g_callV (q0 := 0) (ci := 4) (is := [0, 1, 2, 3, 4, 5, 7, 8, 9, 10, 11, 12, 13]) (As := []) (ws' := [(a0, .inr (4, [.ref a1, .ref b0_1, .ref a6, .ref a7, .ref b0_4, .ref b0_5, .ref b0_6, .int x0_length, .int o28])), (a1, .inr (2, [.ref a2, .ref a3, .ref a4, .ref a5, .int x1_size])), (a2, .inl (cI, 10, .inl f2)), (a3, .inl (cI, 10, .inl f3)), (a4, .inl (cI, 10, .inl f4)), (a5, .inl (cI, 10, .inl f5)), (a6, .inr (0, [.ref b6_0, .int x6_size])), (a7, .inr (1, [.ref a8, .ref a9, .ref a10, .ref a11, .ref a12, .ref a13, .ref a14, .int o29, .int o30, .int o31])), (a8, .inl (cI, 10, .inl o32)), (a9, .inl (cI, 10, .inl o33)), (a10, .inl (cI, 10, .inl o34)), (a11, .inl (cI, 10, .inl o35)), (a12, .inl (cI, 10, .inl o36)), (a13, .inl (cI, 10, .inl o37)), (a14, .inl (cI, 1024, .inl f14))]) (st := []) X (c_X4_currentReading l D cI cS cL a0 a1 a2 a3 a4 a5 a7 a8 a9 a10 a11 a12 a13 b0_1 a6 b0_4 b0_5 b0_6 a14 x0_length x0_isReadingOld x1_size f2 f3 f4 f5 x7_areOrdersCounted x7_isAnyOrder x7_size f8 f9 f10 f11 f12 f13 o28 o29 o30 o31 o32 o33 o34 o35 o36 o37 hc) gX4_numberOfAll_X4_currentReading rfl ⟨rfl, rfl⟩ hd_X4_currentReading (by exact ⟨Nat.le_of_ble_eq_true rfl, Nat.le_of_ble_eq_true rfl⟩) ⟨Nat.zero_le _, Nat.zero_le _⟩ rfl rfl rfl rfl rfl rfl rfl (Nat.le_of_ble_eq_true rfl) rfl dX4_numberOfAll_77 ?_
    obtain ⟨r38, o39, o40, hc, h⟩ := bd3 h
    refine g_callV (q0 := 7) (ci := 1) (is := [7, 8, 14]) (As := []) (ws' := [(a0, .inr (4, [.ref a1, .ref b0_1, .ref a6, .ref a7, .ref b0_4, .ref b0_5, .ref b0_6, .int x0_length, .int o28])), (a1, .inr (2, [.ref a2, .ref a3, .ref a4, .ref a5, .int x1_size])), (a2, .inl (cI, 10, .inl f2)), (a3, .inl (cI, 10, .inl f3)), (a4, .inl (cI, 10, .inl f4)), (a5, .inl (cI, 10, .inl f5)), (a6, .inr (0, [.ref b6_0, .int x6_size])), (a7, .inr (1, [.ref a8, .ref a9, .ref a10, .ref a11, .ref a12, .ref a13, .ref a14, .int o39, .int o30, .int o31])), (a8, .inl (cI, 10, .inl o32)), (a9, .inl (cI, 10, .inl o33)), (a10, .inl (cI, 10, .inl o34)), (a11, .inl (cI, 10, .inl o35)), (a12, .inl (cI, 10, .inl o36)), (a13, .inl (cI, 10, .inl o37)), (a14, .inl (cI, 1024, .inl o40))]) (st := []) X (c_X1_orders l D cI cS cL a7 a8 a14 a9 a10 a11 a12 a13 o29 o30 o31 o32 f14 r38 o39 o40 hc) gX4_numberOfAll_X1_orders rfl ⟨rfl, rfl⟩ hd_X1_orders (by exact ⟨Nat.le_of_ble_eq_true rfl, Nat.le_of_ble_eq_true rfl⟩) ⟨Nat.zero_le _, Nat.zero_le _⟩ rfl rfl rfl rfl rfl rfl rfl (Nat.le_of_ble_eq_true rfl) rfl dX4_numberOfAll_80 ?_
    have h := Option.some.inj h
    simp only [Prod.mk.injEq] at h
    obtain ⟨rfl, rfl, rfl, rfl, rfl, rfl, rfl, rfl, rfl, rfl, rfl, rfl⟩ := h
    exact g_iret X hr hlk dX4_numberOfAll_83 rfl rfl
  refine g_tabIn (tgt := 84) X 5 h dX4_numberOfAll_1 (by decide) (by decide) rfl (by decide) (fun h => ?_) (fun h => ?_)
  · refine g_aload_n X (j := 0) dX4_numberOfAll_84 rfl ?_
    obtain ⟨o42, o43, o44, o45, o46, o47, o48, o49, o50, o51, hc, h⟩ := bd10 h
    refine g_callV (q0 := 0) (ci := 4) (is := [0, 1, 2, 3, 4, 5, 7, 8, 9, 10, 11, 12, 13]) (As := []) (ws' := [(a0, .inr (4, [.ref a1, .ref b0_1, .ref a6, .ref a7, .ref b0_4, .ref b0_5, .ref b0_6, .int x0_length, .int o42])), (a1, .inr (2, [.ref a2, .ref a3, .ref a4, .ref a5, .int x1_size])), (a2, .inl (cI, 10, .inl f2)), (a3, .inl (cI, 10, .inl f3)), (a4, .inl (cI, 10, .inl f4)), (a5, .inl (cI, 10, .inl f5)), (a6, .inr (0, [.ref b6_0, .int x6_size])), (a7, .inr (1, [.ref a8, .ref a9, .ref a10, .ref a11, .ref a12, .ref a13, .ref a14, .int o43, .int o44, .int o45])), (a8, .inl (cI, 10, .inl o46)), (a9, .inl (cI, 10, .inl o47)), (a10, .inl (cI, 10, .inl o48)), (a11, .inl (cI, 10, .inl o49)), (a12, .inl (cI, 10, .inl o50)), (a13, .inl (cI, 10, .inl o51)), (a14, .inl (cI, 1024, .inl f14))]) (st := []) X (c_X4_currentReading l D cI cS cL a0 a1 a2 a3 a4 a5 a7 a8 a9 a10 a11 a12 a13 b0_1 a6 b0_4 b0_5 b0_6 a14 x0_length x0_isReadingOld x1_size f2 f3 f4 f5 x7_areOrdersCounted x7_isAnyOrder x7_size f8 f9 f10 f11 f12 f13 o42 o43 o44 o45 o46 o47 o48 o49 o50 o51 hc) gX4_numberOfAll_X4_currentReading rfl ⟨rfl, rfl⟩ hd_X4_currentReading (by exact ⟨Nat.le_of_ble_eq_true rfl, Nat.le_of_ble_eq_true rfl⟩) ⟨Nat.zero_le _, Nat.zero_le _⟩ rfl rfl rfl rfl rfl rfl rfl (Nat.le_of_ble_eq_true rfl) rfl dX4_numberOfAll_85 ?_
    obtain ⟨r52, hc, h⟩ := bd1 h
    refine g_callV (q0 := 7) (ci := 1) (is := [7, 8, 9]) (As := []) (ws' := [(a0, .inr (4, [.ref a1, .ref b0_1, .ref a6, .ref a7, .ref b0_4, .ref b0_5, .ref b0_6, .int x0_length, .int o42])), (a1, .inr (2, [.ref a2, .ref a3, .ref a4, .ref a5, .int x1_size])), (a2, .inl (cI, 10, .inl f2)), (a3, .inl (cI, 10, .inl f3)), (a4, .inl (cI, 10, .inl f4)), (a5, .inl (cI, 10, .inl f5)), (a6, .inr (0, [.ref b6_0, .int x6_size])), (a7, .inr (1, [.ref a8, .ref a9, .ref a10, .ref a11, .ref a12, .ref a13, .ref a14, .int o43, .int o44, .int o45])), (a8, .inl (cI, 10, .inl o46)), (a9, .inl (cI, 10, .inl o47)), (a10, .inl (cI, 10, .inl o48)), (a11, .inl (cI, 10, .inl o49)), (a12, .inl (cI, 10, .inl o50)), (a13, .inl (cI, 10, .inl o51)), (a14, .inl (cI, 1024, .inl f14))]) (st := []) X (c_X1_orderedPairs l D cI cS cL a7 a8 a9 a10 a11 a12 a13 a14 o43 o44 o45 o46 o47 r52 hc) gX4_numberOfAll_X1_orderedPairs rfl ⟨rfl, rfl⟩ hd_X1_orderedPairs (by exact ⟨Nat.le_of_ble_eq_true rfl, Nat.le_of_ble_eq_true rfl⟩) ⟨Nat.zero_le _, Nat.zero_le _⟩ rfl rfl rfl rfl rfl rfl rfl (Nat.le_of_ble_eq_true rfl) rfl dX4_numberOfAll_88 ?_
    have h := Option.some.inj h
    simp only [Prod.mk.injEq] at h
    obtain ⟨rfl, rfl, rfl, rfl, rfl, rfl, rfl, rfl, rfl, rfl, rfl, rfl⟩ := h
    exact g_iret X hr hlk dX4_numberOfAll_91 rfl rfl
  refine g_tabIn (tgt := 92) X 6 h dX4_numberOfAll_1 (by decide) (by decide) rfl (by decide) (fun h => ?_) (fun h => ?_)
  · refine g_aload_n X (j := 0) dX4_numberOfAll_92 rfl ?_
    refine g_get (q0 := 0) (k := 2) (ci := 4) X in_X4_numberOfAll_X4 fl_X4_numberOfAll_22 rfl rfl (Nat.le_of_ble_eq_true rfl) rfl dX4_numberOfAll_93 ?_
    refine g_get (q0 := 6) (k := 1) (ci := 0) X in_X4_numberOfAll_X0 fl_X4_numberOfAll_168 rfl rfl (Nat.le_of_ble_eq_true rfl) rfl dX4_numberOfAll_96 ?_
    have h := Option.some.inj h
    simp only [Prod.mk.injEq] at h
    obtain ⟨rfl, rfl, rfl, rfl, rfl, rfl, rfl, rfl, rfl, rfl, rfl, rfl⟩ := h
    exact g_iret X hr hlk dX4_numberOfAll_99 rfl rfl
  cases h
