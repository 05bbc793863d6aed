set_option maxRecDepth 20000 in
theorem ggX3_endPart_X2_add : GoodIn wsX3_endPart wsX2_add := goodIn_r _ [10, 11, 12, 13, 14, 15, 24, 25, 26, 27, 28] (by decide +kernel) (by decide +kernel)
set_option maxRecDepth 20000 in
theorem gX3_endPart_X2_add : GoodIn wsX3_endPart (wsV RX3 44 RX2 yX2_add wsX2_add) := goodIn_app (goodIn_of _ (by decide +kernel)) ggX3_endPart_X2_add
theorem dX3_endPart_0 : decode cX3_endPart 0 = .ok (.aload_n 0, 1) := by decide +kernel
theorem dX3_endPart_1 : decode cX3_endPart 1 = .ok (.getfield 12, 3) := by decide +kernel
theorem dX3_endPart_4 : decode cX3_endPart 4 = .ok (.aload_n 0, 1) := by decide +kernel
theorem dX3_endPart_5 : decode cX3_endPart 5 = .ok (.getfield 32, 3) := by decide +kernel
theorem dX3_endPart_8 : decode cX3_endPart 8 = .ok (.aload_n 0, 1) := by decide +kernel
theorem dX3_endPart_9 : decode cX3_endPart 9 = .ok (.getfield 35, 3) := by decide +kernel
theorem dX3_endPart_12 : decode cX3_endPart 12 = .ok (.aload_n 0, 1) := by decide +kernel
theorem dX3_endPart_13 : decode cX3_endPart 13 = .ok (.getfield 38, 3) := by decide +kernel
theorem dX3_endPart_16 : decode cX3_endPart 16 = .ok (.aload_n 0, 1) := by decide +kernel
theorem dX3_endPart_17 : decode cX3_endPart 17 = .ok (.getfield 41, 3) := by decide +kernel
theorem dX3_endPart_20 : decode cX3_endPart 20 = .ok (.invokevirtual 44, 3) := by decide +kernel
theorem dX3_endPart_23 : decode cX3_endPart 23 = .ok (.return_, 1) := by decide +kernel
set_option maxRecDepth 20000 in
theorem ggX3_accepts_X3_acceptsPress : GoodIn wsX3_accepts wsX3_acceptsPress := goodIn_r _ [6, 7, 8, 9, 10, 11, 1, 12, 13, 5, 14, 15, 16, 17, 64, 65, 66, 67, 68, 69, 70, 71] (by decide +kernel) (by decide +kernel)
set_option maxRecDepth 20000 in
theorem gX3_accepts_X3_acceptsPress : GoodIn wsX3_accepts (wsV RX3 48 RX3 yX3_acceptsPress wsX3_acceptsPress) := goodIn_app (goodIn_of _ (by decide +kernel)) ggX3_accepts_X3_acceptsPress
set_option maxRecDepth 20000 in
theorem ggX3_accepts_X3_acceptsNoLetter : GoodIn wsX3_accepts wsX3_acceptsNoLetter := goodIn_r _ [21, 1, 64, 65, 66, 67, 68, 69, 70, 71] (by decide +kernel) (by decide +kernel)
set_option maxRecDepth 20000 in
theorem gX3_accepts_X3_acceptsNoLetter : GoodIn wsX3_accepts (wsV RX3 51 RX3 yX3_acceptsNoLetter wsX3_acceptsNoLetter) := goodIn_app (goodIn_of _ (by decide +kernel)) ggX3_accepts_X3_acceptsNoLetter
set_option maxRecDepth 20000 in
theorem ggX3_accepts_X3_acceptsLetter : GoodIn wsX3_accepts wsX3_acceptsLetter := goodIn_r _ [25, 9, 1, 26, 16, 27, 64, 65, 66, 67, 68, 69, 70, 71] (by decide +kernel) (by decide +kernel)
set_option maxRecDepth 20000 in
theorem gX3_accepts_X3_acceptsLetter : GoodIn wsX3_accepts (wsV RX3 54 RX3 yX3_acceptsLetter wsX3_acceptsLetter) := goodIn_app (goodIn_of _ (by decide +kernel)) ggX3_accepts_X3_acceptsLetter
set_option maxRecDepth 20000 in
theorem ggX3_accepts_X3_acceptsMouldSign : GoodIn wsX3_accepts wsX3_acceptsMouldSign := goodIn_r _ [31, 10, 1, 64, 65, 66, 67, 68, 69, 70, 71] (by decide +kernel) (by decide +kernel)
set_option maxRecDepth 20000 in
theorem gX3_accepts_X3_acceptsMouldSign : GoodIn wsX3_accepts (wsV RX3 57 RX3 yX3_acceptsMouldSign wsX3_acceptsMouldSign) := goodIn_app (goodIn_of _ (by decide +kernel)) ggX3_accepts_X3_acceptsMouldSign
set_option maxRecDepth 20000 in
theorem ggX3_accepts_X3_acceptsFromYear : GoodIn wsX3_accepts wsX3_acceptsFromYear := goodIn_r _ [35, 11, 36, 1, 37, 38, 39, 5, 40, 41, 42, 43, 44, 45, 8, 9, 10, 46, 47, 48, 49, 50, 51, 52, 53, 54, 55, 64, 65, 66, 67, 68, 69, 70, 71, 72, 73, 74, 75, 76] (by decide +kernel) (by decide +kernel)
set_option maxRecDepth 20000 in
theorem gX3_accepts_X3_acceptsFromYear : GoodIn wsX3_accepts (wsV RX3 60 RX3 yX3_acceptsFromYear wsX3_acceptsFromYear) := goodIn_app (goodIn_of _ (by decide +kernel)) ggX3_accepts_X3_acceptsFromYear
set_option maxRecDepth 20000 in
theorem ggX3_accepts_X3_acceptsMouldDigit : GoodIn wsX3_accepts wsX3_acceptsMouldDigit := goodIn_r _ [59, 10, 1, 12, 13, 5, 14, 64, 65, 66, 67, 68, 69, 70, 71] (by decide +kernel) (by decide +kernel)
set_option maxRecDepth 20000 in
theorem gX3_accepts_X3_acceptsMouldDigit : GoodIn wsX3_accepts (wsV RX3 63 RX3 yX3_acceptsMouldDigit wsX3_acceptsMouldDigit) := goodIn_app (goodIn_of _ (by decide +kernel)) ggX3_accepts_X3_acceptsMouldDigit
set_option maxRecDepth 20000 in
theorem ggX3_accepts_X3_acceptsYearDigit : GoodIn wsX3_accepts wsX3_acceptsYearDigit := goodIn_r _ [63, 11, 36, 1, 12, 13, 5, 14, 64, 65, 66, 67, 68, 69, 70, 71] (by decide +kernel) (by decide +kernel)
set_option maxRecDepth 20000 in
theorem gX3_accepts_X3_acceptsYearDigit : GoodIn wsX3_accepts (wsV RX3 66 RX3 yX3_acceptsYearDigit wsX3_acceptsYearDigit) := goodIn_app (goodIn_of _ (by decide +kernel)) ggX3_accepts_X3_acceptsYearDigit
set_option maxRecDepth 20000 in
theorem ggX3_accepts_X3_acceptsPartEnd : GoodIn wsX3_accepts wsX3_acceptsPartEnd := goodIn_r _ [40, 1, 41, 42, 43, 5, 44, 45, 8, 9, 10, 11, 46, 47, 48, 49, 50, 51, 52, 53, 54, 55, 64, 65, 66, 67, 68, 69, 70, 71, 72, 73, 74, 75, 76] (by decide +kernel) (by decide +kernel)
set_option maxRecDepth 20000 in
theorem gX3_accepts_X3_acceptsPartEnd : GoodIn wsX3_accepts (wsV RX3 69 RX3 yX3_acceptsPartEnd wsX3_acceptsPartEnd) := goodIn_app (goodIn_of _ (by decide +kernel)) ggX3_accepts_X3_acceptsPartEnd
theorem dX3_accepts_0 : decode cX3_accepts 0 = .ok (.aload_n 0, 1) := by decide +kernel
theorem dX3_accepts_1 : decode cX3_accepts 1 = .ok (.getfield 22, 3) := by decide +kernel
theorem dX3_accepts_4 : decode cX3_accepts 4 = .ok (.tableswitch 168 0 7 #[48, 54, 76, 106, 128, 134, 156, 162], 48) := by decide +kernel
theorem dX3_accepts_52 : decode cX3_accepts 52 = .ok (.aload_n 0, 1) := by decide +kernel
theorem dX3_accepts_53 : decode cX3_accepts 53 = .ok (.iload_n 1, 1) := by decide +kernel
theorem dX3_accepts_54 : decode cX3_accepts 54 = .ok (.invokevirtual 48, 3) := by decide +kernel
theorem dX3_accepts_57 : decode cX3_accepts 57 = .ok (.ireturn, 1) := by decide +kernel
theorem dX3_accepts_58 : decode cX3_accepts 58 = .ok (.aload_n 0, 1) := by decide +kernel
theorem dX3_accepts_59 : decode cX3_accepts 59 = .ok (.iload_n 1, 1) := by decide +kernel
theorem dX3_accepts_60 : decode cX3_accepts 60 = .ok (.invokevirtual 51, 3) := by decide +kernel
theorem dX3_accepts_63 : decode cX3_accepts 63 = .ok (.ifCond .ne 11, 3) := by decide +kernel
theorem dX3_accepts_66 : decode cX3_accepts 66 = .ok (.aload_n 0, 1) := by decide +kernel
theorem dX3_accepts_67 : decode cX3_accepts 67 = .ok (.iload_n 1, 1) := by decide +kernel
theorem dX3_accepts_68 : decode cX3_accepts 68 = .ok (.invokevirtual 54, 3) := by decide +kernel
theorem dX3_accepts_71 : decode cX3_accepts 71 = .ok (.ifCond .eq 7, 3) := by decide +kernel
theorem dX3_accepts_74 : decode cX3_accepts 74 = .ok (.iconst 1, 1) := by decide +kernel
theorem dX3_accepts_75 : decode cX3_accepts 75 = .ok (.goto 4, 3) := by decide +kernel
theorem dX3_accepts_78 : decode cX3_accepts 78 = .ok (.iconst 0, 1) := by decide +kernel
theorem dX3_accepts_79 : decode cX3_accepts 79 = .ok (.ireturn, 1) := by decide +kernel
theorem dX3_accepts_80 : decode cX3_accepts 80 = .ok (.aload_n 0, 1) := by decide +kernel
theorem dX3_accepts_81 : decode cX3_accepts 81 = .ok (.iload_n 1, 1) := by decide +kernel
theorem dX3_accepts_82 : decode cX3_accepts 82 = .ok (.invokevirtual 54, 3) := by decide +kernel
theorem dX3_accepts_85 : decode cX3_accepts 85 = .ok (.ifCond .ne 19, 3) := by decide +kernel
theorem dX3_accepts_88 : decode cX3_accepts 88 = .ok (.aload_n 0, 1) := by decide +kernel
theorem dX3_accepts_89 : decode cX3_accepts 89 = .ok (.iload_n 1, 1) := by decide +kernel
theorem dX3_accepts_90 : decode cX3_accepts 90 = .ok (.invokevirtual 57, 3) := by decide +kernel
theorem dX3_accepts_93 : decode cX3_accepts 93 = .ok (.ifCond .ne 11, 3) := by decide +kernel
theorem dX3_accepts_96 : decode cX3_accepts 96 = .ok (.aload_n 0, 1) := by decide +kernel
theorem dX3_accepts_97 : decode cX3_accepts 97 = .ok (.iload_n 1, 1) := by decide +kernel
theorem dX3_accepts_98 : decode cX3_accepts 98 = .ok (.invokevirtual 60, 3) := by decide +kernel
theorem dX3_accepts_101 : decode cX3_accepts 101 = .ok (.ifCond .eq 7, 3) := by decide +kernel
theorem dX3_accepts_104 : decode cX3_accepts 104 = .ok (.iconst 1, 1) := by decide +kernel
theorem dX3_accepts_105 : decode cX3_accepts 105 = .ok (.goto 4, 3) := by decide +kernel
theorem dX3_accepts_108 : decode cX3_accepts 108 = .ok (.iconst 0, 1) := by decide +kernel
theorem dX3_accepts_109 : decode cX3_accepts 109 = .ok (.ireturn, 1) := by decide +kernel
theorem dX3_accepts_110 : decode cX3_accepts 110 = .ok (.aload_n 0, 1) := by decide +kernel
theorem dX3_accepts_111 : decode cX3_accepts 111 = .ok (.iload_n 1, 1) := by decide +kernel
theorem dX3_accepts_112 : decode cX3_accepts 112 = .ok (.invokevirtual 57, 3) := by decide +kernel
theorem dX3_accepts_115 : decode cX3_accepts 115 = .ok (.ifCond .ne 11, 3) := by decide +kernel
theorem dX3_accepts_118 : decode cX3_accepts 118 = .ok (.aload_n 0, 1) := by decide +kernel
theorem dX3_accepts_119 : decode cX3_accepts 119 = .ok (.iload_n 1, 1) := by decide +kernel
theorem dX3_accepts_120 : decode cX3_accepts 120 = .ok (.invokevirtual 60, 3) := by decide +kernel
theorem dX3_accepts_123 : decode cX3_accepts 123 = .ok (.ifCond .eq 7, 3) := by decide +kernel
theorem dX3_accepts_126 : decode cX3_accepts 126 = .ok (.iconst 1, 1) := by decide +kernel
theorem dX3_accepts_127 : decode cX3_accepts 127 = .ok (.goto 4, 3) := by decide +kernel
theorem dX3_accepts_130 : decode cX3_accepts 130 = .ok (.iconst 0, 1) := by decide +kernel
theorem dX3_accepts_131 : decode cX3_accepts 131 = .ok (.ireturn, 1) := by decide +kernel
theorem dX3_accepts_132 : decode cX3_accepts 132 = .ok (.aload_n 0, 1) := by decide +kernel
theorem dX3_accepts_133 : decode cX3_accepts 133 = .ok (.iload_n 1, 1) := by decide +kernel
theorem dX3_accepts_134 : decode cX3_accepts 134 = .ok (.invokevirtual 63, 3) := by decide +kernel
theorem dX3_accepts_137 : decode cX3_accepts 137 = .ok (.ireturn, 1) := by decide +kernel
theorem dX3_accepts_138 : decode cX3_accepts 138 = .ok (.aload_n 0, 1) := by decide +kernel
theorem dX3_accepts_139 : decode cX3_accepts 139 = .ok (.iload_n 1, 1) := by decide +kernel
theorem dX3_accepts_140 : decode cX3_accepts 140 = .ok (.invokevirtual 63, 3) := by decide +kernel
theorem dX3_accepts_143 : decode cX3_accepts 143 = .ok (.ifCond .ne 11, 3) := by decide +kernel
theorem dX3_accepts_146 : decode cX3_accepts 146 = .ok (.aload_n 0, 1) := by decide +kernel
theorem dX3_accepts_147 : decode cX3_accepts 147 = .ok (.iload_n 1, 1) := by decide +kernel
theorem dX3_accepts_148 : decode cX3_accepts 148 = .ok (.invokevirtual 60, 3) := by decide +kernel
theorem dX3_accepts_151 : decode cX3_accepts 151 = .ok (.ifCond .eq 7, 3) := by decide +kernel
theorem dX3_accepts_154 : decode cX3_accepts 154 = .ok (.iconst 1, 1) := by decide +kernel
theorem dX3_accepts_155 : decode cX3_accepts 155 = .ok (.goto 4, 3) := by decide +kernel
theorem dX3_accepts_158 : decode cX3_accepts 158 = .ok (.iconst 0, 1) := by decide +kernel
theorem dX3_accepts_159 : decode cX3_accepts 159 = .ok (.ireturn, 1) := by decide +kernel
theorem dX3_accepts_160 : decode cX3_accepts 160 = .ok (.aload_n 0, 1) := by decide +kernel
theorem dX3_accepts_161 : decode cX3_accepts 161 = .ok (.iload_n 1, 1) := by decide +kernel
theorem dX3_accepts_162 : decode cX3_accepts 162 = .ok (.invokevirtual 60, 3) := by decide +kernel
theorem dX3_accepts_165 : decode cX3_accepts 165 = .ok (.ireturn, 1) := by decide +kernel
theorem dX3_accepts_166 : decode cX3_accepts 166 = .ok (.aload_n 0, 1) := by decide +kernel
theorem dX3_accepts_167 : decode cX3_accepts 167 = .ok (.iload_n 1, 1) := by decide +kernel
theorem dX3_accepts_168 : decode cX3_accepts 168 = .ok (.invokevirtual 66, 3) := by decide +kernel
theorem dX3_accepts_171 : decode cX3_accepts 171 = .ok (.ireturn, 1) := by decide +kernel
theorem dX3_accepts_172 : decode cX3_accepts 172 = .ok (.aload_n 0, 1) := by decide +kernel
theorem dX3_accepts_173 : decode cX3_accepts 173 = .ok (.iload_n 1, 1) := by decide +kernel
theorem dX3_accepts_174 : decode cX3_accepts 174 = .ok (.invokevirtual 69, 3) := by decide +kernel
theorem dX3_accepts_177 : decode cX3_accepts 177 = .ok (.ireturn, 1) := by decide +kernel
set_option maxRecDepth 20000 in
theorem ggX3_acceptsLetter_X4_isLetter : GoodIn wsX3_acceptsLetter wsX4_isLetter := goodIn_r _ [5] (by decide +kernel) (by decide +kernel)
set_option maxRecDepth 20000 in
theorem gX3_acceptsLetter_X4_isLetter_n78 : GoodIn wsX3_acceptsLetter (wsX4_isLetter) := ggX3_acceptsLetter_X4_isLetter
theorem dX3_acceptsLetter_0 : decode cX3_acceptsLetter 0 = .ok (.iload_n 1, 1) := by decide +kernel
theorem dX3_acceptsLetter_1 : decode cX3_acceptsLetter 1 = .ok (.bipush 97, 2) := by decide +kernel
theorem dX3_acceptsLetter_3 : decode cX3_acceptsLetter 3 = .ok (.isub, 1) := by decide +kernel
theorem dX3_acceptsLetter_4 : decode cX3_acceptsLetter 4 = .ok (.istore_n 2, 1) := by decide +kernel
theorem dX3_acceptsLetter_5 : decode cX3_acceptsLetter 5 = .ok (.iload_n 2, 1) := by decide +kernel
theorem dX3_acceptsLetter_6 : decode cX3_acceptsLetter 6 = .ok (.invokestatic 78, 3) := by decide +kernel
theorem dX3_acceptsLetter_9 : decode cX3_acceptsLetter 9 = .ok (.ifCond .eq 13, 3) := by decide +kernel
theorem dX3_acceptsLetter_12 : decode cX3_acceptsLetter 12 = .ok (.aload_n 0, 1) := by decide +kernel
theorem dX3_acceptsLetter_13 : decode cX3_acceptsLetter 13 = .ok (.getfield 35, 3) := by decide +kernel
theorem dX3_acceptsLetter_16 : decode cX3_acceptsLetter 16 = .ok (.iconst 1, 1) := by decide +kernel
theorem dX3_acceptsLetter_17 : decode cX3_acceptsLetter 17 = .ok (.iload_n 2, 1) := by decide +kernel
theorem dX3_acceptsLetter_18 : decode cX3_acceptsLetter 18 = .ok (.ishl, 1) := by decide +kernel
theorem dX3_acceptsLetter_19 : decode cX3_acceptsLetter 19 = .ok (.if_icmp .lt 5, 3) := by decide +kernel
theorem dX3_acceptsLetter_22 : decode cX3_acceptsLetter 22 = .ok (.iconst 0, 1) := by decide +kernel
theorem dX3_acceptsLetter_23 : decode cX3_acceptsLetter 23 = .ok (.ireturn, 1) := by decide +kernel
theorem dX3_acceptsLetter_24 : decode cX3_acceptsLetter 24 = .ok (.aload_n 0, 1) := by decide +kernel
theorem dX3_acceptsLetter_25 : decode cX3_acceptsLetter 25 = .ok (.dup, 1) := by decide +kernel
theorem dX3_acceptsLetter_26 : decode cX3_acceptsLetter 26 = .ok (.getfield 35, 3) := by decide +kernel
theorem dX3_acceptsLetter_29 : decode cX3_acceptsLetter 29 = .ok (.iconst 1, 1) := by decide +kernel
theorem dX3_acceptsLetter_30 : decode cX3_acceptsLetter 30 = .ok (.iload_n 2, 1) := by decide +kernel
theorem dX3_acceptsLetter_31 : decode cX3_acceptsLetter 31 = .ok (.ishl, 1) := by decide +kernel
theorem dX3_acceptsLetter_32 : decode cX3_acceptsLetter 32 = .ok (.ior, 1) := by decide +kernel
theorem dX3_acceptsLetter_33 : decode cX3_acceptsLetter 33 = .ok (.putfield 35, 3) := by decide +kernel
theorem dX3_acceptsLetter_36 : decode cX3_acceptsLetter 36 = .ok (.aload_n 0, 1) := by decide +kernel
theorem dX3_acceptsLetter_37 : decode cX3_acceptsLetter 37 = .ok (.iconst 2, 1) := by decide +kernel
theorem dX3_acceptsLetter_38 : decode cX3_acceptsLetter 38 = .ok (.putfield 22, 3) := by decide +kernel
theorem dX3_acceptsLetter_41 : decode cX3_acceptsLetter 41 = .ok (.iconst 1, 1) := by decide +kernel
theorem dX3_acceptsLetter_42 : decode cX3_acceptsLetter 42 = .ok (.ireturn, 1) := by decide +kernel
theorem dX3_acceptsMouldSign_0 : decode cX3_acceptsMouldSign 0 = .ok (.iload_n 1, 1) := by decide +kernel
theorem dX3_acceptsMouldSign_1 : decode cX3_acceptsMouldSign 1 = .ok (.bipush 109, 2) := by decide +kernel
theorem dX3_acceptsMouldSign_3 : decode cX3_acceptsMouldSign 3 = .ok (.if_icmp .eq 5, 3) := by decide +kernel
theorem dX3_acceptsMouldSign_6 : decode cX3_acceptsMouldSign 6 = .ok (.iconst 0, 1) := by decide +kernel
theorem dX3_acceptsMouldSign_7 : decode cX3_acceptsMouldSign 7 = .ok (.ireturn, 1) := by decide +kernel
theorem dX3_acceptsMouldSign_8 : decode cX3_acceptsMouldSign 8 = .ok (.aload_n 0, 1) := by decide +kernel
theorem dX3_acceptsMouldSign_9 : decode cX3_acceptsMouldSign 9 = .ok (.iconst 0, 1) := by decide +kernel
theorem dX3_acceptsMouldSign_10 : decode cX3_acceptsMouldSign 10 = .ok (.putfield 38, 3) := by decide +kernel
theorem dX3_acceptsMouldSign_13 : decode cX3_acceptsMouldSign 13 = .ok (.aload_n 0, 1) := by decide +kernel
theorem dX3_acceptsMouldSign_14 : decode cX3_acceptsMouldSign 14 = .ok (.iconst 4, 1) := by decide +kernel
theorem dX3_acceptsMouldSign_15 : decode cX3_acceptsMouldSign 15 = .ok (.putfield 22, 3) := by decide +kernel
theorem dX3_acceptsMouldSign_18 : decode cX3_acceptsMouldSign 18 = .ok (.iconst 1, 1) := by decide +kernel
theorem dX3_acceptsMouldSign_19 : decode cX3_acceptsMouldSign 19 = .ok (.ireturn, 1) := by decide +kernel
set_option maxRecDepth 20000 in
theorem ggX3_acceptsMouldDigit_X3_isDigit : GoodIn wsX3_acceptsMouldDigit wsX3_isDigit := goodIn_r _ [6] (by decide +kernel) (by decide +kernel)
set_option maxRecDepth 20000 in
theorem gX3_acceptsMouldDigit_X3_isDigit : GoodIn wsX3_acceptsMouldDigit (va_wsS RX3 72 yX3_isDigit wsX3_isDigit) := goodIn_app (goodIn_of _ (by decide +kernel)) ggX3_acceptsMouldDigit_X3_isDigit
theorem dX3_acceptsMouldDigit_0 : decode cX3_acceptsMouldDigit 0 = .ok (.iload_n 1, 1) := by decide +kernel
theorem dX3_acceptsMouldDigit_1 : decode cX3_acceptsMouldDigit 1 = .ok (.invokestatic 72, 3) := by decide +kernel
theorem dX3_acceptsMouldDigit_4 : decode cX3_acceptsMouldDigit 4 = .ok (.ifCond .ne 5, 3) := by decide +kernel
theorem dX3_acceptsMouldDigit_7 : decode cX3_acceptsMouldDigit 7 = .ok (.iconst 0, 1) := by decide +kernel
theorem dX3_acceptsMouldDigit_8 : decode cX3_acceptsMouldDigit 8 = .ok (.ireturn, 1) := by decide +kernel
theorem dX3_acceptsMouldDigit_9 : decode cX3_acceptsMouldDigit 9 = .ok (.aload_n 0, 1) := by decide +kernel
theorem dX3_acceptsMouldDigit_10 : decode cX3_acceptsMouldDigit 10 = .ok (.bipush 10, 2) := by decide +kernel
theorem dX3_acceptsMouldDigit_12 : decode cX3_acceptsMouldDigit 12 = .ok (.aload_n 0, 1) := by decide +kernel
theorem dX3_acceptsMouldDigit_13 : decode cX3_acceptsMouldDigit 13 = .ok (.getfield 38, 3) := by decide +kernel
theorem dX3_acceptsMouldDigit_16 : decode cX3_acceptsMouldDigit 16 = .ok (.imul, 1) := by decide +kernel
theorem dX3_acceptsMouldDigit_17 : decode cX3_acceptsMouldDigit 17 = .ok (.iload_n 1, 1) := by decide +kernel
theorem dX3_acceptsMouldDigit_18 : decode cX3_acceptsMouldDigit 18 = .ok (.bipush 48, 2) := by decide +kernel
theorem dX3_acceptsMouldDigit_20 : decode cX3_acceptsMouldDigit 20 = .ok (.isub, 1) := by decide +kernel
theorem dX3_acceptsMouldDigit_21 : decode cX3_acceptsMouldDigit 21 = .ok (.iadd, 1) := by decide +kernel
theorem dX3_acceptsMouldDigit_22 : decode cX3_acceptsMouldDigit 22 = .ok (.putfield 38, 3) := by decide +kernel
theorem dX3_acceptsMouldDigit_25 : decode cX3_acceptsMouldDigit 25 = .ok (.aload_n 0, 1) := by decide +kernel
theorem dX3_acceptsMouldDigit_26 : decode cX3_acceptsMouldDigit 26 = .ok (.aload_n 0, 1) := by decide +kernel
theorem dX3_acceptsMouldDigit_27 : decode cX3_acceptsMouldDigit 27 = .ok (.getfield 22, 3) := by decide +kernel
theorem dX3_acceptsMouldDigit_30 : decode cX3_acceptsMouldDigit 30 = .ok (.iconst 4, 1) := by decide +kernel
theorem dX3_acceptsMouldDigit_31 : decode cX3_acceptsMouldDigit 31 = .ok (.if_icmp .ne 14, 3) := by decide +kernel
theorem dX3_acceptsMouldDigit_34 : decode cX3_acceptsMouldDigit 34 = .ok (.aload_n 0, 1) := by decide +kernel
theorem dX3_acceptsMouldDigit_35 : decode cX3_acceptsMouldDigit 35 = .ok (.getfield 38, 3) := by decide +kernel
theorem dX3_acceptsMouldDigit_38 : decode cX3_acceptsMouldDigit 38 = .ok (.ifCond .le 7, 3) := by decide +kernel
theorem dX3_acceptsMouldDigit_41 : decode cX3_acceptsMouldDigit 41 = .ok (.iconst 5, 1) := by decide +kernel
theorem dX3_acceptsMouldDigit_42 : decode cX3_acceptsMouldDigit 42 = .ok (.goto 5, 3) := by decide +kernel
theorem dX3_acceptsMouldDigit_45 : decode cX3_acceptsMouldDigit 45 = .ok (.bipush 6, 2) := by decide +kernel
theorem dX3_acceptsMouldDigit_47 : decode cX3_acceptsMouldDigit 47 = .ok (.putfield 22, 3) := by decide +kernel
theorem dX3_acceptsMouldDigit_50 : decode cX3_acceptsMouldDigit 50 = .ok (.iconst 1, 1) := by decide +kernel
theorem dX3_acceptsMouldDigit_51 : decode cX3_acceptsMouldDigit 51 = .ok (.ireturn, 1) := by decide +kernel
set_option maxRecDepth 20000 in
theorem ggX3_acceptsFromYear_X3_acceptsPartEnd : GoodIn wsX3_acceptsFromYear wsX3_acceptsPartEnd := goodIn_r _ [8, 3, 9, 10, 11, 7, 12, 13, 14, 15, 16, 1, 17, 18, 19, 20, 21, 22, 23, 24, 25, 26, 27, 28, 29, 30, 31, 32, 33, 34, 35, 36, 37, 38, 39] (by decide +kernel) (by decide +kernel)
set_option maxRecDepth 20000 in
theorem gX3_acceptsFromYear_X3_acceptsPartEnd : GoodIn wsX3_acceptsFromYear (wsV RX3 69 RX3 yX3_acceptsPartEnd wsX3_acceptsPartEnd) := goodIn_app (goodIn_of _ (by decide +kernel)) ggX3_acceptsFromYear_X3_acceptsPartEnd
theorem dX3_acceptsFromYear_0 : decode cX3_acceptsFromYear 0 = .ok (.iload_n 1, 1) := by decide +kernel
theorem dX3_acceptsFromYear_1 : decode cX3_acceptsFromYear 1 = .ok (.bipush 121, 2) := by decide +kernel
theorem dX3_acceptsFromYear_3 : decode cX3_acceptsFromYear 3 = .ok (.if_icmp .eq 9, 3) := by decide +kernel
theorem dX3_acceptsFromYear_6 : decode cX3_acceptsFromYear 6 = .ok (.aload_n 0, 1) := by decide +kernel
theorem dX3_acceptsFromYear_7 : decode cX3_acceptsFromYear 7 = .ok (.iload_n 1, 1) := by decide +kernel
theorem dX3_acceptsFromYear_8 : decode cX3_acceptsFromYear 8 = .ok (.invokevirtual 69, 3) := by decide +kernel
theorem dX3_acceptsFromYear_11 : decode cX3_acceptsFromYear 11 = .ok (.ireturn, 1) := by decide +kernel
theorem dX3_acceptsFromYear_12 : decode cX3_acceptsFromYear 12 = .ok (.aload_n 0, 1) := by decide +kernel
theorem dX3_acceptsFromYear_13 : decode cX3_acceptsFromYear 13 = .ok (.iconst 0, 1) := by decide +kernel
theorem dX3_acceptsFromYear_14 : decode cX3_acceptsFromYear 14 = .ok (.putfield 41, 3) := by decide +kernel
theorem dX3_acceptsFromYear_17 : decode cX3_acceptsFromYear 17 = .ok (.aload_n 0, 1) := by decide +kernel
theorem dX3_acceptsFromYear_18 : decode cX3_acceptsFromYear 18 = .ok (.sipush 1000, 3) := by decide +kernel
theorem dX3_acceptsFromYear_21 : decode cX3_acceptsFromYear 21 = .ok (.putfield 81, 3) := by decide +kernel
theorem dX3_acceptsFromYear_24 : decode cX3_acceptsFromYear 24 = .ok (.aload_n 0, 1) := by decide +kernel
theorem dX3_acceptsFromYear_25 : decode cX3_acceptsFromYear 25 = .ok (.bipush 7, 2) := by decide +kernel
theorem dX3_acceptsFromYear_27 : decode cX3_acceptsFromYear 27 = .ok (.putfield 22, 3) := by decide +kernel
theorem dX3_acceptsFromYear_30 : decode cX3_acceptsFromYear 30 = .ok (.iconst 1, 1) := by decide +kernel
theorem dX3_acceptsFromYear_31 : decode cX3_acceptsFromYear 31 = .ok (.ireturn, 1) := by decide +kernel
set_option maxRecDepth 20000 in
theorem ggX3_acceptsYearDigit_X3_isDigit : GoodIn wsX3_acceptsYearDigit wsX3_isDigit := goodIn_r _ [7] (by decide +kernel) (by decide +kernel)
set_option maxRecDepth 20000 in
theorem gX3_acceptsYearDigit_X3_isDigit : GoodIn wsX3_acceptsYearDigit (va_wsS RX3 72 yX3_isDigit wsX3_isDigit) := goodIn_app (goodIn_of _ (by decide +kernel)) ggX3_acceptsYearDigit_X3_isDigit
theorem dX3_acceptsYearDigit_0 : decode cX3_acceptsYearDigit 0 = .ok (.iload_n 1, 1) := by decide +kernel
theorem dX3_acceptsYearDigit_1 : decode cX3_acceptsYearDigit 1 = .ok (.invokestatic 72, 3) := by decide +kernel
theorem dX3_acceptsYearDigit_4 : decode cX3_acceptsYearDigit 4 = .ok (.ifCond .ne 5, 3) := by decide +kernel
theorem dX3_acceptsYearDigit_7 : decode cX3_acceptsYearDigit 7 = .ok (.iconst 0, 1) := by decide +kernel
theorem dX3_acceptsYearDigit_8 : decode cX3_acceptsYearDigit 8 = .ok (.ireturn, 1) := by decide +kernel
theorem dX3_acceptsYearDigit_9 : decode cX3_acceptsYearDigit 9 = .ok (.bipush 10, 2) := by decide +kernel
theorem dX3_acceptsYearDigit_11 : decode cX3_acceptsYearDigit 11 = .ok (.aload_n 0, 1) := by decide +kernel
theorem dX3_acceptsYearDigit_12 : decode cX3_acceptsYearDigit 12 = .ok (.getfield 41, 3) := by decide +kernel
theorem dX3_acceptsYearDigit_15 : decode cX3_acceptsYearDigit 15 = .ok (.imul, 1) := by decide +kernel
theorem dX3_acceptsYearDigit_16 : decode cX3_acceptsYearDigit 16 = .ok (.iload_n 1, 1) := by decide +kernel
theorem dX3_acceptsYearDigit_17 : decode cX3_acceptsYearDigit 17 = .ok (.bipush 48, 2) := by decide +kernel
theorem dX3_acceptsYearDigit_19 : decode cX3_acceptsYearDigit 19 = .ok (.isub, 1) := by decide +kernel
theorem dX3_acceptsYearDigit_20 : decode cX3_acceptsYearDigit 20 = .ok (.iadd, 1) := by decide +kernel
theorem dX3_acceptsYearDigit_21 : decode cX3_acceptsYearDigit 21 = .ok (.istore_n 2, 1) := by decide +kernel
theorem dX3_acceptsYearDigit_22 : decode cX3_acceptsYearDigit 22 = .ok (.iload_n 2, 1) := by decide +kernel
theorem dX3_acceptsYearDigit_23 : decode cX3_acceptsYearDigit 23 = .ok (.aload_n 0, 1) := by decide +kernel
theorem dX3_acceptsYearDigit_24 : decode cX3_acceptsYearDigit 24 = .ok (.getfield 81, 3) := by decide +kernel
theorem dX3_acceptsYearDigit_27 : decode cX3_acceptsYearDigit 27 = .ok (.imul, 1) := by decide +kernel
theorem dX3_acceptsYearDigit_28 : decode cX3_acceptsYearDigit 28 = .ok (.istore_n 3, 1) := by decide +kernel
theorem dX3_acceptsYearDigit_29 : decode cX3_acceptsYearDigit 29 = .ok (.iload_n 3, 1) := by decide +kernel
theorem dX3_acceptsYearDigit_30 : decode cX3_acceptsYearDigit 30 = .ok (.aload_n 0, 1) := by decide +kernel
theorem dX3_acceptsYearDigit_31 : decode cX3_acceptsYearDigit 31 = .ok (.getfield 81, 3) := by decide +kernel
theorem dX3_acceptsYearDigit_34 : decode cX3_acceptsYearDigit 34 = .ok (.iadd, 1) := by decide +kernel
theorem dX3_acceptsYearDigit_35 : decode cX3_acceptsYearDigit 35 = .ok (.iconst 1, 1) := by decide +kernel
theorem dX3_acceptsYearDigit_36 : decode cX3_acceptsYearDigit 36 = .ok (.isub, 1) := by decide +kernel
theorem dX3_acceptsYearDigit_37 : decode cX3_acceptsYearDigit 37 = .ok (.istore 4, 2) := by decide +kernel
theorem dX3_acceptsYearDigit_39 : decode cX3_acceptsYearDigit 39 = .ok (.iload 4, 2) := by decide +kernel
theorem dX3_acceptsYearDigit_41 : decode cX3_acceptsYearDigit 41 = .ok (.sipush 1450, 3) := by decide +kernel
theorem dX3_acceptsYearDigit_44 : decode cX3_acceptsYearDigit 44 = .ok (.if_icmp .lt 10, 3) := by decide +kernel
theorem dX3_acceptsYearDigit_47 : decode cX3_acceptsYearDigit 47 = .ok (.iload_n 3, 1) := by decide +kernel
theorem dX3_acceptsYearDigit_48 : decode cX3_acceptsYearDigit 48 = .ok (.sipush 1999, 3) := by decide +kernel
theorem dX3_acceptsYearDigit_51 : decode cX3_acceptsYearDigit 51 = .ok (.if_icmp .le 5, 3) := by decide +kernel
theorem dX3_acceptsYearDigit_54 : decode cX3_acceptsYearDigit 54 = .ok (.iconst 0, 1) := by decide +kernel
theorem dX3_acceptsYearDigit_55 : decode cX3_acceptsYearDigit 55 = .ok (.ireturn, 1) := by decide +kernel
theorem dX3_acceptsYearDigit_56 : decode cX3_acceptsYearDigit 56 = .ok (.aload_n 0, 1) := by decide +kernel
theorem dX3_acceptsYearDigit_57 : decode cX3_acceptsYearDigit 57 = .ok (.iload_n 2, 1) := by decide +kernel
theorem dX3_acceptsYearDigit_58 : decode cX3_acceptsYearDigit 58 = .ok (.putfield 41, 3) := by decide +kernel
theorem dX3_acceptsYearDigit_61 : decode cX3_acceptsYearDigit 61 = .ok (.aload_n 0, 1) := by decide +kernel
theorem dX3_acceptsYearDigit_62 : decode cX3_acceptsYearDigit 62 = .ok (.aload_n 0, 1) := by decide +kernel
theorem dX3_acceptsYearDigit_63 : decode cX3_acceptsYearDigit 63 = .ok (.getfield 81, 3) := by decide +kernel
theorem dX3_acceptsYearDigit_66 : decode cX3_acceptsYearDigit 66 = .ok (.bipush 10, 2) := by decide +kernel
theorem dX3_acceptsYearDigit_68 : decode cX3_acceptsYearDigit 68 = .ok (.idiv, 1) := by decide +kernel
theorem dX3_acceptsYearDigit_69 : decode cX3_acceptsYearDigit 69 = .ok (.putfield 81, 3) := by decide +kernel
theorem dX3_acceptsYearDigit_72 : decode cX3_acceptsYearDigit 72 = .ok (.aload_n 0, 1) := by decide +kernel
theorem dX3_acceptsYearDigit_73 : decode cX3_acceptsYearDigit 73 = .ok (.aload_n 0, 1) := by decide +kernel
theorem dX3_acceptsYearDigit_74 : decode cX3_acceptsYearDigit 74 = .ok (.getfield 81, 3) := by decide +kernel
theorem dX3_acceptsYearDigit_77 : decode cX3_acceptsYearDigit 77 = .ok (.ifCond .le 8, 3) := by decide +kernel
theorem dX3_acceptsYearDigit_80 : decode cX3_acceptsYearDigit 80 = .ok (.bipush 7, 2) := by decide +kernel
theorem dX3_acceptsYearDigit_82 : decode cX3_acceptsYearDigit 82 = .ok (.goto 5, 3) := by decide +kernel
theorem dX3_acceptsYearDigit_85 : decode cX3_acceptsYearDigit 85 = .ok (.bipush 8, 2) := by decide +kernel
theorem dX3_acceptsYearDigit_87 : decode cX3_acceptsYearDigit 87 = .ok (.putfield 22, 3) := by decide +kernel
theorem dX3_acceptsYearDigit_90 : decode cX3_acceptsYearDigit 90 = .ok (.iconst 1, 1) := by decide +kernel
theorem dX3_acceptsYearDigit_91 : decode cX3_acceptsYearDigit 91 = .ok (.ireturn, 1) := by decide +kernel
set_option maxRecDepth 20000 in
theorem ggX3_acceptsPartEnd_X3_endPart : GoodIn wsX3_acceptsPartEnd wsX3_endPart := goodIn_r _ [6, 7, 8, 9, 10, 11, 12, 13, 14, 15, 16, 17, 18, 19, 20, 21, 22, 23, 24, 25, 26, 27, 28, 29, 30, 31, 32, 33, 34] (by decide +kernel) (by decide +kernel)
set_option maxRecDepth 20000 in
theorem gX3_acceptsPartEnd_X3_endPart : GoodIn wsX3_acceptsPartEnd (wsV RX3 84 RX3 yX3_endPart wsX3_endPart) := goodIn_app (goodIn_of _ (by decide +kernel)) ggX3_acceptsPartEnd_X3_endPart
theorem dX3_acceptsPartEnd_0 : decode cX3_acceptsPartEnd 0 = .ok (.iload_n 1, 1) := by decide +kernel
theorem dX3_acceptsPartEnd_1 : decode cX3_acceptsPartEnd 1 = .ok (.bipush 59, 2) := by decide +kernel
theorem dX3_acceptsPartEnd_3 : decode cX3_acceptsPartEnd 3 = .ok (.if_icmp .eq 5, 3) := by decide +kernel
theorem dX3_acceptsPartEnd_6 : decode cX3_acceptsPartEnd 6 = .ok (.iconst 0, 1) := by decide +kernel
theorem dX3_acceptsPartEnd_7 : decode cX3_acceptsPartEnd 7 = .ok (.ireturn, 1) := by decide +kernel
theorem dX3_acceptsPartEnd_8 : decode cX3_acceptsPartEnd 8 = .ok (.aload_n 0, 1) := by decide +kernel
theorem dX3_acceptsPartEnd_9 : decode cX3_acceptsPartEnd 9 = .ok (.invokevirtual 84, 3) := by decide +kernel
theorem dX3_acceptsPartEnd_12 : decode cX3_acceptsPartEnd 12 = .ok (.aload_n 0, 1) := by decide +kernel
theorem dX3_acceptsPartEnd_13 : decode cX3_acceptsPartEnd 13 = .ok (.iconst 0, 1) := by decide +kernel
theorem dX3_acceptsPartEnd_14 : decode cX3_acceptsPartEnd 14 = .ok (.putfield 22, 3) := by decide +kernel
theorem dX3_acceptsPartEnd_17 : decode cX3_acceptsPartEnd 17 = .ok (.iconst 1, 1) := by decide +kernel
theorem dX3_acceptsPartEnd_18 : decode cX3_acceptsPartEnd 18 = .ok (.ireturn, 1) := by decide +kernel
theorem dX4_isLetter_0 : decode cX4_isLetter 0 = .ok (.iload_n 0, 1) := by decide +kernel
theorem dX4_isLetter_1 : decode cX4_isLetter 1 = .ok (.ifCond .lt 13, 3) := by decide +kernel
theorem dX4_isLetter_4 : decode cX4_isLetter 4 = .ok (.iload_n 0, 1) := by decide +kernel
theorem dX4_isLetter_5 : decode cX4_isLetter 5 = .ok (.bipush 12, 2) := by decide +kernel
theorem dX4_isLetter_7 : decode cX4_isLetter 7 = .ok (.if_icmp .ge 7, 3) := by decide +kernel
theorem dX4_isLetter_10 : decode cX4_isLetter 10 = .ok (.iconst 1, 1) := by decide +kernel
theorem dX4_isLetter_11 : decode cX4_isLetter 11 = .ok (.goto 4, 3) := by decide +kernel
theorem dX4_isLetter_14 : decode cX4_isLetter 14 = .ok (.iconst 0, 1) := by decide +kernel
theorem dX4_isLetter_15 : decode cX4_isLetter 15 = .ok (.ireturn, 1) := by decide +kernel
def f_X4_isLetter (p0 : Int32) : Option (Int32) := (jn (u1 fun (s1 : Int32) => gB s1 (some s1)) (fun K2 => jn (u0 (K2 0)) (fun K3 => (if p0 < 0 then K3 () else (if 12 ≤ p0 then K3 () else K2 1)))))
theorem hd_X4_isLetter : yX4_isLetter.cls = RX4 ∧ yX4_isLetter.cls ≠ "java/lang/invoke/MethodHandle" ∧ yX4_isLetter.cls ≠ "java/lang/invoke/VarHandle" ∧ (parseMethodDescriptor yX4_isLetter.desc).map (fun d => d.parameters.length) = some 1 := by decide +kernel
set_option maxRecDepth 100000 in
set_option maxHeartbeats 4000000 in
theorem c_X4_isLetter (l : Launch) (D : va_G) (cI cS cL : ClassId) (p0 : Int32) (rr : Int32) (hc : f_X4_isLetter p0 = some rr) : KM l yX4_isLetter wsX4_isLetter { frames := 0, cells := 0, slots := 0, locals := 0 } D (tyS cI cS cL) [.int p0] [] (some (.int rr)) (fun w => w = []) 0 0 := by
  refine g_entry (cc := cX4_isLetter) (nL := 1) (rt := (some .boolean)) (by decide) rfl (Nat.le_of_ble_eq_true rfl) ?_
  intro p e s m args below meth c A (X : GC p s m args c cX4_isLetter 1 RX4 wsX4_isLetter D (tyS cI cS cL) A) hr hlk _ _
  have h := hc
  unfold f_X4_isLetter at h
  refine g_lv (lv' := [(0, .int p0)]) [0] rfl ?_
  refine g_iload_n X (j := 0) dX4_isLetter_0 rfl ?_
  refine jn_g h (u1 fun s1 => []) (u1 fun s1 => []) (u1 fun s1 => [.int s1]) 15 ?_ ?_
  · rintro s1 h
    dsimp only [u1] at h ⊢
    obtain ⟨hz, h⟩ := gB_e h
    have h := Option.some.inj h
    subst h
    exact g_zret X hr hlk hz dX4_isLetter_15 rfl rfl
  · intro K2 hK2 h
    refine jn_g h (u0 ([])) (u0 ([])) (u0 ([])) 14 ?_ ?_
    · rintro ⟨⟩ h
      dsimp only [u0] at h ⊢
      refine g_iconst (v := 0) X dX4_isLetter_14 (by decide) ?_
      exact hK2 0 h
    · intro K3 hK3 h
      refine g_if_lt (tgt := 14) X h dX4_isLetter_1 (by decide) (fun h => ?_) (fun h => ?_)
      · refine g_lv (lv' := []) [] rfl ?_
        exact hK3 () h
      · refine g_iload_n X (j := 0) dX4_isLetter_4 rfl ?_
        refine g_bipush (v := 12) X dX4_isLetter_5 (by decide) ?_
        refine g_icmp_ge (tgt := 14) X h dX4_isLetter_7 (by decide) (fun h => ?_) (fun h => ?_)
        · refine g_lv (lv' := []) [] rfl ?_
          exact hK3 () h
        · refine g_iconst (v := 1) X dX4_isLetter_10 (by decide) ?_
          refine g_goto (tgt := 15) X dX4_isLetter_11 (by decide) ?_
          refine g_lv (lv' := []) [] rfl ?_
          exact hK2 1 h
def f_X3_acceptsLetter (p1 : Int32) (x0_state : Int32) (x0_letters : Int32) : Option (Int32 × Int32 × Int32) := (f_X4_isLetter (p1 - 97)).bind (u1 fun (r1 : Int32) => (jn (u0 (some (0, x0_state, x0_letters))) (fun K2 => (if r1 = 0 then K2 () else (if x0_letters < ((1 : Int32) <<< ((p1 - 97) &&& 31)) then some (1, 2, (x0_letters ||| ((1 : Int32) <<< ((p1 - 97) &&& 31)))) else K2 ())))))
theorem ns_X3_acceptsLetter_78a : Cond.static yX4_isLetter ∈ wsX3_acceptsLetter := by decide +kernel
theorem ns_X3_acceptsLetter_78b : Cond.initialized yX4_isLetter.cls ∈ wsX3_acceptsLetter := by decide +kernel
theorem in_X3_acceptsLetter_X3 : ∀ w ∈ wsX30, w ∈ wsX3_acceptsLetter := by decide +kernel
theorem fl_X3_acceptsLetter_35 : Cond.fieldLink RX3 35 "ColophonHunt$TextReader" "letters" "I" ∈ wsX3_acceptsLetter := by decide +kernel
theorem fl_X3_acceptsLetter_22 : Cond.fieldLink RX3 22 "ColophonHunt$TextReader" "state" "I" ∈ wsX3_acceptsLetter := by decide +kernel
theorem hd_X3_acceptsLetter : yX3_acceptsLetter.cls = RX3 ∧ yX3_acceptsLetter.cls ≠ "java/lang/invoke/MethodHandle" ∧ yX3_acceptsLetter.cls ≠ "java/lang/invoke/VarHandle" ∧ (parseMethodDescriptor yX3_acceptsLetter.desc).map (fun d => d.parameters.length) = some 1 := by decide +kernel
set_option maxRecDepth 100000 in
set_option maxHeartbeats 4000000 in
theorem c_X3_acceptsLetter (l : Launch) (D : va_G) (cI cS cL : ClassId) (a0 : Nat) (b0_0 : Nat) (p1 : Int32) (x0_parts : Int32) (x0_state : Int32) (x0_press : Int32) (x0_letters : Int32) (x0_mould : Int32) (x0_year : Int32) (x0_yearScale : Int32) (rr : Int32) (y0 : Int32) (y1 : Int32) (hc : f_X3_acceptsLetter p1 x0_state x0_letters = some (rr, y0, y1)) : KM l yX3_acceptsLetter wsX3_acceptsLetter { frames := 1, cells := 0, slots := 0, locals := 20 } D (tyS cI cS cL) [.ref a0, .int p1] [(a0, .inr (3, [.ref b0_0, .int x0_parts, .int x0_state, .int x0_press, .int x0_letters, .int x0_mould, .int x0_year, .int x0_yearScale]))] (some (.int rr)) (fun w => w = [(a0, .inr (3, [.ref b0_0, .int x0_parts, .int y0, .int x0_press, .int y1, .int x0_mould, .int x0_year, .int x0_yearScale]))]) 0 0 := by
  refine g_entry (cc := cX3_acceptsLetter) (nL := 3) (rt := (some .boolean)) (by decide) rfl (Nat.le_of_ble_eq_true rfl) ?_
  intro p e s m args below meth c A (X : GC p s m args c cX3_acceptsLetter 3 RX3 wsX3_acceptsLetter D (tyS cI cS cL) A) hr hlk _ _
  have h := hc
  unfold f_X3_acceptsLetter at h
  refine g_lv (lv' := [(0, .ref a0), (1, .int p1)]) [0, 1] rfl ?_
  refine g_iload_n X (j := 1) dX3_acceptsLetter_0 rfl ?_
  refine g_bipush (v := 97) X dX3_acceptsLetter_1 (by decide) ?_
  refine g_isub X dX3_acceptsLetter_3 ?_
  refine g_istore_n (lv' := [(2, .int (p1 - 97)), (0, .ref a0), (1, .int p1)]) X dX3_acceptsLetter_4 rfl (by decide) rfl ?_
  refine g_iload_n X (j := 0) dX3_acceptsLetter_5 rfl ?_
  obtain ⟨r1, hc, h⟩ := bd1 h
  refine g_callSN (is := []) (As := [.int (p1 - 97)]) (ws' := [(a0, .inr (3, [.ref b0_0, .int x0_parts, .int x0_state, .int x0_press, .int x0_letters, .int x0_mould, .int x0_year, .int x0_yearScale]))]) (st := []) X (c_X4_isLetter l D cI cS cL (p1 - 97) r1 hc) X.2.2.2.2.2.2.2.2 gX3_acceptsLetter_X4_isLetter_n78 ns_X3_acceptsLetter_78a ns_X3_acceptsLetter_78b rfl ⟨rfl, rfl⟩ hd_X4_isLetter.2 ⟨Nat.le_of_ble_eq_true rfl, Nat.le_of_ble_eq_true rfl⟩ ⟨Nat.zero_le _, Nat.zero_le _⟩ rfl rfl rfl rfl rfl (Nat.le_of_ble_eq_true rfl) rfl dX3_acceptsLetter_6 ?_
  refine jn_g h (u0 ([(a0, .inr (3, [.ref b0_0, .int x0_parts, .int x0_state, .int x0_press, .int x0_letters, .int x0_mould, .int x0_year, .int x0_yearScale]))])) (u0 ([])) (u0 ([])) 22 ?_ ?_
  · rintro ⟨⟩ h
    dsimp only [u0] at h ⊢
    refine g_iconst (v := 0) X dX3_acceptsLetter_22 (by decide) ?_
    have h := Option.some.inj h
    simp only [Prod.mk.injEq] at h
    obtain ⟨rfl, rfl, rfl⟩ := h
    exact g_zret X hr hlk (by decide) dX3_acceptsLetter_23 rfl rfl
  · intro K2 hK2 h
    refine g_if_eq (tgt := 22) X h dX3_acceptsLetter_9 (by decide) (fun h => ?_) (fun h => ?_)
    · refine g_lv (lv' := []) [] rfl ?_
      exact hK2 () h
    · refine g_aload_n X (j := 1) dX3_acceptsLetter_12 rfl ?_
      refine g_get (q0 := 0) (k := 4) (ci := 3) X in_X3_acceptsLetter_X3 fl_X3_acceptsLetter_35 rfl rfl (Nat.le_of_ble_eq_true rfl) rfl dX3_acceptsLetter_13 ?_
      refine g_iconst (v := 1) X dX3_acceptsLetter_16 (by decide) ?_
      refine g_iload_n X (j := 0) dX3_acceptsLetter_17 rfl ?_
      refine g_ishl X dX3_acceptsLetter_18 ?_
      refine g_icmp_lt (tgt := 24) X h dX3_acceptsLetter_19 (by decide) (fun h => ?_) (fun h => ?_)
      · refine g_aload_n X (j := 1) dX3_acceptsLetter_24 rfl ?_
        refine g_dup X dX3_acceptsLetter_25 rfl ?_
        refine g_get (q0 := 0) (k := 4) (ci := 3) X in_X3_acceptsLetter_X3 fl_X3_acceptsLetter_35 rfl rfl (Nat.le_of_ble_eq_true rfl) rfl dX3_acceptsLetter_26 ?_
        refine g_iconst (v := 1) X dX3_acceptsLetter_29 (by decide) ?_
        refine g_iload_n X (j := 0) dX3_acceptsLetter_30 rfl ?_
        refine g_ishl X dX3_acceptsLetter_31 ?_
        refine g_ior X dX3_acceptsLetter_32 ?_
        refine g_put (q0 := 0) (k := 4) (ci := 3) (ws' := [(a0, .inr (3, [.ref b0_0, .int x0_parts, .int x0_state, .int x0_press, .int (x0_letters ||| ((1 : Int32) <<< ((p1 - 97) &&& 31))), .int x0_mould, .int x0_year, .int x0_yearScale]))]) X tyX3_ok nmX3 in_X3_acceptsLetter_X3 fl_X3_acceptsLetter_35 rfl rfl (Nat.le_of_ble_eq_true rfl) rfl rfl rfl (Nat.le_of_ble_eq_true rfl) dX3_acceptsLetter_33 rfl ?_
        refine g_aload_n X (j := 1) dX3_acceptsLetter_36 rfl ?_
        refine g_iconst (v := 2) X dX3_acceptsLetter_37 (by decide) ?_
        refine g_put (q0 := 0) (k := 2) (ci := 3) (ws' := [(a0, .inr (3, [.ref b0_0, .int x0_parts, .int 2, .int x0_press, .int (x0_letters ||| ((1 : Int32) <<< ((p1 - 97) &&& 31))), .int x0_mould, .int x0_year, .int x0_yearScale]))]) X tyX3_ok nmX3 in_X3_acceptsLetter_X3 fl_X3_acceptsLetter_22 rfl rfl (Nat.le_of_ble_eq_true rfl) rfl rfl rfl (Nat.le_of_ble_eq_true rfl) dX3_acceptsLetter_38 rfl ?_
        refine g_iconst (v := 1) X dX3_acceptsLetter_41 (by decide) ?_
        have h := Option.some.inj h
        simp only [Prod.mk.injEq] at h
        obtain ⟨rfl, rfl, rfl⟩ := h
        exact g_zret X hr hlk (by decide) dX3_acceptsLetter_42 rfl rfl
      · refine g_lv (lv' := []) [] rfl ?_
        exact hK2 () h
def f_X3_acceptsMouldSign (p1 : Int32) (x0_state : Int32) (x0_mould : Int32) : Option (Int32 × Int32 × Int32) := (if p1 = 109 then some (1, 4, 0) else some (0, x0_state, x0_mould))
theorem in_X3_acceptsMouldSign_X3 : ∀ w ∈ wsX30, w ∈ wsX3_acceptsMouldSign := by decide +kernel
theorem fl_X3_acceptsMouldSign_38 : Cond.fieldLink RX3 38 "ColophonHunt$TextReader" "mould" "I" ∈ wsX3_acceptsMouldSign := by decide +kernel
theorem fl_X3_acceptsMouldSign_22 : Cond.fieldLink RX3 22 "ColophonHunt$TextReader" "state" "I" ∈ wsX3_acceptsMouldSign := by decide +kernel
theorem hd_X3_acceptsMouldSign : yX3_acceptsMouldSign.cls = RX3 ∧ yX3_acceptsMouldSign.cls ≠ "java/lang/invoke/MethodHandle" ∧ yX3_acceptsMouldSign.cls ≠ "java/lang/invoke/VarHandle" ∧ (parseMethodDescriptor yX3_acceptsMouldSign.desc).map (fun d => d.parameters.length) = some 1 := by decide +kernel
set_option maxRecDepth 100000 in
set_option maxHeartbeats 4000000 in
theorem c_X3_acceptsMouldSign (l : Launch) (D : va_G) (cI cS cL : ClassId) (a0 : Nat) (b0_0 : Nat) (p1 : Int32) (x0_parts : Int32) (x0_state : Int32) (x0_press : Int32) (x0_letters : Int32) (x0_mould : Int32) (x0_year : Int32) (x0_yearScale : Int32) (rr : Int32) (y0 : Int32) (y1 : Int32) (hc : f_X3_acceptsMouldSign p1 x0_state x0_mould = some (rr, y0, y1)) : KM l yX3_acceptsMouldSign wsX3_acceptsMouldSign { frames := 0, cells := 0, slots := 0, locals := 0 } D (tyS cI cS cL) [.ref a0, .int p1] [(a0, .inr (3, [.ref b0_0, .int x0_parts, .int x0_state, .int x0_press, .int x0_letters, .int x0_mould, .int x0_year, .int x0_yearScale]))] (some (.int rr)) (fun w => w = [(a0, .inr (3, [.ref b0_0, .int x0_parts, .int y0, .int x0_press, .int x0_letters, .int y1, .int x0_year, .int x0_yearScale]))]) 0 0 := by
  refine g_entry (cc := cX3_acceptsMouldSign) (nL := 2) (rt := (some .boolean)) (by decide) rfl (Nat.le_of_ble_eq_true rfl) ?_
  intro p e s m args below meth c A (X : GC p s m args c cX3_acceptsMouldSign 2 RX3 wsX3_acceptsMouldSign D (tyS cI cS cL) A) hr hlk _ _
  have h := hc
  unfold f_X3_acceptsMouldSign at h
  refine g_lv (lv' := [(0, .ref a0), (1, .int p1)]) [0, 1] rfl ?_
  refine g_iload_n X (j := 1) dX3_acceptsMouldSign_0 rfl ?_
  refine g_bipush (v := 109) X dX3_acceptsMouldSign_1 (by decide) ?_
  refine g_icmp_eq (tgt := 8) X h dX3_acceptsMouldSign_3 (by decide) (fun h => ?_) (fun h => ?_)
  · refine g_aload_n X (j := 0) dX3_acceptsMouldSign_8 rfl ?_
    refine g_iconst (v := 0) X dX3_acceptsMouldSign_9 (by decide) ?_
    refine g_put (q0 := 0) (k := 5) (ci := 3) (ws' := [(a0, .inr (3, [.ref b0_0, .int x0_parts, .int x0_state, .int x0_press, .int x0_letters, .int 0, .int x0_year, .int x0_yearScale]))]) X tyX3_ok nmX3 in_X3_acceptsMouldSign_X3 fl_X3_acceptsMouldSign_38 rfl rfl (Nat.le_of_ble_eq_true rfl) rfl rfl rfl (Nat.le_of_ble_eq_true rfl) dX3_acceptsMouldSign_10 rfl ?_
    refine g_aload_n X (j := 0) dX3_acceptsMouldSign_13 rfl ?_
    refine g_iconst (v := 4) X dX3_acceptsMouldSign_14 (by decide) ?_
    refine g_put (q0 := 0) (k := 2) (ci := 3) (ws' := [(a0, .inr (3, [.ref b0_0, .int x0_parts, .int 4, .int x0_press, .int x0_letters, .int 0, .int x0_year, .int x0_yearScale]))]) X tyX3_ok nmX3 in_X3_acceptsMouldSign_X3 fl_X3_acceptsMouldSign_22 rfl rfl (Nat.le_of_ble_eq_true rfl) rfl rfl rfl (Nat.le_of_ble_eq_true rfl) dX3_acceptsMouldSign_15 rfl ?_
    refine g_iconst (v := 1) X dX3_acceptsMouldSign_18 (by decide) ?_
    have h := Option.some.inj h
    simp only [Prod.mk.injEq] at h
    obtain ⟨rfl, rfl, rfl⟩ := h
    exact g_zret X hr hlk (by decide) dX3_acceptsMouldSign_19 rfl rfl
  · refine g_iconst (v := 0) X dX3_acceptsMouldSign_6 (by decide) ?_
    have h := Option.some.inj h
    simp only [Prod.mk.injEq] at h
    obtain ⟨rfl, rfl, rfl⟩ := h
    exact g_zret X hr hlk (by decide) dX3_acceptsMouldSign_7 rfl rfl
def f_X3_endPart (x0_press : Int32) (x0_letters : Int32) (x0_mould : Int32) (x0_year : Int32) (x1_size : Int32) (f2 : Nat → Int32) (f3 : Nat → Int32) (f4 : Nat → Int32) (f5 : Nat → Int32) : Option (Int32 × (Nat → Int32) × (Nat → Int32) × (Nat → Int32) × (Nat → Int32)) := (f_X2_add x0_press x0_letters x0_mould x0_year x1_size f2 f3 f4 f5).bind (u5 fun (o2 : Int32) (o3 : Nat → Int32) (o4 : Nat → Int32) (o5 : Nat → Int32) (o6 : Nat → Int32) => some (o2, o3, o4, o5, o6))
theorem in_X3_endPart_X3 : ∀ w ∈ wsX30, w ∈ wsX3_endPart := by decide +kernel
theorem fl_X3_endPart_12 : Cond.fieldLink RX3 12 "ColophonHunt$TextReader" "found" "LColophonHunt$Shelf;" ∈ wsX3_endPart := by decide +kernel
theorem fl_X3_endPart_32 : Cond.fieldLink RX3 32 "ColophonHunt$TextReader" "press" "I" ∈ wsX3_endPart := by decide +kernel
theorem fl_X3_endPart_35 : Cond.fieldLink RX3 35 "ColophonHunt$TextReader" "letters" "I" ∈ wsX3_endPart := by decide +kernel
theorem fl_X3_endPart_38 : Cond.fieldLink RX3 38 "ColophonHunt$TextReader" "mould" "I" ∈ wsX3_endPart := by decide +kernel
theorem fl_X3_endPart_41 : Cond.fieldLink RX3 41 "ColophonHunt$TextReader" "year" "I" ∈ wsX3_endPart := by decide +kernel
theorem hd_X3_endPart : yX3_endPart.cls = RX3 ∧ yX3_endPart.cls ≠ "java/lang/invoke/MethodHandle" ∧ yX3_endPart.cls ≠ "java/lang/invoke/VarHandle" ∧ (parseMethodDescriptor yX3_endPart.desc).map (fun d => d.parameters.length) = some 0 := by decide +kernel
set_option maxRecDepth 100000 in
set_option maxHeartbeats 4000000 in
theorem c_X3_endPart (l : Launch) (D : va_G) (cI cS cL : ClassId) (a0 : Nat) (a1 : Nat) (a2 : Nat) (a3 : Nat) (a4 : Nat) (a5 : Nat) (x0_parts : Int32) (x0_state : Int32) (x0_press : Int32) (x0_letters : Int32) (x0_mould : Int32) (x0_year : Int32) (x0_yearScale : Int32) (x1_size : Int32) (f2 : Nat → Int32) (f3 : Nat → Int32) (f4 : Nat → Int32) (f5 : Nat → Int32) (y0 : Int32) (y1 : Nat → Int32) (y2 : Nat → Int32) (y3 : Nat → Int32) (y4 : Nat → Int32) (hc : f_X3_endPart x0_press x0_letters x0_mould x0_year x1_size f2 f3 f4 f5 = some (y0, y1, y2, y3, y4)) : KM l yX3_endPart wsX3_endPart { frames := 1, cells := 0, slots := 0, locals := 24 } D (tyS cI cS cL) [.ref a0] [(a0, .inr (3, [.ref a1, .int x0_parts, .int x0_state, .int x0_press, .int x0_letters, .int x0_mould, .int x0_year, .int x0_yearScale])), (a1, .inr (2, [.ref a2, .ref a3, .ref a4, .ref a5, .int x1_size])), (a2, .inl (cI, 10, .inl f2)), (a3, .inl (cI, 10, .inl f3)), (a4, .inl (cI, 10, .inl f4)), (a5, .inl (cI, 10, .inl f5))] none (fun w => w = [(a0, .inr (3, [.ref a1, .int x0_parts, .int x0_state, .int x0_press, .int x0_letters, .int x0_mould, .int x0_year, .int x0_yearScale])), (a1, .inr (2, [.ref a2, .ref a3, .ref a4, .ref a5, .int y0])), (a2, .inl (cI, 10, .inl y1)), (a3, .inl (cI, 10, .inl y2)), (a4, .inl (cI, 10, .inl y3)), (a5, .inl (cI, 10, .inl y4))]) 0 0 := by
  refine g_entry (cc := cX3_endPart) (nL := 1) (rt := none) (by decide) rfl (Nat.le_of_ble_eq_true rfl) ?_
  intro p e s m args below meth c A (X : GC p s m args c cX3_endPart 1 RX3 wsX3_endPart D (tyS cI cS cL) A) hr hlk _ _
  have h := hc
  unfold f_X3_endPart at h
  refine g_lv (lv' := [(0, .ref a0)]) [0] rfl ?_
  refine g_aload_n X (j := 0) dX3_endPart_0 rfl ?_
  refine g_get (q0 := 0) (k := 0) (ci := 3) X in_X3_endPart_X3 fl_X3_endPart_12 rfl rfl (Nat.le_of_ble_eq_true rfl) rfl dX3_endPart_1 ?_
  refine g_aload_n X (j := 0) dX3_endPart_4 rfl ?_
  refine g_get (q0 := 0) (k := 3) (ci := 3) X in_X3_endPart_X3 fl_X3_endPart_32 rfl rfl (Nat.le_of_ble_eq_true rfl) rfl dX3_endPart_5 ?_
  refine g_aload_n X (j := 0) dX3_endPart_8 rfl ?_
  refine g_get (q0 := 0) (k := 4) (ci := 3) X in_X3_endPart_X3 fl_X3_endPart_35 rfl rfl (Nat.le_of_ble_eq_true rfl) rfl dX3_endPart_9 ?_
  refine g_aload_n X (j := 0) dX3_endPart_12 rfl ?_
  refine g_get (q0 := 0) (k := 5) (ci := 3) X in_X3_endPart_X3 fl_X3_endPart_38 rfl rfl (Nat.le_of_ble_eq_true rfl) rfl dX3_endPart_13 ?_
  refine g_aload_n X (j := 0) dX3_endPart_16 rfl ?_
  refine g_get (q0 := 0) (k := 6) (ci := 3) X in_X3_endPart_X3 fl_X3_endPart_41 rfl rfl (Nat.le_of_ble_eq_true rfl) rfl dX3_endPart_17 ?_
  obtain ⟨o2, o3, o4, o5, o6, hc, h⟩ := bd5 h
  refine g_callV (q0 := 1) (ci := 2) (is := [1, 2, 3, 4, 5]) (As := [.int x0_press, .int x0_letters, .int x0_mould, .int x0_year]) (ws' := [(a0, .inr (3, [.ref a1, .int x0_parts, .int x0_state, .int x0_press, .int x0_letters, .int x0_mould, .int x0_year, .int x0_yearScale])), (a1, .inr (2, [.ref a2, .ref a3, .ref a4, .ref a5, .int o2])), (a2, .inl (cI, 10, .inl o3)), (a3, .inl (cI, 10, .inl o4)), (a4, .inl (cI, 10, .inl o5)), (a5, .inl (cI, 10, .inl o6))]) (st := []) X (c_X2_add l D cI cS cL a1 a2 a3 a4 a5 x0_press x0_letters x0_mould x0_year x1_size f2 f3 f4 f5 o2 o3 o4 o5 o6 hc) gX3_endPart_X2_add rfl ⟨rfl, rfl⟩ hd_X2_add ⟨Nat.le_of_ble_eq_true rfl, Nat.le_of_ble_eq_true rfl⟩ ⟨Nat.zero_le _, Nat.zero_le _⟩ rfl rfl rfl rfl rfl rfl rfl (Nat.le_of_ble_eq_true rfl) rfl dX3_endPart_20 ?_
  have h := Option.some.inj h
  simp only [Prod.mk.injEq] at h
  obtain ⟨rfl, rfl, rfl, rfl, rfl⟩ := h
  exact g_vret X hr hlk dX3_endPart_23 rfl
def f_X3_acceptsPartEnd (p1 : Int32) (x0_state : Int32) (x0_press : Int32) (x0_letters : Int32) (x0_mould : Int32) (x0_year : Int32) (x1_size : Int32) (f2 : Nat → Int32) (f3 : Nat → Int32) (f4 : Nat → Int32) (f5 : Nat → Int32) : Option (Int32 × Int32 × Int32 × (Nat → Int32) × (Nat → Int32) × (Nat → Int32) × (Nat → Int32)) := (if p1 = 59 then (f_X3_endPart x0_press x0_letters x0_mould x0_year x1_size f2 f3 f4 f5).bind (u5 fun (o2 : Int32) (o3 : Nat → Int32) (o4 : Nat → Int32) (o5 : Nat → Int32) (o6 : Nat → Int32) => some (1, 0, o2, o3, o4, o5, o6)) else some (0, x0_state, x1_size, f2, f3, f4, f5))
theorem in_X3_acceptsPartEnd_X3 : ∀ w ∈ wsX30, w ∈ wsX3_acceptsPartEnd := by decide +kernel
theorem fl_X3_acceptsPartEnd_22 : Cond.fieldLink RX3 22 "ColophonHunt$TextReader" "state" "I" ∈ wsX3_acceptsPartEnd := by decide +kernel
theorem hd_X3_acceptsPartEnd : yX3_acceptsPartEnd.cls = RX3 ∧ yX3_acceptsPartEnd.cls ≠ "java/lang/invoke/MethodHandle" ∧ yX3_acceptsPartEnd.cls ≠ "java/lang/invoke/VarHandle" ∧ (parseMethodDescriptor yX3_acceptsPartEnd.desc).map (fun d => d.parameters.length) = some 1 := by decide +kernel
set_option maxRecDepth 100000 in
set_option maxHeartbeats 4000000 in
theorem c_X3_acceptsPartEnd (l : Launch) (D : va_G) (cI cS cL : ClassId) (a0 : Nat) (a1 : Nat) (a2 : Nat) (a3 : Nat) (a4 : Nat) (a5 : Nat) (p1 : Int32) (x0_parts : Int32) (x0_state : Int32) (x0_press : Int32) (x0_letters : Int32) (x0_mould : Int32) (x0_year : Int32) (x0_yearScale : Int32) (x1_size : Int32) (f2 : Nat → Int32) (f3 : Nat → Int32) (f4 : Nat → Int32) (f5 : Nat → Int32) (rr : Int32) (y0 : Int32) (y1 : Int32) (y2 : Nat → Int32) (y3 : Nat → Int32) (y4 : Nat → Int32) (y5 : Nat → Int32) (hc : f_X3_acceptsPartEnd p1 x0_state x0_press x0_letters x0_mould x0_year x1_size f2 f3 f4 f5 = some (rr, y0, y1, y2, y3, y4, y5)) : KM l yX3_acceptsPartEnd wsX3_acceptsPartEnd { frames := 2, cells := 0, slots := 0, locals := 44 } D (tyS cI cS cL) [.ref a0, .int p1] [(a0, .inr (3, [.ref a1, .int x0_parts, .int x0_state, .int x0_press, .int x0_letters, .int x0_mould, .int x0_year, .int x0_yearScale])), (a1, .inr (2, [.ref a2, .ref a3, .ref a4, .ref a5, .int x1_size])), (a2, .inl (cI, 10, .inl f2)), (a3, .inl (cI, 10, .inl f3)), (a4, .inl (cI, 10, .inl f4)), (a5, .inl (cI, 10, .inl f5))] (some (.int rr)) (fun w => w = [(a0, .inr (3, [.ref a1, .int x0_parts, .int y0, .int x0_press, .int x0_letters, .int x0_mould, .int x0_year, .int x0_yearScale])), (a1, .inr (2, [.ref a2, .ref a3, .ref a4, .ref a5, .int y1])), (a2, .inl (cI, 10, .inl y2)), (a3, .inl (cI, 10, .inl y3)), (a4, .inl (cI, 10, .inl y4)), (a5, .inl (cI, 10, .inl y5))]) 0 0 := by
  refine g_entry (cc := cX3_acceptsPartEnd) (nL := 2) (rt := (some .boolean)) (by decide) rfl (Nat.le_of_ble_eq_true rfl) ?_
  intro p e s m args below meth c A (X : GC p s m args c cX3_acceptsPartEnd 2 RX3 wsX3_acceptsPartEnd D (tyS cI cS cL) A) hr hlk _ _
  have h := hc
  unfold f_X3_acceptsPartEnd at h
  refine g_lv (lv' := [(0, .ref a0), (1, .int p1)]) [0, 1] rfl ?_
  refine g_iload_n X (j := 1) dX3_acceptsPartEnd_0 rfl ?_
  refine g_bipush (v := 59) X dX3_acceptsPartEnd_1 (by decide) ?_
  refine g_icmp_eq (tgt := 8) X h dX3_acceptsPartEnd_3 (by decide) (fun h => ?_) (fun h => ?_)
  · refine g_aload_n X (j := 0) dX3_acceptsPartEnd_8 rfl ?_
    obtain ⟨o2, o3, o4, o5, o6, hc, h⟩ := bd5 h
    refine g_callV (q0 := 0) (ci := 3) (is := [0, 1, 2, 3, 4, 5]) (As := []) (ws' := [(a0, .inr (3, [.ref a1, .int x0_parts, .int x0_state, .int x0_press, .int x0_letters, .int x0_mould, .int x0_year, .int x0_yearScale])), (a1, .inr (2, [.ref a2, .ref a3, .ref a4, .ref a5, .int o2])), (a2, .inl (cI, 10, .inl o3)), (a3, .inl (cI, 10, .inl o4)), (a4, .inl (cI, 10, .inl o5)), (a5, .inl (cI, 10, .inl o6))]) (st := []) X (c_X3_endPart l D cI cS cL a0 a1 a2 a3 a4 a5 x0_parts x0_state x0_press x0_letters x0_mould x0_year x0_yearScale x1_size f2 f3 f4 f5 o2 o3 o4 o5 o6 hc) gX3_acceptsPartEnd_X3_endPart rfl ⟨rfl, rfl⟩ hd_X3_endPart ⟨Nat.le_of_ble_eq_true rfl, Nat.le_of_ble_eq_true rfl⟩ ⟨Nat.zero_le _, Nat.zero_le _⟩ rfl rfl rfl rfl rfl rfl rfl (Nat.le_of_ble_eq_true rfl) rfl dX3_acceptsPartEnd_9 ?_
    refine g_aload_n X (j := 0) dX3_acceptsPartEnd_12 rfl ?_
    refine g_iconst (v := 0) X dX3_acceptsPartEnd_13 (by decide) ?_
    refine g_put (q0 := 0) (k := 2) (ci := 3) (ws' := [(a0, .inr (3, [.ref a1, .int x0_parts, .int 0, .int x0_press, .int x0_letters, .int x0_mould, .int x0_year, .int x0_yearScale])), (a1, .inr (2, [.ref a2, .ref a3, .ref a4, .ref a5, .int o2])), (a2, .inl (cI, 10, .inl o3)), (a3, .inl (cI, 10, .inl o4)), (a4, .inl (cI, 10, .inl o5)), (a5, .inl (cI, 10, .inl o6))]) X tyX3_ok nmX3 in_X3_acceptsPartEnd_X3 fl_X3_acceptsPartEnd_22 rfl rfl (Nat.le_of_ble_eq_true rfl) rfl rfl rfl (Nat.le_of_ble_eq_true rfl) dX3_acceptsPartEnd_14 rfl ?_
    refine g_iconst (v := 1) X dX3_acceptsPartEnd_17 (by decide) ?_
    have h := Option.some.inj h
    simp only [Prod.mk.injEq] at h
    obtain ⟨rfl, rfl, rfl, rfl, rfl, rfl, rfl⟩ := h
    exact g_zret X hr hlk (by decide) dX3_acceptsPartEnd_18 rfl rfl
  · refine g_iconst (v := 0) X dX3_acceptsPartEnd_6 (by decide) ?_
    have h := Option.some.inj h
    simp only [Prod.mk.injEq] at h
    obtain ⟨rfl, rfl, rfl, rfl, rfl, rfl, rfl⟩ := h
    exact g_zret X hr hlk (by decide) dX3_acceptsPartEnd_7 rfl rfl
def f_X3_acceptsFromYear (p1 : Int32) (x0_state : Int32) (x0_press : Int32) (x0_letters : Int32) (x0_mould : Int32) (x0_year : Int32) (x0_yearScale : Int32) (x1_size : Int32) (f2 : Nat → Int32) (f3 : Nat → Int32) (f4 : Nat → Int32) (f5 : Nat → Int32) : Option (Int32 × Int32 × Int32 × Int32 × Int32 × (Nat → Int32) × (Nat → Int32) × (Nat → Int32) × (Nat → Int32)) := (if p1 = 121 then some (1, 7, 0, 1000, x1_size, f2, f3, f4, f5) else (f_X3_acceptsPartEnd p1 x0_state x0_press x0_letters x0_mould x0_year x1_size f2 f3 f4 f5).bind (u7 fun (r1 : Int32) (o2 : Int32) (o3 : Int32) (o4 : Nat → Int32) (o5 : Nat → Int32) (o6 : Nat → Int32) (o7 : Nat → Int32) => gB r1 (some (r1, o2, x0_year, x0_yearScale, o3, o4, o5, o6, o7))))
theorem in_X3_acceptsFromYear_X3 : ∀ w ∈ wsX30, w ∈ wsX3_acceptsFromYear := by decide +kernel
theorem fl_X3_acceptsFromYear_41 : Cond.fieldLink RX3 41 "ColophonHunt$TextReader" "year" "I" ∈ wsX3_acceptsFromYear := by decide +kernel
theorem fl_X3_acceptsFromYear_81 : Cond.fieldLink RX3 81 "ColophonHunt$TextReader" "yearScale" "I" ∈ wsX3_acceptsFromYear := by decide +kernel
theorem fl_X3_acceptsFromYear_22 : Cond.fieldLink RX3 22 "ColophonHunt$TextReader" "state" "I" ∈ wsX3_acceptsFromYear := by decide +kernel
theorem hd_X3_acceptsFromYear : yX3_acceptsFromYear.cls = RX3 ∧ yX3_acceptsFromYear.cls ≠ "java/lang/invoke/MethodHandle" ∧ yX3_acceptsFromYear.cls ≠ "java/lang/invoke/VarHandle" ∧ (parseMethodDescriptor yX3_acceptsFromYear.desc).map (fun d => d.parameters.length) = some 1 := by decide +kernel
set_option maxRecDepth 100000 in
set_option maxHeartbeats 4000000 in
theorem c_X3_acceptsFromYear (l : Launch) (D : va_G) (cI cS cL : ClassId) (a0 : Nat) (a1 : Nat) (a2 : Nat) (a3 : Nat) (a4 : Nat) (a5 : Nat) (p1 : Int32) (x0_parts : Int32) (x0_state : Int32) (x0_press : Int32) (x0_letters : Int32) (x0_mould : Int32) (x0_year : Int32) (x0_yearScale : Int32) (x1_size : Int32) (f2 : Nat → Int32) (f3 : Nat → Int32) (f4 : Nat → Int32) (f5 : Nat → Int32) (rr : Int32) (y0 : Int32) (y1 : Int32) (y2 : Int32) (y3 : Int32) (y4 : Nat → Int32) (y5 : Nat → Int32) (y6 : Nat → Int32) (y7 : Nat → Int32) (hc : f_X3_acceptsFromYear p1 x0_state x0_press x0_letters x0_mould x0_year x0_yearScale x1_size f2 f3 f4 f5 = some (rr, y0, y1, y2, y3, y4, y5, y6, y7)) : KM l yX3_acceptsFromYear wsX3_acceptsFromYear { frames := 3, cells := 0, slots := 0, locals := 65 } D (tyS cI cS cL) [.ref a0, .int p1] [(a0, .inr (3, [.ref a1, .int x0_parts, .int x0_state, .int x0_press, .int x0_letters, .int x0_mould, .int x0_year, .int x0_yearScale])), (a1, .inr (2, [.ref a2, .ref a3, .ref a4, .ref a5, .int x1_size])), (a2, .inl (cI, 10, .inl f2)), (a3, .inl (cI, 10, .inl f3)), (a4, .inl (cI, 10, .inl f4)), (a5, .inl (cI, 10, .inl f5))] (some (.int rr)) (fun w => w = [(a0, .inr (3, [.ref a1, .int x0_parts, .int y0, .int x0_press, .int x0_letters, .int x0_mould, .int y1, .int y2])), (a1, .inr (2, [.ref a2, .ref a3, .ref a4, .ref a5, .int y3])), (a2, .inl (cI, 10, .inl y4)), (a3, .inl (cI, 10, .inl y5)), (a4, .inl (cI, 10, .inl y6)), (a5, .inl (cI, 10, .inl y7))]) 0 0 := by
  refine g_entry (cc := cX3_acceptsFromYear) (nL := 2) (rt := (some .boolean)) (by decide) rfl (Nat.le_of_ble_eq_true rfl) ?_
  intro p e s m args below meth c A (X : GC p s m args c cX3_acceptsFromYear 2 RX3 wsX3_acceptsFromYear D (tyS cI cS cL) A) hr hlk _ _
  have h := hc
  unfold f_X3_acceptsFromYear at h
  refine g_lv (lv' := [(0, .ref a0), (1, .int p1)]) [0, 1] rfl ?_
  refine g_iload_n X (j := 1) dX3_acceptsFromYear_0 rfl ?_
  refine g_bipush (v := 121) X dX3_acceptsFromYear_1 (by decide) ?_
  refine g_icmp_eq (tgt := 12) X h dX3_acceptsFromYear_3 (by decide) (fun h => ?_) (fun h => ?_)
  · refine g_aload_n X (j := 0) dX3_acceptsFromYear_12 rfl ?_
    refine g_iconst (v := 0) X dX3_acceptsFromYear_13 (by decide) ?_
    refine g_put (q0 := 0) (k := 6) (ci := 3) (ws' := [(a0, .inr (3, [.ref a1, .int x0_parts, .int x0_state, .int x0_press, .int x0_letters, .int x0_mould, .int 0, .int x0_yearScale])), (a1, .inr (2, [.ref a2, .ref a3, .ref a4, .ref a5, .int x1_size])), (a2, .inl (cI, 10, .inl f2)), (a3, .inl (cI, 10, .inl f3)), (a4, .inl (cI, 10, .inl f4)), (a5, .inl (cI, 10, .inl f5))]) X tyX3_ok nmX3 in_X3_acceptsFromYear_X3 fl_X3_acceptsFromYear_41 rfl rfl (Nat.le_of_ble_eq_true rfl) rfl rfl rfl (Nat.le_of_ble_eq_true rfl) dX3_acceptsFromYear_14 rfl ?_
    refine g_aload_n X (j := 0) dX3_acceptsFromYear_17 rfl ?_
    refine g_sipush (v := 1000) X dX3_acceptsFromYear_18 (by decide) ?_
    refine g_put (q0 := 0) (k := 7) (ci := 3) (ws' := [(a0, .inr (3, [.ref a1, .int x0_parts, .int x0_state, .int x0_press, .int x0_letters, .int x0_mould, .int 0, .int 1000])), (a1, .inr (2, [.ref a2, .ref a3, .ref a4, .ref a5, .int x1_size])), (a2, .inl (cI, 10, .inl f2)), (a3, .inl (cI, 10, .inl f3)), (a4, .inl (cI, 10, .inl f4)), (a5, .inl (cI, 10, .inl f5))]) X tyX3_ok nmX3 in_X3_acceptsFromYear_X3 fl_X3_acceptsFromYear_81 rfl rfl (Nat.le_of_ble_eq_true rfl) rfl rfl rfl (Nat.le_of_ble_eq_true rfl) dX3_acceptsFromYear_21 rfl ?_
    refine g_aload_n X (j := 0) dX3_acceptsFromYear_24 rfl ?_
    refine g_bipush (v := 7) X dX3_acceptsFromYear_25 (by decide) ?_
    refine g_put (q0 := 0) (k := 2) (ci := 3) (ws' := [(a0, .inr (3, [.ref a1, .int x0_parts, .int 7, .int x0_press, .int x0_letters, .int x0_mould, .int 0, .int 1000])), (a1, .inr (2, [.ref a2, .ref a3, .ref a4, .ref a5, .int x1_size])), (a2, .inl (cI, 10, .inl f2)), (a3, .inl (cI, 10, .inl f3)), (a4, .inl (cI, 10, .inl f4)), (a5, .inl (cI, 10, .inl f5))]) X tyX3_ok nmX3 in_X3_acceptsFromYear_X3 fl_X3_acceptsFromYear_22 rfl rfl (Nat.le_of_ble_eq_true rfl) rfl rfl rfl (Nat.le_of_ble_eq_true rfl) dX3_acceptsFromYear_27 rfl ?_
    refine g_iconst (v := 1) X dX3_acceptsFromYear_30 (by decide) ?_
    have h := Option.some.inj h
    simp only [Prod.mk.injEq] at h
    obtain ⟨rfl, rfl, rfl, rfl, rfl, rfl, rfl, rfl, rfl⟩ := h
    exact g_zret X hr hlk (by decide) dX3_acceptsFromYear_31 rfl rfl
  · refine g_aload_n X (j := 0) dX3_acceptsFromYear_6 rfl ?_
    refine g_iload_n X (j := 1) dX3_acceptsFromYear_7 rfl ?_
    obtain ⟨r1, o2, o3, o4, o5, o6, o7, hc, h⟩ := bd7 h
    refine g_callV (q0 := 0) (ci := 3) (is := [0, 1, 2, 3, 4, 5]) (As := [.int p1]) (ws' := [(a0, .inr (3, [.ref a1, .int x0_parts, .int o2, .int x0_press, .int x0_letters, .int x0_mould, .int x0_year, .int x0_yearScale])), (a1, .inr (2, [.ref a2, .ref a3, .ref a4, .ref a5, .int o3])), (a2, .inl (cI, 10, .inl o4)), (a3, .inl (cI, 10, .inl o5)), (a4, .inl (cI, 10, .inl o6)), (a5, .inl (cI, 10, .inl o7))]) (st := []) X (c_X3_acceptsPartEnd l D cI cS cL a0 a1 a2 a3 a4 a5 p1 x0_parts x0_state x0_press x0_letters x0_mould x0_year x0_yearScale x1_size f2 f3 f4 f5 r1 o2 o3 o4 o5 o6 o7 hc) gX3_acceptsFromYear_X3_acceptsPartEnd rfl ⟨rfl, rfl⟩ hd_X3_acceptsPartEnd ⟨Nat.le_of_ble_eq_true rfl, Nat.le_of_ble_eq_true rfl⟩ ⟨Nat.zero_le _, Nat.zero_le _⟩ rfl rfl rfl rfl rfl rfl rfl (Nat.le_of_ble_eq_true rfl) rfl dX3_acceptsFromYear_8 ?_
    obtain ⟨hz, h⟩ := gB_e h
    have h := Option.some.inj h
    simp only [Prod.mk.injEq] at h
    obtain ⟨rfl, rfl, rfl, rfl, rfl, rfl, rfl, rfl, rfl⟩ := h
    exact g_zret X hr hlk hz dX3_acceptsFromYear_11 rfl rfl
def f_X3_acceptsMouldDigit (p1 : Int32) (x0_state : Int32) (x0_mould : Int32) : Option (Int32 × Int32 × Int32) := (f_X3_isDigit p1).bind (u1 fun (r1 : Int32) => (if r1 = 0 then some (0, x0_state, x0_mould) else (jn (u1 fun (s2 : Int32) => some (1, s2, (((10 : Int32) * x0_mould) + (p1 - 48)))) (fun K3 => jn (u0 (K3 6)) (fun K4 => (if x0_state = 4 then (if (((10 : Int32) * x0_mould) + (p1 - 48)) ≤ 0 then K4 () else K3 5) else K4 ()))))))
theorem in_X3_acceptsMouldDigit_X3 : ∀ w ∈ wsX30, w ∈ wsX3_acceptsMouldDigit := by decide +kernel
theorem fl_X3_acceptsMouldDigit_38 : Cond.fieldLink RX3 38 "ColophonHunt$TextReader" "mould" "I" ∈ wsX3_acceptsMouldDigit := by decide +kernel
theorem fl_X3_acceptsMouldDigit_22 : Cond.fieldLink RX3 22 "ColophonHunt$TextReader" "state" "I" ∈ wsX3_acceptsMouldDigit := by decide +kernel
theorem hd_X3_acceptsMouldDigit : yX3_acceptsMouldDigit.cls = RX3 ∧ yX3_acceptsMouldDigit.cls ≠ "java/lang/invoke/MethodHandle" ∧ yX3_acceptsMouldDigit.cls ≠ "java/lang/invoke/VarHandle" ∧ (parseMethodDescriptor yX3_acceptsMouldDigit.desc).map (fun d => d.parameters.length) = some 1 := by decide +kernel
set_option maxRecDepth 100000 in
set_option maxHeartbeats 4000000 in
theorem c_X3_acceptsMouldDigit (l : Launch) (D : va_G) (cI cS cL : ClassId) (a0 : Nat) (b0_0 : Nat) (p1 : Int32) (x0_parts : Int32) (x0_state : Int32) (x0_press : Int32) (x0_letters : Int32) (x0_mould : Int32) (x0_year : Int32) (x0_yearScale : Int32) (rr : Int32) (y0 : Int32) (y1 : Int32) (hc : f_X3_acceptsMouldDigit p1 x0_state x0_mould = some (rr, y0, y1)) : KM l yX3_acceptsMouldDigit wsX3_acceptsMouldDigit { frames := 1, cells := 0, slots := 0, locals := 20 } D (tyS cI cS cL) [.ref a0, .int p1] [(a0, .inr (3, [.ref b0_0, .int x0_parts, .int x0_state, .int x0_press, .int x0_letters, .int x0_mould, .int x0_year, .int x0_yearScale]))] (some (.int rr)) (fun w => w = [(a0, .inr (3, [.ref b0_0, .int x0_parts, .int y0, .int x0_press, .int x0_letters, .int y1, .int x0_year, .int x0_yearScale]))]) 0 0 := by
  refine g_entry (cc := cX3_acceptsMouldDigit) (nL := 2) (rt := (some .boolean)) (by decide) rfl (Nat.le_of_ble_eq_true rfl) ?_
  intro p e s m args below meth c A (X : GC p s m args c cX3_acceptsMouldDigit 2 RX3 wsX3_acceptsMouldDigit D (tyS cI cS cL) A) hr hlk _ _
  have h := hc
  unfold f_X3_acceptsMouldDigit at h
  refine g_lv (lv' := [(0, .ref a0), (1, .int p1)]) [0, 1] rfl ?_
  refine g_iload_n X (j := 1) dX3_acceptsMouldDigit_0 rfl ?_
  obtain ⟨r1, hc, h⟩ := bd1 h
  refine g_callS (is := []) (As := [.int p1]) (ws' := [(a0, .inr (3, [.ref b0_0, .int x0_parts, .int x0_state, .int x0_press, .int x0_letters, .int x0_mould, .int x0_year, .int x0_yearScale]))]) (st := []) X (c_X3_isDigit l D cI cS cL p1 r1 hc) gX3_acceptsMouldDigit_X3_isDigit rfl ⟨rfl, rfl⟩ hd_X3_isDigit.2 ⟨Nat.le_of_ble_eq_true rfl, Nat.le_of_ble_eq_true rfl⟩ ⟨Nat.zero_le _, Nat.zero_le _⟩ rfl rfl rfl rfl rfl (Nat.le_of_ble_eq_true rfl) rfl dX3_acceptsMouldDigit_1 ?_
  refine g_if_ne (tgt := 9) X h dX3_acceptsMouldDigit_4 (by decide) (fun h => ?_) (fun h => ?_)
  · refine g_aload_n X (j := 0) dX3_acceptsMouldDigit_9 rfl ?_
    refine g_bipush (v := 10) X dX3_acceptsMouldDigit_10 (by decide) ?_
    refine g_aload_n X (j := 0) dX3_acceptsMouldDigit_12 rfl ?_
    refine g_get (q0 := 0) (k := 5) (ci := 3) X in_X3_acceptsMouldDigit_X3 fl_X3_acceptsMouldDigit_38 rfl rfl (Nat.le_of_ble_eq_true rfl) rfl dX3_acceptsMouldDigit_13 ?_
    refine g_imul X dX3_acceptsMouldDigit_16 ?_
    refine g_iload_n X (j := 1) dX3_acceptsMouldDigit_17 rfl ?_
    refine g_bipush (v := 48) X dX3_acceptsMouldDigit_18 (by decide) ?_
    refine g_isub X dX3_acceptsMouldDigit_20 ?_
    refine g_iadd X dX3_acceptsMouldDigit_21 ?_
    refine g_put (q0 := 0) (k := 5) (ci := 3) (ws' := [(a0, .inr (3, [.ref b0_0, .int x0_parts, .int x0_state, .int x0_press, .int x0_letters, .int (((10 : Int32) * x0_mould) + (p1 - 48)), .int x0_year, .int x0_yearScale]))]) X tyX3_ok nmX3 in_X3_acceptsMouldDigit_X3 fl_X3_acceptsMouldDigit_38 rfl rfl (Nat.le_of_ble_eq_true rfl) rfl rfl rfl (Nat.le_of_ble_eq_true rfl) dX3_acceptsMouldDigit_22 rfl ?_
    refine g_aload_n X (j := 0) dX3_acceptsMouldDigit_25 rfl ?_
    refine g_aload_n X (j := 0) dX3_acceptsMouldDigit_26 rfl ?_
    refine g_get (q0 := 0) (k := 2) (ci := 3) X in_X3_acceptsMouldDigit_X3 fl_X3_acceptsMouldDigit_22 rfl rfl (Nat.le_of_ble_eq_true rfl) rfl dX3_acceptsMouldDigit_27 ?_
    refine g_iconst (v := 4) X dX3_acceptsMouldDigit_30 (by decide) ?_
    refine jn_g h (u1 fun s2 => [(a0, .inr (3, [.ref b0_0, .int x0_parts, .int x0_state, .int x0_press, .int x0_letters, .int (((10 : Int32) * x0_mould) + (p1 - 48)), .int x0_year, .int x0_yearScale]))]) (u1 fun s2 => []) (u1 fun s2 => [.int s2, .ref a0]) 47 ?_ ?_
    · rintro s2 h
      dsimp only [u1] at h ⊢
      refine g_put (q0 := 0) (k := 2) (ci := 3) (ws' := [(a0, .inr (3, [.ref b0_0, .int x0_parts, .int s2, .int x0_press, .int x0_letters, .int (((10 : Int32) * x0_mould) + (p1 - 48)), .int x0_year, .int x0_yearScale]))]) X tyX3_ok nmX3 in_X3_acceptsMouldDigit_X3 fl_X3_acceptsMouldDigit_22 rfl rfl (Nat.le_of_ble_eq_true rfl) rfl rfl rfl (Nat.le_of_ble_eq_true rfl) dX3_acceptsMouldDigit_47 rfl ?_
      refine g_iconst (v := 1) X dX3_acceptsMouldDigit_50 (by decide) ?_
      have h := Option.some.inj h
      simp only [Prod.mk.injEq] at h
      obtain ⟨rfl, rfl, rfl⟩ := h
      exact g_zret X hr hlk (by decide) dX3_acceptsMouldDigit_51 rfl rfl
    · intro K3 hK3 h
      refine jn_g h (u0 ([(a0, .inr (3, [.ref b0_0, .int x0_parts, .int x0_state, .int x0_press, .int x0_letters, .int (((10 : Int32) * x0_mould) + (p1 - 48)), .int x0_year, .int x0_yearScale]))])) (u0 ([])) (u0 ([.ref a0])) 45 ?_ ?_
      · rintro ⟨⟩ h
        dsimp only [u0] at h ⊢
        refine g_bipush (v := 6) X dX3_acceptsMouldDigit_45 (by decide) ?_
        exact hK3 6 h
      · intro K4 hK4 h
        refine g_icmp_ne (tgt := 45) X h dX3_acceptsMouldDigit_31 (by decide) (fun h => ?_) (fun h => ?_)
        · refine g_lv (lv' := []) [] rfl ?_
          exact hK4 () h
        · refine g_aload_n X (j := 0) dX3_acceptsMouldDigit_34 rfl ?_
          refine g_get (q0 := 0) (k := 5) (ci := 3) X in_X3_acceptsMouldDigit_X3 fl_X3_acceptsMouldDigit_38 rfl rfl (Nat.le_of_ble_eq_true rfl) rfl dX3_acceptsMouldDigit_35 ?_
          refine g_if_le (tgt := 45) X h dX3_acceptsMouldDigit_38 (by decide) (fun h => ?_) (fun h => ?_)
          · refine g_lv (lv' := []) [] rfl ?_
            exact hK4 () h
          · refine g_iconst (v := 5) X dX3_acceptsMouldDigit_41 (by decide) ?_
            refine g_goto (tgt := 47) X dX3_acceptsMouldDigit_42 (by decide) ?_
            refine g_lv (lv' := []) [] rfl ?_
            exact hK3 5 h
  · refine g_iconst (v := 0) X dX3_acceptsMouldDigit_7 (by decide) ?_
    have h := Option.some.inj h
    simp only [Prod.mk.injEq] at h
    obtain ⟨rfl, rfl, rfl⟩ := h
    exact g_zret X hr hlk (by decide) dX3_acceptsMouldDigit_8 rfl rfl
def f_X3_acceptsYearDigit (p1 : Int32) (x0_state : Int32) (x0_year : Int32) (x0_yearScale : Int32) : Option (Int32 × Int32 × Int32 × Int32) := (f_X3_isDigit p1).bind (u1 fun (r1 : Int32) => (if r1 = 0 then some (0, x0_state, x0_year, x0_yearScale) else (jn (u0 (some (0, x0_state, x0_year, x0_yearScale))) (fun K2 => (if ((((((10 : Int32) * x0_year) + (p1 - 48)) * x0_yearScale) + x0_yearScale) - 1) < 1450 then K2 () else (if ((((10 : Int32) * x0_year) + (p1 - 48)) * x0_yearScale) ≤ 1999 then gZ 10 ((jn (u1 fun (s3 : Int32) => some (1, s3, (((10 : Int32) * x0_year) + (p1 - 48)), (x0_yearScale / 10))) (fun K4 => (if (x0_yearScale / 10) ≤ 0 then K4 8 else K4 7)))) else K2 ()))))))
theorem in_X3_acceptsYearDigit_X3 : ∀ w ∈ wsX30, w ∈ wsX3_acceptsYearDigit := by decide +kernel
theorem fl_X3_acceptsYearDigit_41 : Cond.fieldLink RX3 41 "ColophonHunt$TextReader" "year" "I" ∈ wsX3_acceptsYearDigit := by decide +kernel
theorem fl_X3_acceptsYearDigit_81 : Cond.fieldLink RX3 81 "ColophonHunt$TextReader" "yearScale" "I" ∈ wsX3_acceptsYearDigit := by decide +kernel
theorem fl_X3_acceptsYearDigit_22 : Cond.fieldLink RX3 22 "ColophonHunt$TextReader" "state" "I" ∈ wsX3_acceptsYearDigit := by decide +kernel
theorem hd_X3_acceptsYearDigit : yX3_acceptsYearDigit.cls = RX3 ∧ yX3_acceptsYearDigit.cls ≠ "java/lang/invoke/MethodHandle" ∧ yX3_acceptsYearDigit.cls ≠ "java/lang/invoke/VarHandle" ∧ (parseMethodDescriptor yX3_acceptsYearDigit.desc).map (fun d => d.parameters.length) = some 1 := by decide +kernel
set_option maxRecDepth 100000 in
set_option maxHeartbeats 4000000 in
theorem c_X3_acceptsYearDigit (l : Launch) (D : va_G) (cI cS cL : ClassId) (a0 : Nat) (b0_0 : Nat) (p1 : Int32) (x0_parts : Int32) (x0_state : Int32) (x0_press : Int32) (x0_letters : Int32) (x0_mould : Int32) (x0_year : Int32) (x0_yearScale : Int32) (rr : Int32) (y0 : Int32) (y1 : Int32) (y2 : Int32) (hc : f_X3_acceptsYearDigit p1 x0_state x0_year x0_yearScale = some (rr, y0, y1, y2)) : KM l yX3_acceptsYearDigit wsX3_acceptsYearDigit { frames := 1, cells := 0, slots := 0, locals := 20 } D (tyS cI cS cL) [.ref a0, .int p1] [(a0, .inr (3, [.ref b0_0, .int x0_parts, .int x0_state, .int x0_press, .int x0_letters, .int x0_mould, .int x0_year, .int x0_yearScale]))] (some (.int rr)) (fun w => w = [(a0, .inr (3, [.ref b0_0, .int x0_parts, .int y0, .int x0_press, .int x0_letters, .int x0_mould, .int y1, .int y2]))]) 0 0 := by
  refine g_entry (cc := cX3_acceptsYearDigit) (nL := 5) (rt := (some .boolean)) (by decide) rfl (Nat.le_of_ble_eq_true rfl) ?_
  intro p e s m args below meth c A (X : GC p s m args c cX3_acceptsYearDigit 5 RX3 wsX3_acceptsYearDigit D (tyS cI cS cL) A) hr hlk _ _
  have h := hc
  unfold f_X3_acceptsYearDigit at h
  refine g_lv (lv' := [(0, .ref a0), (1, .int p1)]) [0, 1] rfl ?_
  refine g_iload_n X (j := 1) dX3_acceptsYearDigit_0 rfl ?_
  obtain ⟨r1, hc, h⟩ := bd1 h
  refine g_callS (is := []) (As := [.int p1]) (ws' := [(a0, .inr (3, [.ref b0_0, .int x0_parts, .int x0_state, .int x0_press, .int x0_letters, .int x0_mould, .int x0_year, .int x0_yearScale]))]) (st := []) X (c_X3_isDigit l D cI cS cL p1 r1 hc) gX3_acceptsYearDigit_X3_isDigit rfl ⟨rfl, rfl⟩ hd_X3_isDigit.2 ⟨Nat.le_of_ble_eq_true rfl, Nat.le_of_ble_eq_true rfl⟩ ⟨Nat.zero_le _, Nat.zero_le _⟩ rfl rfl rfl rfl rfl (Nat.le_of_ble_eq_true rfl) rfl dX3_acceptsYearDigit_1 ?_
  refine g_if_ne (tgt := 9) X h dX3_acceptsYearDigit_4 (by decide) (fun h => ?_) (fun h => ?_)
  · refine g_bipush (v := 10) X dX3_acceptsYearDigit_9 (by decide) ?_
    refine g_aload_n X (j := 0) dX3_acceptsYearDigit_11 rfl ?_
    refine g_get (q0 := 0) (k := 6) (ci := 3) X in_X3_acceptsYearDigit_X3 fl_X3_acceptsYearDigit_41 rfl rfl (Nat.le_of_ble_eq_true rfl) rfl dX3_acceptsYearDigit_12 ?_
    refine g_imul X dX3_acceptsYearDigit_15 ?_
    refine g_iload_n X (j := 1) dX3_acceptsYearDigit_16 rfl ?_
    refine g_bipush (v := 48) X dX3_acceptsYearDigit_17 (by decide) ?_
    refine g_isub X dX3_acceptsYearDigit_19 ?_
    refine g_iadd X dX3_acceptsYearDigit_20 ?_
    refine g_istore_n (lv' := [(2, .int (((10 : Int32) * x0_year) + (p1 - 48))), (0, .ref a0), (1, .int p1)]) X dX3_acceptsYearDigit_21 rfl (by decide) rfl ?_
    refine g_iload_n X (j := 0) dX3_acceptsYearDigit_22 rfl ?_
    refine g_aload_n X (j := 1) dX3_acceptsYearDigit_23 rfl ?_
    refine g_get (q0 := 0) (k := 7) (ci := 3) X in_X3_acceptsYearDigit_X3 fl_X3_acceptsYearDigit_81 rfl rfl (Nat.le_of_ble_eq_true rfl) rfl dX3_acceptsYearDigit_24 ?_
    refine g_imul X dX3_acceptsYearDigit_27 ?_
    refine g_istore_n (lv' := [(3, .int ((((10 : Int32) * x0_year) + (p1 - 48)) * x0_yearScale)), (2, .int (((10 : Int32) * x0_year) + (p1 - 48))), (0, .ref a0), (1, .int p1)]) X dX3_acceptsYearDigit_28 rfl (by decide) rfl ?_
    refine g_iload_n X (j := 0) dX3_acceptsYearDigit_29 rfl ?_
    refine g_aload_n X (j := 2) dX3_acceptsYearDigit_30 rfl ?_
    refine g_get (q0 := 0) (k := 7) (ci := 3) X in_X3_acceptsYearDigit_X3 fl_X3_acceptsYearDigit_81 rfl rfl (Nat.le_of_ble_eq_true rfl) rfl dX3_acceptsYearDigit_31 ?_
    refine g_iadd X dX3_acceptsYearDigit_34 ?_
    refine g_iconst (v := 1) X dX3_acceptsYearDigit_35 (by decide) ?_
    refine g_isub X dX3_acceptsYearDigit_36 ?_
    refine g_istore (lv' := [(4, .int ((((((10 : Int32) * x0_year) + (p1 - 48)) * x0_yearScale) + x0_yearScale) - 1)), (3, .int ((((10 : Int32) * x0_year) + (p1 - 48)) * x0_yearScale)), (2, .int (((10 : Int32) * x0_year) + (p1 - 48))), (0, .ref a0), (1, .int p1)]) X dX3_acceptsYearDigit_37 (by decide) rfl ?_
    refine g_iload X (j := 0) dX3_acceptsYearDigit_39 rfl ?_
    refine g_sipush (v := 1450) X dX3_acceptsYearDigit_41 (by decide) ?_
    refine jn_g h (u0 ([(a0, .inr (3, [.ref b0_0, .int x0_parts, .int x0_state, .int x0_press, .int x0_letters, .int x0_mould, .int x0_year, .int x0_yearScale]))])) (u0 ([])) (u0 ([])) 54 ?_ ?_
    · rintro ⟨⟩ h
      dsimp only [u0] at h ⊢
      refine g_iconst (v := 0) X dX3_acceptsYearDigit_54 (by decide) ?_
      have h := Option.some.inj h
      simp only [Prod.mk.injEq] at h
      obtain ⟨rfl, rfl, rfl, rfl⟩ := h
      exact g_zret X hr hlk (by decide) dX3_acceptsYearDigit_55 rfl rfl
    · intro K2 hK2 h
      refine g_icmp_lt (tgt := 54) X h dX3_acceptsYearDigit_44 (by decide) (fun h => ?_) (fun h => ?_)
      · refine g_lv (lv' := []) [] rfl ?_
        exact hK2 () h
      · refine g_iload_n X (j := 1) dX3_acceptsYearDigit_47 rfl ?_
        refine g_sipush (v := 1999) X dX3_acceptsYearDigit_48 (by decide) ?_
        refine g_icmp_le (tgt := 56) X h dX3_acceptsYearDigit_51 (by decide) (fun h => ?_) (fun h => ?_)
        · refine g_aload_n X (j := 3) dX3_acceptsYearDigit_56 rfl ?_
          refine g_iload_n X (j := 2) dX3_acceptsYearDigit_57 rfl ?_
          refine g_put (q0 := 0) (k := 6) (ci := 3) (ws' := [(a0, .inr (3, [.ref b0_0, .int x0_parts, .int x0_state, .int x0_press, .int x0_letters, .int x0_mould, .int (((10 : Int32) * x0_year) + (p1 - 48)), .int x0_yearScale]))]) X tyX3_ok nmX3 in_X3_acceptsYearDigit_X3 fl_X3_acceptsYearDigit_41 rfl rfl (Nat.le_of_ble_eq_true rfl) rfl rfl rfl (Nat.le_of_ble_eq_true rfl) dX3_acceptsYearDigit_58 rfl ?_
          refine g_aload_n X (j := 3) dX3_acceptsYearDigit_61 rfl ?_
          refine g_aload_n X (j := 3) dX3_acceptsYearDigit_62 rfl ?_
          refine g_get (q0 := 0) (k := 7) (ci := 3) X in_X3_acceptsYearDigit_X3 fl_X3_acceptsYearDigit_81 rfl rfl (Nat.le_of_ble_eq_true rfl) rfl dX3_acceptsYearDigit_63 ?_
          refine g_bipush (v := 10) X dX3_acceptsYearDigit_66 (by decide) ?_
          refine g_idiv X h dX3_acceptsYearDigit_68 (fun h => ?_)
          refine g_put (q0 := 0) (k := 7) (ci := 3) (ws' := [(a0, .inr (3, [.ref b0_0, .int x0_parts, .int x0_state, .int x0_press, .int x0_letters, .int x0_mould, .int (((10 : Int32) * x0_year) + (p1 - 48)), .int (x0_yearScale / 10)]))]) X tyX3_ok nmX3 in_X3_acceptsYearDigit_X3 fl_X3_acceptsYearDigit_81 rfl rfl (Nat.le_of_ble_eq_true rfl) rfl rfl rfl (Nat.le_of_ble_eq_true rfl) dX3_acceptsYearDigit_69 rfl ?_
          refine g_aload_n X (j := 3) dX3_acceptsYearDigit_72 rfl ?_
          refine g_aload_n X (j := 3) dX3_acceptsYearDigit_73 rfl ?_
          refine g_get (q0 := 0) (k := 7) (ci := 3) X in_X3_acceptsYearDigit_X3 fl_X3_acceptsYearDigit_81 rfl rfl (Nat.le_of_ble_eq_true rfl) rfl dX3_acceptsYearDigit_74 ?_
          refine jn_g h (u1 fun s3 => [(a0, .inr (3, [.ref b0_0, .int x0_parts, .int x0_state, .int x0_press, .int x0_letters, .int x0_mould, .int (((10 : Int32) * x0_year) + (p1 - 48)), .int (x0_yearScale / 10)]))]) (u1 fun s3 => []) (u1 fun s3 => [.int s3, .ref a0]) 87 ?_ ?_
          · rintro s3 h
            dsimp only [u1] at h ⊢
            refine g_put (q0 := 0) (k := 2) (ci := 3) (ws' := [(a0, .inr (3, [.ref b0_0, .int x0_parts, .int s3, .int x0_press, .int x0_letters, .int x0_mould, .int (((10 : Int32) * x0_year) + (p1 - 48)), .int (x0_yearScale / 10)]))]) X tyX3_ok nmX3 in_X3_acceptsYearDigit_X3 fl_X3_acceptsYearDigit_22 rfl rfl (Nat.le_of_ble_eq_true rfl) rfl rfl rfl (Nat.le_of_ble_eq_true rfl) dX3_acceptsYearDigit_87 rfl ?_
            refine g_iconst (v := 1) X dX3_acceptsYearDigit_90 (by decide) ?_
            have h := Option.some.inj h
            simp only [Prod.mk.injEq] at h
            obtain ⟨rfl, rfl, rfl, rfl⟩ := h
            exact g_zret X hr hlk (by decide) dX3_acceptsYearDigit_91 rfl rfl
          · intro K4 hK4 h
            refine g_if_le (tgt := 85) X h dX3_acceptsYearDigit_77 (by decide) (fun h => ?_) (fun h => ?_)
            · refine g_bipush (v := 8) X dX3_acceptsYearDigit_85 (by decide) ?_
              refine g_lv (lv' := []) [] rfl ?_
              exact hK4 8 h
            · refine g_bipush (v := 7) X dX3_acceptsYearDigit_80 (by decide) ?_
              refine g_goto (tgt := 87) X dX3_acceptsYearDigit_82 (by decide) ?_
              refine g_lv (lv' := []) [] rfl ?_
              exact hK4 7 h
        · refine g_lv (lv' := []) [] rfl ?_
          exact hK2 () h
  · refine g_iconst (v := 0) X dX3_acceptsYearDigit_7 (by decide) ?_
    have h := Option.some.inj h
    simp only [Prod.mk.injEq] at h
    obtain ⟨rfl, rfl, rfl, rfl⟩ := h
    exact g_zret X hr hlk (by decide) dX3_acceptsYearDigit_8 rfl rfl
def f_X3_accepts (p1 : Int32) (x0_parts : Int32) (x0_state : Int32) (x0_press : Int32) (x0_letters : Int32) (x0_mould : Int32) (x0_year : Int32) (x0_yearScale : Int32) (x1_size : Int32) (f2 : Nat → Int32) (f3 : Nat → Int32) (f4 : Nat → Int32) (f5 : Nat → Int32) : Option (Int32 × Int32 × Int32 × Int32 × Int32 × Int32 × Int32 × Int32 × Int32 × (Nat → Int32) × (Nat → Int32) × (Nat → Int32) × (Nat → Int32)) := (if x0_state < 0 ∨ 7 < x0_state then (f_X3_acceptsPartEnd p1 x0_state x0_press x0_letters x0_mould x0_year x1_size f2 f3 f4 f5).bind (u7 fun (r1 : Int32) (o2 : Int32) (o3 : Int32) (o4 : Nat → Int32) (o5 : Nat → Int32) (o6 : Nat → Int32) (o7 : Nat → Int32) => gB r1 (some (r1, x0_parts, o2, x0_press, x0_letters, x0_mould, x0_year, x0_yearScale, o3, o4, o5, o6, o7))) else (if x0_state = 0 then (f_X3_acceptsPress p1 x0_parts x0_state x0_press x0_letters x0_mould x0_year).bind (u7 fun (r8 : Int32) (o9 : Int32) (o10 : Int32) (o11 : Int32) (o12 : Int32) (o13 : Int32) (o14 : Int32) => gB r8 (some (r8, o9, o10, o11, o12, o13, o14, x0_yearScale, x1_size, f2, f3, f4, f5))) else (if x0_state = 1 then (f_X3_acceptsNoLetter p1 x0_state).bind (u2 fun (r15 : Int32) (o16 : Int32) => (jn (u3 fun (w17 : Int32) (w18 : Int32) (s19 : Int32) => gB s19 (some (s19, x0_parts, w18, x0_press, w17, x0_mould, x0_year, x0_yearScale, x1_size, f2, f3, f4, f5))) (fun K20 => jn (u2 fun (w21 : Int32) (w22 : Int32) => K20 (w21, w22, 1)) (fun K23 => (if r15 = 0 then (f_X3_acceptsLetter p1 o16 x0_letters).bind (u3 fun (r24 : Int32) (o25 : Int32) (o26 : Int32) => (if r24 = 0 then K20 (o26, o25, 0) else K23 (o26, o25))) else K23 (x0_letters, o16)))))) else (if x0_state = 2 then (f_X3_acceptsLetter p1 x0_state x0_letters).bind (u3 fun (r27 : Int32) (o28 : Int32) (o29 : Int32) => (jn (u10 fun (w30 : Int32) (w31 : Int32) (w32 : Int32) (w33 : Int32) (w34 : Int32) (w35 : Nat → Int32) (w36 : Nat → Int32) (w37 : Nat → Int32) (w38 : Nat → Int32) (s39 : Int32) => gB s39 (some (s39, x0_parts, w31, x0_press, o29, w30, w32, w33, w34, w35, w36, w37, w38))) (fun K40 => jn (u9 fun (w41 : Int32) (w42 : Int32) (w43 : Int32) (w44 : Int32) (w45 : Int32) (w46 : Nat → Int32) (w47 : Nat → Int32) (w48 : Nat → Int32) (w49 : Nat → Int32) => K40 (w41, w42, w43, w44, w45, w46, w47, w48, w49, 1)) (fun K50 => (if r27 = 0 then (f_X3_acceptsMouldSign p1 o28 x0_mould).bind (u3 fun (r51 : Int32) (o52 : Int32) (o53 : Int32) => (if r51 = 0 then (f_X3_acceptsFromYear p1 o52 x0_press o29 o53 x0_year x0_yearScale x1_size f2 f3 f4 f5).bind (u9 fun (r54 : Int32) (o55 : Int32) (o56 : Int32) (o57 : Int32) (o58 : Int32) (o59 : Nat → Int32) (o60 : Nat → Int32) (o61 : Nat → Int32) (o62 : Nat → Int32) => (if r54 = 0 then K40 (o53, o55, o56, o57, o58, o59, o60, o61, o62, 0) else K50 (o53, o55, o56, o57, o58, o59, o60, o61, o62))) else K50 (o53, o52, x0_year, x0_yearScale, x1_size, f2, f3, f4, f5))) else K50 (x0_mould, o28, x0_year, x0_yearScale, x1_size, f2, f3, f4, f5)))))) else (if x0_state = 3 then (f_X3_acceptsMouldSign p1 x0_state x0_mould).bind (u3 fun (r63 : Int32) (o64 : Int32) (o65 : Int32) => (jn (u9 fun (w66 : Int32) (w67 : Int32) (w68 : Int32) (w69 : Int32) (w70 : Nat → Int32) (w71 : Nat → Int32) (w72 : Nat → Int32) (w73 : Nat → Int32) (s74 : Int32) => gB s74 (some (s74, x0_parts, w66, x0_press, x0_letters, o65, w67, w68, w69, w70, w71, w72, w73))) (fun K75 => jn (u8 fun (w76 : Int32) (w77 : Int32) (w78 : Int32) (w79 : Int32) (w80 : Nat → Int32) (w81 : Nat → Int32) (w82 : Nat → Int32) (w83 : Nat → Int32) => K75 (w76, w77, w78, w79, w80, w81, w82, w83, 1)) (fun K84 => (if r63 = 0 then (f_X3_acceptsFromYear p1 o64 x0_press x0_letters o65 x0_year x0_yearScale x1_size f2 f3 f4 f5).bind (u9 fun (r85 : Int32) (o86 : Int32) (o87 : Int32) (o88 : Int32) (o89 : Int32) (o90 : Nat → Int32) (o91 : Nat → Int32) (o92 : Nat → Int32) (o93 : Nat → Int32) => (if r85 = 0 then K75 (o86, o87, o88, o89, o90, o91, o92, o93, 0) else K84 (o86, o87, o88, o89, o90, o91, o92, o93))) else K84 (o64, x0_year, x0_yearScale, x1_size, f2, f3, f4, f5)))))) else (if x0_state = 4 then (f_X3_acceptsMouldDigit p1 x0_state x0_mould).bind (u3 fun (r94 : Int32) (o95 : Int32) (o96 : Int32) => gB r94 (some (r94, x0_parts, o95, x0_press, x0_letters, o96, x0_year, x0_yearScale, x1_size, f2, f3, f4, f5))) else (if x0_state = 5 then (f_X3_acceptsMouldDigit p1 x0_state x0_mould).bind (u3 fun (r97 : Int32) (o98 : Int32) (o99 : Int32) => (jn (u9 fun (w100 : Int32) (w101 : Int32) (w102 : Int32) (w103 : Int32) (w104 : Nat → Int32) (w105 : Nat → Int32) (w106 : Nat → Int32) (w107 : Nat → Int32) (s108 : Int32) => gB s108 (some (s108, x0_parts, w100, x0_press, x0_letters, o99, w101, w102, w103, w104, w105, w106, w107))) (fun K109 => jn (u8 fun (w110 : Int32) (w111 : Int32) (w112 : Int32) (w113 : Int32) (w114 : Nat → Int32) (w115 : Nat → Int32) (w116 : Nat → Int32) (w117 : Nat → Int32) => K109 (w110, w111, w112, w113, w114, w115, w116, w117, 1)) (fun K118 => (if r97 = 0 then (f_X3_acceptsFromYear p1 o98 x0_press x0_letters o99 x0_year x0_yearScale x1_size f2 f3 f4 f5).bind (u9 fun (r119 : Int32) (o120 : Int32) (o121 : Int32) (o122 : Int32) (o123 : Int32) (o124 : Nat → Int32) (o125 : Nat → Int32) (o126 : Nat → Int32) (o127 : Nat → Int32) => (if r119 = 0 then K109 (o120, o121, o122, o123, o124, o125, o126, o127, 0) else K118 (o120, o121, o122, o123, o124, o125, o126, o127))) else K118 (o98, x0_year, x0_yearScale, x1_size, f2, f3, f4, f5)))))) else (if x0_state = 6 then (f_X3_acceptsFromYear p1 x0_state x0_press x0_letters x0_mould x0_year x0_yearScale x1_size f2 f3 f4 f5).bind (u9 fun (r128 : Int32) (o129 : Int32) (o130 : Int32) (o131 : Int32) (o132 : Int32) (o133 : Nat → Int32) (o134 : Nat → Int32) (o135 : Nat → Int32) (o136 : Nat → Int32) => gB r128 (some (r128, x0_parts, o129, x0_press, x0_letters, x0_mould, o130, o131, o132, o133, o134, o135, o136))) else (if x0_state = 7 then (f_X3_acceptsYearDigit p1 x0_state x0_year x0_yearScale).bind (u4 fun (r137 : Int32) (o138 : Int32) (o139 : Int32) (o140 : Int32) => gB r137 (some (r137, x0_parts, o138, x0_press, x0_letters, x0_mould, o139, o140, x1_size, f2, f3, f4, f5))) else none)))))))))
theorem in_X3_accepts_X3 : ∀ w ∈ wsX30, w ∈ wsX3_accepts := by decide +kernel
theorem fl_X3_accepts_22 : Cond.fieldLink RX3 22 "ColophonHunt$TextReader" "state" "I" ∈ wsX3_accepts := by decide +kernel
theorem hd_X3_accepts : yX3_accepts.cls = RX3 ∧ yX3_accepts.cls ≠ "java/lang/invoke/MethodHandle" ∧ yX3_accepts.cls ≠ "java/lang/invoke/VarHandle" ∧ (parseMethodDescriptor yX3_accepts.desc).map (fun d => d.parameters.length) = some 1 := by decide +kernel
set_option maxRecDepth 100000 in
set_option maxHeartbeats 4000000 in
theorem c_X3_accepts (l : Launch) (D : va_G) (cI cS cL : ClassId) (a0 : Nat) (a1 : Nat) (a2 : Nat) (a3 : Nat) (a4 : Nat) (a5 : Nat) (p1 : Int32) (x0_parts : Int32) (x0_state : Int32) (x0_press : Int32) (x0_letters : Int32) (x0_mould : Int32) (x0_year : Int32) (x0_yearScale : Int32) (x1_size : Int32) (f2 : Nat → Int32) (f3 : Nat → Int32) (f4 : Nat → Int32) (f5 : Nat → Int32) (rr : Int32) (y0 : Int32) (y1 : Int32) (y2 : Int32) (y3 : Int32) (y4 : Int32) (y5 : Int32) (y6 : Int32) (y7 : Int32) (y8 : Nat → Int32) (y9 : Nat → Int32) (y10 : Nat → Int32) (y11 : Nat → Int32) (hc : f_X3_accepts p1 x0_parts x0_state x0_press x0_letters x0_mould x0_year x0_yearScale x1_size f2 f3 f4 f5 = some (rr, y0, y1, y2, y3, y4, y5, y6, y7, y8, y9, y10, y11)) : KM l yX3_accepts wsX3_accepts { frames := 4, cells := 0, slots := 0, locals := 86 } D (tyS cI cS cL) [.ref a0, .int p1] [(a0, .inr (3, [.ref a1, .int x0_parts, .int x0_state, .int x0_press, .int x0_letters, .int x0_mould, .int x0_year, .int x0_yearScale])), (a1, .inr (2, [.ref a2, .ref a3, .ref a4, .ref a5, .int x1_size])), (a2, .inl (cI, 10, .inl f2)), (a3, .inl (cI, 10, .inl f3)), (a4, .inl (cI, 10, .inl f4)), (a5, .inl (cI, 10, .inl f5))] (some (.int rr)) (fun w => w = [(a0, .inr (3, [.ref a1, .int y0, .int y1, .int y2, .int y3, .int y4, .int y5, .int y6])), (a1, .inr (2, [.ref a2, .ref a3, .ref a4, .ref a5, .int y7])), (a2, .inl (cI, 10, .inl y8)), (a3, .inl (cI, 10, .inl y9)), (a4, .inl (cI, 10, .inl y10)), (a5, .inl (cI, 10, .inl y11))]) 0 0 := by
  refine g_entry (cc := cX3_accepts) (nL := 2) (rt := (some .boolean)) (by decide) rfl (Nat.le_of_ble_eq_true rfl) ?_
  intro p e s m args below meth c A (X : GC p s m args c cX3_accepts 2 RX3 wsX3_accepts D (tyS cI cS cL) A) hr hlk _ _
  have h := hc
  unfold f_X3_accepts at h
  refine g_lv (lv' := [(0, .ref a0), (1, .int p1)]) [0, 1] rfl ?_
  refine g_aload_n X (j := 0) dX3_accepts_0 rfl ?_
  refine g_get (q0 := 0) (k := 2) (ci := 3) X in_X3_accepts_X3 fl_X3_accepts_22 rfl rfl (Nat.le_of_ble_eq_true rfl) rfl dX3_accepts_1 ?_
  refine g_tabOut (tgt := 172) X 0 7 h (by decide) (by decide) dX3_accepts_4 (by decide) (fun h => ?_) (fun h => ?_)
  · refine g_aload_n X (j := 0) dX3_accepts_172 rfl ?_
    refine g_iload_n X (j := 1) dX3_accepts_173 rfl ?_
    obtain ⟨r1, o2, o3, o4, o5, o6, o7, hc, h⟩ := bd7 h
    refine g_callV (q0 := 0) (ci := 3) (is := [0, 1, 2, 3, 4, 5]) (As := [.int p1]) (ws' := [(a0, .inr (3, [.ref a1, .int x0_parts, .int o2, .int x0_press, .int x0_letters, .int x0_mould, .int x0_year, .int x0_yearScale])), (a1, .inr (2, [.ref a2, .ref a3, .ref a4, .ref a5, .int o3])), (a2, .inl (cI, 10, .inl o4)), (a3, .inl (cI, 10, .inl o5)), (a4, .inl (cI, 10, .inl o6)), (a5, .inl (cI, 10, .inl o7))]) (st := []) X (c_X3_acceptsPartEnd l D cI cS cL a0 a1 a2 a3 a4 a5 p1 x0_parts x0_state x0_press x0_letters x0_mould x0_year x0_yearScale x1_size f2 f3 f4 f5 r1 o2 o3 o4 o5 o6 o7 hc) gX3_accepts_X3_acceptsPartEnd rfl ⟨rfl, rfl⟩ hd_X3_acceptsPartEnd ⟨Nat.le_of_ble_eq_true rfl, Nat.le_of_ble_eq_true rfl⟩ ⟨Nat.zero_le _, Nat.zero_le _⟩ rfl rfl rfl rfl rfl rfl rfl (Nat.le_of_ble_eq_true rfl) rfl dX3_accepts_174 ?_
    obtain ⟨hz, h⟩ := gB_e h
    have h := Option.some.inj h
    simp only [Prod.mk.injEq] at h
    obtain ⟨rfl, rfl, rfl, rfl, rfl, rfl, rfl, rfl, rfl, rfl, rfl, rfl, rfl⟩ := h
    exact g_zret X hr hlk hz dX3_accepts_177 rfl rfl
  refine g_tabIn (tgt := 52) X 0 h dX3_accepts_4 (by decide) (by decide) rfl (by decide) (fun h => ?_) (fun h => ?_)
  · refine g_aload_n X (j := 0) dX3_accepts_52 rfl ?_
    refine g_iload_n X (j := 1) dX3_accepts_53 rfl ?_
    obtain ⟨r8, o9, o10, o11, o12, o13, o14, hc, h⟩ := bd7 h
    refine g_callV (q0 := 0) (ci := 3) (is := [0]) (As := [.int p1]) (ws' := [(a0, .inr (3, [.ref a1, .int o9, .int o10, .int o11, .int o12, .int o13, .int o14, .int x0_yearScale])), (a1, .inr (2, [.ref a2, .ref a3, .ref a4, .ref a5, .int x1_size])), (a2, .inl (cI, 10, .inl f2)), (a3, .inl (cI, 10, .inl f3)), (a4, .inl (cI, 10, .inl f4)), (a5, .inl (cI, 10, .inl f5))]) (st := []) X (c_X3_acceptsPress l D cI cS cL a0 a1 p1 x0_parts x0_state x0_press x0_letters x0_mould x0_year x0_yearScale r8 o9 o10 o11 o12 o13 o14 hc) gX3_accepts_X3_acceptsPress rfl ⟨rfl, rfl⟩ hd_X3_acceptsPress ⟨Nat.le_of_ble_eq_true rfl, Nat.le_of_ble_eq_true rfl⟩ ⟨Nat.zero_le _, Nat.zero_le _⟩ rfl rfl rfl rfl rfl rfl rfl (Nat.le_of_ble_eq_true rfl) rfl dX3_accepts_54 ?_
    obtain ⟨hz, h⟩ := gB_e h
    have h := Option.some.inj h
    simp only [Prod.mk.injEq] at h
    obtain ⟨rfl, rfl, rfl, rfl, rfl, rfl, rfl, rfl, rfl, rfl, rfl, rfl, rfl⟩ := h
    exact g_zret X hr hlk hz dX3_accepts_57 rfl rfl
  refine g_tabIn (tgt := 58) X 1 h dX3_accepts_4 (by decide) (by decide) rfl (by decide) (fun h => ?_) (fun h => ?_)
  · refine g_aload_n X (j := 0) dX3_accepts_58 rfl ?_
    refine g_iload_n X (j := 1) dX3_accepts_59 rfl ?_
    obtain ⟨r15, o16, hc, h⟩ := bd2 h
    refine g_callV (q0 := 0) (ci := 3) (is := [0]) (As := [.int p1]) (ws' := [(a0, .inr (3, [.ref a1, .int x0_parts, .int o16, .int x0_press, .int x0_letters, .int x0_mould, .int x0_year, .int x0_yearScale])), (a1, .inr (2, [.ref a2, .ref a3, .ref a4, .ref a5, .int x1_size])), (a2, .inl (cI, 10, .inl f2)), (a3, .inl (cI, 10, .inl f3)), (a4, .inl (cI, 10, .inl f4)), (a5, .inl (cI, 10, .inl f5))]) (st := []) X (c_X3_acceptsNoLetter l D cI cS cL a0 a1 p1 x0_parts x0_state x0_press x0_letters x0_mould x0_year x0_yearScale r15 o16 hc) gX3_accepts_X3_acceptsNoLetter rfl ⟨rfl, rfl⟩ hd_X3_acceptsNoLetter ⟨Nat.le_of_ble_eq_true rfl, Nat.le_of_ble_eq_true rfl⟩ ⟨Nat.zero_le _, Nat.zero_le _⟩ rfl rfl rfl rfl rfl rfl rfl (Nat.le_of_ble_eq_true rfl) rfl dX3_accepts_60 ?_
    refine jn_g h (u3 fun w17 w18 s19 => [(a0, .inr (3, [.ref a1, .int x0_parts, .int w18, .int x0_press, .int w17, .int x0_mould, .int x0_year, .int x0_yearScale])), (a1, .inr (2, [.ref a2, .ref a3, .ref a4, .ref a5, .int x1_size])), (a2, .inl (cI, 10, .inl f2)), (a3, .inl (cI, 10, .inl f3)), (a4, .inl (cI, 10, .inl f4)), (a5, .inl (cI, 10, .inl f5))]) (u3 fun w17 w18 s19 => []) (u3 fun w17 w18 s19 => [.int s19]) 79 ?_ ?_
    · rintro ⟨w17, w18, s19⟩ h
      dsimp only [u3] at h ⊢
      obtain ⟨hz, h⟩ := gB_e h
      have h := Option.some.inj h
      simp only [Prod.mk.injEq] at h
      obtain ⟨rfl, rfl, rfl, rfl, rfl, rfl, rfl, rfl, rfl, rfl, rfl, rfl, rfl⟩ := h
      exact g_zret X hr hlk hz dX3_accepts_79 rfl rfl
    · intro K20 hK20 h
      refine jn_g h (u2 fun w21 w22 => [(a0, .inr (3, [.ref a1, .int x0_parts, .int w22, .int x0_press, .int w21, .int x0_mould, .int x0_year, .int x0_yearScale])), (a1, .inr (2, [.ref a2, .ref a3, .ref a4, .ref a5, .int x1_size])), (a2, .inl (cI, 10, .inl f2)), (a3, .inl (cI, 10, .inl f3)), (a4, .inl (cI, 10, .inl f4)), (a5, .inl (cI, 10, .inl f5))]) (u2 fun w21 w22 => []) (u2 fun w21 w22 => []) 74 ?_ ?_
      · rintro ⟨w21, w22⟩ h
        dsimp only [u2] at h ⊢
        refine g_iconst (v := 1) X dX3_accepts_74 (by decide) ?_
        refine g_goto (tgt := 79) X dX3_accepts_75 (by decide) ?_
        exact hK20 (w21, w22, 1) h
      · intro K23 hK23 h
        refine g_if_ne (tgt := 74) X h dX3_accepts_63 (by decide) (fun h => ?_) (fun h => ?_)
        · refine g_lv (lv' := []) [] rfl ?_
          exact hK23 (x0_letters, o16) h
        · refine g_aload_n X (j := 0) dX3_accepts_66 rfl ?_
          refine g_iload_n X (j := 1) dX3_accepts_67 rfl ?_
          obtain ⟨r24, o25, o26, hc, h⟩ := bd3 h
          refine g_callV (q0 := 0) (ci := 3) (is := [0]) (As := [.int p1]) (ws' := [(a0, .inr (3, [.ref a1, .int x0_parts, .int o25, .int x0_press, .int o26, .int x0_mould, .int x0_year, .int x0_yearScale])), (a1, .inr (2, [.ref a2, .ref a3, .ref a4, .ref a5, .int x1_size])), (a2, .inl (cI, 10, .inl f2)), (a3, .inl (cI, 10, .inl f3)), (a4, .inl (cI, 10, .inl f4)), (a5, .inl (cI, 10, .inl f5))]) (st := []) X (c_X3_acceptsLetter l D cI cS cL a0 a1 p1 x0_parts o16 x0_press x0_letters x0_mould x0_year x0_yearScale r24 o25 o26 hc) gX3_accepts_X3_acceptsLetter rfl ⟨rfl, rfl⟩ hd_X3_acceptsLetter ⟨Nat.le_of_ble_eq_true rfl, Nat.le_of_ble_eq_true rfl⟩ ⟨Nat.zero_le _, Nat.zero_le _⟩ rfl rfl rfl rfl rfl rfl rfl (Nat.le_of_ble_eq_true rfl) rfl dX3_accepts_68 ?_
          refine g_if_eq (tgt := 78) X h dX3_accepts_71 (by decide) (fun h => ?_) (fun h => ?_)
          · refine g_iconst (v := 0) X dX3_accepts_78 (by decide) ?_
            refine g_lv (lv' := []) [] rfl ?_
            exact hK20 (o26, o25, 0) h
          · refine g_lv (lv' := []) [] rfl ?_
            exact hK23 (o26, o25) h
  refine g_tabIn (tgt := 80) X 2 h dX3_accepts_4 (by decide) (by decide) rfl (by decide) (fun h => ?_) (fun h => ?_)
  · refine g_aload_n X (j := 0) dX3_accepts_80 rfl ?_
    refine g_iload_n X (j := 1) dX3_accepts_81 rfl ?_
    obtain ⟨r27, o28, o29, hc, h⟩ := bd3 h
    refine g_callV (q0 := 0) (ci := 3) (is := [0]) (As := [.int p1]) (ws' := [(a0, .inr (3, [.ref a1, .int x0_parts, .int o28, .int x0_press, .int o29, .int x0_mould, .int x0_year, .int x0_yearScale])), (a1, .inr (2, [.ref a2, .ref a3, .ref a4, .ref a5, .int x1_size])), (a2, .inl (cI, 10, .inl f2)), (a3, .inl (cI, 10, .inl f3)), (a4, .inl (cI, 10, .inl f4)), (a5, .inl (cI, 10, .inl f5))]) (st := []) X (c_X3_acceptsLetter l D cI cS cL a0 a1 p1 x0_parts x0_state x0_press x0_letters x0_mould x0_year x0_yearScale r27 o28 o29 hc) gX3_accepts_X3_acceptsLetter rfl ⟨rfl, rfl⟩ hd_X3_acceptsLetter ⟨Nat.le_of_ble_eq_true rfl, Nat.le_of_ble_eq_true rfl⟩ ⟨Nat.zero_le _, Nat.zero_le _⟩ rfl rfl rfl rfl rfl rfl rfl (Nat.le_of_ble_eq_true rfl) rfl dX3_accepts_82 ?_
    refine jn_g h (u10 fun w30 w31 w32 w33 w34 w35 w36 w37 w38 s39 => [(a0, .inr (3, [.ref a1, .int x0_parts, .int w31, .int x0_press, .int o29, .int w30, .int w32, .int w33])), (a1, .inr (2, [.ref a2, .ref a3, .ref a4, .ref a5, .int w34])), (a2, .inl (cI, 10, .inl w35)), (a3, .inl (cI, 10, .inl w36)), (a4, .inl (cI, 10, .inl w37)), (a5, .inl (cI, 10, .inl w38))]) (u10 fun w30 w31 w32 w33 w34 w35 w36 w37 w38 s39 => []) (u10 fun w30 w31 w32 w33 w34 w35 w36 w37 w38 s39 => [.int s39]) 109 ?_ ?_
    · rintro ⟨w30, w31, w32, w33, w34, w35, w36, w37, w38, s39⟩ h
      dsimp only [u10] at h ⊢
      obtain ⟨hz, h⟩ := gB_e h
      have h := Option.some.inj h
      simp only [Prod.mk.injEq] at h
      obtain ⟨rfl, rfl, rfl, rfl, rfl, rfl, rfl, rfl, rfl, rfl, rfl, rfl, rfl⟩ := h
      exact g_zret X hr hlk hz dX3_accepts_109 rfl rfl
    · intro K40 hK40 h
      refine jn_g h (u9 fun w41 w42 w43 w44 w45 w46 w47 w48 w49 => [(a0, .inr (3, [.ref a1, .int x0_parts, .int w42, .int x0_press, .int o29, .int w41, .int w43, .int w44])), (a1, .inr (2, [.ref a2, .ref a3, .ref a4, .ref a5, .int w45])), (a2, .inl (cI, 10, .inl w46)), (a3, .inl (cI, 10, .inl w47)), (a4, .inl (cI, 10, .inl w48)), (a5, .inl (cI, 10, .inl w49))]) (u9 fun w41 w42 w43 w44 w45 w46 w47 w48 w49 => []) (u9 fun w41 w42 w43 w44 w45 w46 w47 w48 w49 => []) 104 ?_ ?_
      · rintro ⟨w41, w42, w43, w44, w45, w46, w47, w48, w49⟩ h
        dsimp only [u9] at h ⊢
        refine g_iconst (v := 1) X dX3_accepts_104 (by decide) ?_
        refine g_goto (tgt := 109) X dX3_accepts_105 (by decide) ?_
        exact hK40 (w41, w42, w43, w44, w45, w46, w47, w48, w49, 1) h
      · intro K50 hK50 h
        refine g_if_ne (tgt := 104) X h dX3_accepts_85 (by decide) (fun h => ?_) (fun h => ?_)
        · refine g_lv (lv' := []) [] rfl ?_
          exact hK50 (x0_mould, o28, x0_year, x0_yearScale, x1_size, f2, f3, f4, f5) h
        · refine g_aload_n X (j := 0) dX3_accepts_88 rfl ?_
          refine g_iload_n X (j := 1) dX3_accepts_89 rfl ?_
          obtain ⟨r51, o52, o53, hc, h⟩ := bd3 h
          refine g_callV (q0 := 0) (ci := 3) (is := [0]) (As := [.int p1]) (ws' := [(a0, .inr (3, [.ref a1, .int x0_parts, .int o52, .int x0_press, .int o29, .int o53, .int x0_year, .int x0_yearScale])), (a1, .inr (2, [.ref a2, .ref a3, .ref a4, .ref a5, .int x1_size])), (a2, .inl (cI, 10, .inl f2)), (a3, .inl (cI, 10, .inl f3)), (a4, .inl (cI, 10, .inl f4)), (a5, .inl (cI, 10, .inl f5))]) (st := []) X (c_X3_acceptsMouldSign l D cI cS cL a0 a1 p1 x0_parts o28 x0_press o29 x0_mould x0_year x0_yearScale r51 o52 o53 hc) gX3_accepts_X3_acceptsMouldSign rfl ⟨rfl, rfl⟩ hd_X3_acceptsMouldSign ⟨Nat.le_of_ble_eq_true rfl, Nat.le_of_ble_eq_true rfl⟩ ⟨Nat.zero_le _, Nat.zero_le _⟩ rfl rfl rfl rfl rfl rfl rfl (Nat.le_of_ble_eq_true rfl) rfl dX3_accepts_90 ?_
          refine g_if_ne (tgt := 104) X h dX3_accepts_93 (by decide) (fun h => ?_) (fun h => ?_)
          · refine g_lv (lv' := []) [] rfl ?_
            exact hK50 (o53, o52, x0_year, x0_yearScale, x1_size, f2, f3, f4, f5) h
          · refine g_aload_n X (j := 0) dX3_accepts_96 rfl ?_
            refine g_iload_n X (j := 1) dX3_accepts_97 rfl ?_
            obtain ⟨r54, o55, o56, o57, o58, o59, o60, o61, o62, hc, h⟩ := bd9 h
            refine g_callV (q0 := 0) (ci := 3) (is := [0, 1, 2, 3, 4, 5]) (As := [.int p1]) (ws' := [(a0, .inr (3, [.ref a1, .int x0_parts, .int o55, .int x0_press, .int o29, .int o53, .int o56, .int o57])), (a1, .inr (2, [.ref a2, .ref a3, .ref a4, .ref a5, .int o58])), (a2, .inl (cI, 10, .inl o59)), (a3, .inl (cI, 10, .inl o60)), (a4, .inl (cI, 10, .inl o61)), (a5, .inl (cI, 10, .inl o62))]) (st := []) X (c_X3_acceptsFromYear l D cI cS cL a0 a1 a2 a3 a4 a5 p1 x0_parts o52 x0_press o29 o53 x0_year x0_yearScale x1_size f2 f3 f4 f5 r54 o55 o56 o57 o58 o59 o60 o61 o62 hc) gX3_accepts_X3_acceptsFromYear rfl ⟨rfl, rfl⟩ hd_X3_acceptsFromYear ⟨Nat.le_of_ble_eq_true rfl, Nat.le_of_ble_eq_true rfl⟩ ⟨Nat.zero_le _, Nat.zero_le _⟩ rfl rfl rfl rfl rfl rfl rfl (Nat.le_of_ble_eq_true rfl) rfl dX3_accepts_98 ?_
            refine g_if_eq (tgt := 108) X h dX3_accepts_101 (by decide) (fun h => ?_) (fun h => ?_)
            · refine g_iconst (v := 0) X dX3_accepts_108 (by decide) ?_
              refine g_lv (lv' := []) [] rfl ?_
              exact hK40 (o53, o55, o56, o57, o58, o59, o60, o61, o62, 0) h
            · refine g_lv (lv' := []) [] rfl ?_
              exact hK50 (o53, o55, o56, o57, o58, o59, o60, o61, o62) h
  refine g_tabIn (tgt := 110) X 3 h dX3_accepts_4 (by decide) (by decide) rfl (by decide) (fun h => ?_) (fun h => ?_)
  · refine g_aload_n X (j := 0) dX3_accepts_110 rfl ?_
    refine g_iload_n X (j := 1) dX3_accepts_111 rfl ?_
    obtain ⟨r63, o64, o65, hc, h⟩ := bd3 h
    refine g_callV (q0 := 0) (ci := 3) (is := [0]) (As := [.int p1]) (ws' := [(a0, .inr (3, [.ref a1, .int x0_parts, .int o64, .int x0_press, .int x0_letters, .int o65, .int x0_year, .int x0_yearScale])), (a1, .inr (2, [.ref a2, .ref a3, .ref a4, .ref a5, .int x1_size])), (a2, .inl (cI, 10, .inl f2)), (a3, .inl (cI, 10, .inl f3)), (a4, .inl (cI, 10, .inl f4)), (a5, .inl (cI, 10, .inl f5))]) (st := []) X (c_X3_acceptsMouldSign l D cI cS cL a0 a1 p1 x0_parts x0_state x0_press x0_letters x0_mould x0_year x0_yearScale r63 o64 o65 hc) gX3_accepts_X3_acceptsMouldSign rfl ⟨rfl, rfl⟩ hd_X3_acceptsMouldSign ⟨Nat.le_of_ble_eq_true rfl, Nat.le_of_ble_eq_true rfl⟩ ⟨Nat.zero_le _, Nat.zero_le _⟩ rfl rfl rfl rfl rfl rfl rfl (Nat.le_of_ble_eq_true rfl) rfl dX3_accepts_112 ?_
    refine jn_g h (u9 fun w66 w67 w68 w69 w70 w71 w72 w73 s74 => [(a0, .inr (3, [.ref a1, .int x0_parts, .int w66, .int x0_press, .int x0_letters, .int o65, .int w67, .int w68])), (a1, .inr (2, [.ref a2, .ref a3, .ref a4, .ref a5, .int w69])), (a2, .inl (cI, 10, .inl w70)), (a3, .inl (cI, 10, .inl w71)), (a4, .inl (cI, 10, .inl w72)), (a5, .inl (cI, 10, .inl w73))]) (u9 fun w66 w67 w68 w69 w70 w71 w72 w73 s74 => []) (u9 fun w66 w67 w68 w69 w70 w71 w72 w73 s74 => [.int s74]) 131 ?_ ?_
    · rintro ⟨w66, w67, w68, w69, w70, w71, w72, w73, s74⟩ h
      dsimp only [u9] at h ⊢
      obtain ⟨hz, h⟩ := gB_e h
      have h := Option.some.inj h
      simp only [Prod.mk.injEq] at h
      obtain ⟨rfl, rfl, rfl, rfl, rfl, rfl, rfl, rfl, rfl, rfl, rfl, rfl, rfl⟩ := h
      exact g_zret X hr hlk hz dX3_accepts_131 rfl rfl
    · intro K75 hK75 h
      refine jn_g h (u8 fun w76 w77 w78 w79 w80 w81 w82 w83 => [(a0, .inr (3, [.ref a1, .int x0_parts, .int w76, .int x0_press, .int x0_letters, .int o65, .int w77, .int w78])), (a1, .inr (2, [.ref a2, .ref a3, .ref a4, .ref a5, .int w79])), (a2, .inl (cI, 10, .inl w80)), (a3, .inl (cI, 10, .inl w81)), (a4, .inl (cI, 10, .inl w82)), (a5, .inl (cI, 10, .inl w83))]) (u8 fun w76 w77 w78 w79 w80 w81 w82 w83 => []) (u8 fun w76 w77 w78 w79 w80 w81 w82 w83 => []) 126 ?_ ?_
      · rintro ⟨w76, w77, w78, w79, w80, w81, w82, w83⟩ h
        dsimp only [u8] at h ⊢
        refine g_iconst (v := 1) X dX3_accepts_126 (by decide) ?_
        refine g_goto (tgt := 131) X dX3_accepts_127 (by decide) ?_
        exact hK75 (w76, w77, w78, w79, w80, w81, w82, w83, 1) h
      · intro K84 hK84 h
        refine g_if_ne (tgt := 126) X h dX3_accepts_115 (by decide) (fun h => ?_) (fun h => ?_)
        · refine g_lv (lv' := []) [] rfl ?_
          exact hK84 (o64, x0_year, x0_yearScale, x1_size, f2, f3, f4, f5) h
        · refine g_aload_n X (j := 0) dX3_accepts_118 rfl ?_
          refine g_iload_n X (j := 1) dX3_accepts_119 rfl ?_
          obtain ⟨r85, o86, o87, o88, o89, o90, o91, o92, o93, hc, h⟩ := bd9 h
          refine g_callV (q0 := 0) (ci := 3) (is := [0, 1, 2, 3, 4, 5]) (As := [.int p1]) (ws' := [(a0, .inr (3, [.ref a1, .int x0_parts, .int o86, .int x0_press, .int x0_letters, .int o65, .int o87, .int o88])), (a1, .inr (2, [.ref a2, .ref a3, .ref a4, .ref a5, .int o89])), (a2, .inl (cI, 10, .inl o90)), (a3, .inl (cI, 10, .inl o91)), (a4, .inl (cI, 10, .inl o92)), (a5, .inl (cI, 10, .inl o93))]) (st := []) X (c_X3_acceptsFromYear l D cI cS cL a0 a1 a2 a3 a4 a5 p1 x0_parts o64 x0_press x0_letters o65 x0_year x0_yearScale x1_size f2 f3 f4 f5 r85 o86 o87 o88 o89 o90 o91 o92 o93 hc) gX3_accepts_X3_acceptsFromYear rfl ⟨rfl, rfl⟩ hd_X3_acceptsFromYear ⟨Nat.le_of_ble_eq_true rfl, Nat.le_of_ble_eq_true rfl⟩ ⟨Nat.zero_le _, Nat.zero_le _⟩ rfl rfl rfl rfl rfl rfl rfl (Nat.le_of_ble_eq_true rfl) rfl dX3_accepts_120 ?_
          refine g_if_eq (tgt := 130) X h dX3_accepts_123 (by decide) (fun h => ?_) (fun h => ?_)
          · refine g_iconst (v := 0) X dX3_accepts_130 (by decide) ?_
            refine g_lv (lv' := []) [] rfl ?_
            exact hK75 (o86, o87, o88, o89, o90, o91, o92, o93, 0) h
          · refine g_lv (lv' := []) [] rfl ?_
            exact hK84 (o86, o87, o88, o89, o90, o91, o92, o93) h
  refine g_tabIn (tgt := 132) X 4 h dX3_accepts_4 (by decide) (by decide) rfl (by decide) (fun h => ?_) (fun h => ?_)
  · refine g_aload_n X (j := 0) dX3_accepts_132 rfl ?_
    refine g_iload_n X (j := 1) dX3_accepts_133 rfl ?_
    obtain ⟨r94, o95, o96, hc, h⟩ := bd3 h
    refine g_callV (q0 := 0) (ci := 3) (is := [0]) (As := [.int p1]) (ws' := [(a0, .inr (3, [.ref a1, .int x0_parts, .int o95, .int x0_press, .int x0_letters, .int o96, .int x0_year, .int x0_yearScale])), (a1, .inr (2, [.ref a2, .ref a3, .ref a4, .ref a5, .int x1_size])), (a2, .inl (cI, 10, .inl f2)), (a3, .inl (cI, 10, .inl f3)), (a4, .inl (cI, 10, .inl f4)), (a5, .inl (cI, 10, .inl f5))]) (st := []) X (c_X3_acceptsMouldDigit l D cI cS cL a0 a1 p1 x0_parts x0_state x0_press x0_letters x0_mould x0_year x0_yearScale r94 o95 o96 hc) gX3_accepts_X3_acceptsMouldDigit rfl ⟨rfl, rfl⟩ hd_X3_acceptsMouldDigit ⟨Nat.le_of_ble_eq_true rfl, Nat.le_of_ble_eq_true rfl⟩ ⟨Nat.zero_le _, Nat.zero_le _⟩ rfl rfl rfl rfl rfl rfl rfl (Nat.le_of_ble_eq_true rfl) rfl dX3_accepts_134 ?_
    obtain ⟨hz, h⟩ := gB_e h
    have h := Option.some.inj h
    simp only [Prod.mk.injEq] at h
    obtain ⟨rfl, rfl, rfl, rfl, rfl, rfl, rfl, rfl, rfl, rfl, rfl, rfl, rfl⟩ := h
    exact g_zret X hr hlk hz dX3_accepts_137 rfl rfl
  refine g_tabIn (tgt := 138) X 5 h dX3_accepts_4 (by decide) (by decide) rfl (by decide) (fun h => ?_) (fun h => ?_)
  · refine g_aload_n X (j := 0) dX3_accepts_138 rfl ?_
    refine g_iload_n X (j := 1) dX3_accepts_139 rfl ?_
    obtain ⟨r97, o98, o99, hc, h⟩ := bd3 h
    refine g_callV (q0 := 0) (ci := 3) (is := [0]) (As := [.int p1]) (ws' := [(a0, .inr (3, [.ref a1, .int x0_parts, .int o98, .int x0_press, .int x0_letters, .int o99, .int x0_year, .int x0_yearScale])), (a1, .inr (2, [.ref a2, .ref a3, .ref a4, .ref a5, .int x1_size])), (a2, .inl (cI, 10, .inl f2)), (a3, .inl (cI, 10, .inl f3)), (a4, .inl (cI, 10, .inl f4)), (a5, .inl (cI, 10, .inl f5))]) (st := []) X (c_X3_acceptsMouldDigit l D cI cS cL a0 a1 p1 x0_parts x0_state x0_press x0_letters x0_mould x0_year x0_yearScale r97 o98 o99 hc) gX3_accepts_X3_acceptsMouldDigit rfl ⟨rfl, rfl⟩ hd_X3_acceptsMouldDigit ⟨Nat.le_of_ble_eq_true rfl, Nat.le_of_ble_eq_true rfl⟩ ⟨Nat.zero_le _, Nat.zero_le _⟩ rfl rfl rfl rfl rfl rfl rfl (Nat.le_of_ble_eq_true rfl) rfl dX3_accepts_140 ?_
    refine jn_g h (u9 fun w100 w101 w102 w103 w104 w105 w106 w107 s108 => [(a0, .inr (3, [.ref a1, .int x0_parts, .int w100, .int x0_press, .int x0_letters, .int o99, .int w101, .int w102])), (a1, .inr (2, [.ref a2, .ref a3, .ref a4, .ref a5, .int w103])), (a2, .inl (cI, 10, .inl w104)), (a3, .inl (cI, 10, .inl w105)), (a4, .inl (cI, 10, .inl w106)), (a5, .inl (cI, 10, .inl w107))]) (u9 fun w100 w101 w102 w103 w104 w105 w106 w107 s108 => []) (u9 fun w100 w101 w102 w103 w104 w105 w106 w107 s108 => [.int s108]) 159 ?_ ?_
    · rintro ⟨w100, w101, w102, w103, w104, w105, w106, w107, s108⟩ h
      dsimp only [u9] at h ⊢
      obtain ⟨hz, h⟩ := gB_e h
      have h := Option.some.inj h
      simp only [Prod.mk.injEq] at h
      obtain ⟨rfl, rfl, rfl, rfl, rfl, rfl, rfl, rfl, rfl, rfl, rfl, rfl, rfl⟩ := h
      exact g_zret X hr hlk hz dX3_accepts_159 rfl rfl
    · intro K109 hK109 h
      refine jn_g h (u8 fun w110 w111 w112 w113 w114 w115 w116 w117 => [(a0, .inr (3, [.ref a1, .int x0_parts, .int w110, .int x0_press, .int x0_letters, .int o99, .int w111, .int w112])), (a1, .inr (2, [.ref a2, .ref a3, .ref a4, .ref a5, .int w113])), (a2, .inl (cI, 10, .inl w114)), (a3, .inl (cI, 10, .inl w115)), (a4, .inl (cI, 10, .inl w116)), (a5, .inl (cI, 10, .inl w117))]) (u8 fun w110 w111 w112 w113 w114 w115 w116 w117 => []) (u8 fun w110 w111 w112 w113 w114 w115 w116 w117 => []) 154 ?_ ?_
      · rintro ⟨w110, w111, w112, w113, w114, w115, w116, w117⟩ h
        dsimp only [u8] at h ⊢
        refine g_iconst (v := 1) X dX3_accepts_154 (by decide) ?_
        refine g_goto (tgt := 159) X dX3_accepts_155 (by decide) ?_
        exact hK109 (w110, w111, w112, w113, w114, w115, w116, w117, 1) h
      · intro K118 hK118 h
        refine g_if_ne (tgt := 154) X h dX3_accepts_143 (by decide) (fun h => ?_) (fun h => ?_)
        · refine g_lv (lv' := []) [] rfl ?_
          exact hK118 (o98, x0_year, x0_yearScale, x1_size, f2, f3, f4, f5) h
        · refine g_aload_n X (j := 0) dX3_accepts_146 rfl ?_
          refine g_iload_n X (j := 1) dX3_accepts_147 rfl ?_
          obtain ⟨r119, o120, o121, o122, o123, o124, o125, o126, o127, hc, h⟩ := bd9 h
          refine g_callV (q0 := 0) (ci := 3) (is := [0, 1, 2, 3, 4, 5]) (As := [.int p1]) (ws' := [(a0, .inr (3, [.ref a1, .int x0_parts, .int o120, .int x0_press, .int x0_letters, .int o99, .int o121, .int o122])), (a1, .inr (2, [.ref a2, .ref a3, .ref a4, .ref a5, .int o123])), (a2, .inl (cI, 10, .inl o124)), (a3, .inl (cI, 10, .inl o125)), (a4, .inl (cI, 10, .inl o126)), (a5, .inl (cI, 10, .inl o127))]) (st := []) X (c_X3_acceptsFromYear l D cI cS cL a0 a1 a2 a3 a4 a5 p1 x0_parts o98 x0_press x0_letters o99 x0_year x0_yearScale x1_size f2 f3 f4 f5 r119 o120 o121 o122 o123 o124 o125 o126 o127 hc) gX3_accepts_X3_acceptsFromYear rfl ⟨rfl, rfl⟩ hd_X3_acceptsFromYear ⟨Nat.le_of_ble_eq_true rfl, Nat.le_of_ble_eq_true rfl⟩ ⟨Nat.zero_le _, Nat.zero_le _⟩ rfl rfl rfl rfl rfl rfl rfl (Nat.le_of_ble_eq_true rfl) rfl dX3_accepts_148 ?_
          refine g_if_eq (tgt := 158) X h dX3_accepts_151 (by decide) (fun h => ?_) (fun h => ?_)
          · refine g_iconst (v := 0) X dX3_accepts_158 (by decide) ?_
            refine g_lv (lv' := []) [] rfl ?_
            exact hK109 (o120, o121, o122, o123, o124, o125, o126, o127, 0) h
          · refine g_lv (lv' := []) [] rfl ?_
            exact hK118 (o120, o121, o122, o123, o124, o125, o126, o127) h
  refine g_tabIn (tgt := 160) X 6 h dX3_accepts_4 (by decide) (by decide) rfl (by decide) (fun h => ?_) (fun h => ?_)
  · refine g_aload_n X (j := 0) dX3_accepts_160 rfl ?_
    refine g_iload_n X (j := 1) dX3_accepts_161 rfl ?_
    obtain ⟨r128, o129, o130, o131, o132, o133, o134, o135, o136, hc, h⟩ := bd9 h
    refine g_callV (q0 := 0) (ci := 3) (is := [0, 1, 2, 3, 4, 5]) (As := [.int p1]) (ws' := [(a0, .inr (3, [.ref a1, .int x0_parts, .int o129, .int x0_press, .int x0_letters, .int x0_mould, .int o130, .int o131])), (a1, .inr (2, [.ref a2, .ref a3, .ref a4, .ref a5, .int o132])), (a2, .inl (cI, 10, .inl o133)), (a3, .inl (cI, 10, .inl o134)), (a4, .inl (cI, 10, .inl o135)), (a5, .inl (cI, 10, .inl o136))]) (st := []) X (c_X3_acceptsFromYear l D cI cS cL a0 a1 a2 a3 a4 a5 p1 x0_parts x0_state x0_press x0_letters x0_mould x0_year x0_yearScale x1_size f2 f3 f4 f5 r128 o129 o130 o131 o132 o133 o134 o135 o136 hc) gX3_accepts_X3_acceptsFromYear rfl ⟨rfl, rfl⟩ hd_X3_acceptsFromYear ⟨Nat.le_of_ble_eq_true rfl, Nat.le_of_ble_eq_true rfl⟩ ⟨Nat.zero_le _, Nat.zero_le _⟩ rfl rfl rfl rfl rfl rfl rfl (Nat.le_of_ble_eq_true rfl) rfl dX3_accepts_162 ?_
    obtain ⟨hz, h⟩ := gB_e h
    have h := Option.some.inj h
    simp only [Prod.mk.injEq] at h
    obtain ⟨rfl, rfl, rfl, rfl, rfl, rfl, rfl, rfl, rfl, rfl, rfl, rfl, rfl⟩ := h
    exact g_zret X hr hlk hz dX3_accepts_165 rfl rfl
  refine g_tabIn (tgt := 166) X 7 h dX3_accepts_4 (by decide) (by decide) rfl (by decide) (fun h => ?_) (fun h => ?_)
  · refine g_aload_n X (j := 0) dX3_accepts_166 rfl ?_
    refine g_iload_n X (j := 1) dX3_accepts_167 rfl ?_
    obtain ⟨r137, o138, o139, o140, hc, h⟩ := bd4 h
    refine g_callV (q0 := 0) (ci := 3) (is := [0]) (As := [.int p1]) (ws' := [(a0, .inr (3, [.ref a1, .int x0_parts, .int o138, .int x0_press, .int x0_letters, .int x0_mould, .int o139, .int o140])), (a1, .inr (2, [.ref a2, .ref a3, .ref a4, .ref a5, .int x1_size])), (a2, .inl (cI, 10, .inl f2)), (a3, .inl (cI, 10, .inl f3)), (a4, .inl (cI, 10, .inl f4)), (a5, .inl (cI, 10, .inl f5))]) (st := []) X (c_X3_acceptsYearDigit l D cI cS cL a0 a1 p1 x0_parts x0_state x0_press x0_letters x0_mould x0_year x0_yearScale r137 o138 o139 o140 hc) gX3_accepts_X3_acceptsYearDigit rfl ⟨rfl, rfl⟩ hd_X3_acceptsYearDigit ⟨Nat.le_of_ble_eq_true rfl, Nat.le_of_ble_eq_true rfl⟩ ⟨Nat.zero_le _, Nat.zero_le _⟩ rfl rfl rfl rfl rfl rfl rfl (Nat.le_of_ble_eq_true rfl) rfl dX3_accepts_168 ?_
    obtain ⟨hz, h⟩ := gB_e h
    have h := Option.some.inj h
    simp only [Prod.mk.injEq] at h
    obtain ⟨rfl, rfl, rfl, rfl, rfl, rfl, rfl, rfl, rfl, rfl, rfl, rfl, rfl⟩ := h
    exact g_zret X hr hlk hz dX3_accepts_171 rfl rfl
  cases h
