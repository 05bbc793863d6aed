theorem dX4_clearBuffer_0 : decode cX4_clearBuffer 0 = .ok (.aload_n 0, 1) := by decide +kernel
theorem dX4_clearBuffer_1 : decode cX4_clearBuffer 1 = .ok (.getfield 47, 3) := by decide +kernel
theorem dX4_clearBuffer_4 : decode cX4_clearBuffer 4 = .ok (.istore_n 1, 1) := by decide +kernel
theorem dX4_clearBuffer_5 : decode cX4_clearBuffer 5 = .ok (.aload_n 0, 1) := by decide +kernel
theorem dX4_clearBuffer_6 : decode cX4_clearBuffer 6 = .ok (.iconst 0, 1) := by decide +kernel
theorem dX4_clearBuffer_7 : decode cX4_clearBuffer 7 = .ok (.putfield 47, 3) := by decide +kernel
theorem dX4_clearBuffer_10 : decode cX4_clearBuffer 10 = .ok (.iload_n 1, 1) := by decide +kernel
theorem dX4_clearBuffer_11 : decode cX4_clearBuffer 11 = .ok (.ireturn, 1) := by decide +kernel
set_option maxRecDepth 20000 in
theorem ggX4_firstError_X3_readToError : GoodIn wsX4_firstError wsX3_readToError := goodIn_r _ [8, 9, 10, 11, 12, 13, 14, 15, 16, 17, 18, 19, 20, 7, 21, 22, 23, 24, 25, 26, 27, 28, 29, 30, 31, 32, 33, 34, 35, 36, 37, 38, 39, 40, 41, 42, 43, 44, 45, 46, 47, 48, 49, 50, 51, 52, 53, 54, 55, 56, 57, 58, 59, 60, 61, 62, 63, 64, 65, 66, 67, 68, 69, 70, 71, 72, 73, 74, 75, 76, 77, 78, 88, 89, 90, 91, 92, 93, 94, 95, 96, 97, 98, 99, 100] (by decide +kernel) (by decide +kernel)
set_option maxRecDepth 20000 in
theorem gX4_firstError_X3_readToError : GoodIn wsX4_firstError (wsV RX4 143 RX3 yX3_readToError wsX3_readToError) := goodIn_app (goodIn_of _ (by decide +kernel)) ggX4_firstError_X3_readToError
theorem dX4_firstError_0 : decode cX4_firstError 0 = .ok (.aload_n 0, 1) := by decide +kernel
theorem dX4_firstError_1 : decode cX4_firstError 1 = .ok (.getfield 39, 3) := by decide +kernel
theorem dX4_firstError_4 : decode cX4_firstError 4 = .ok (.aload_n 0, 1) := by decide +kernel
theorem dX4_firstError_5 : decode cX4_firstError 5 = .ok (.getfield 43, 3) := by decide +kernel
theorem dX4_firstError_8 : decode cX4_firstError 8 = .ok (.aload_n 0, 1) := by decide +kernel
theorem dX4_firstError_9 : decode cX4_firstError 9 = .ok (.getfield 47, 3) := by decide +kernel
theorem dX4_firstError_12 : decode cX4_firstError 12 = .ok (.invokevirtual 143, 3) := by decide +kernel
theorem dX4_firstError_15 : decode cX4_firstError 15 = .ok (.ireturn, 1) := by decide +kernel
set_option maxRecDepth 20000 in
theorem ggX4_numberOfBook_X4_currentReading : GoodIn wsX4_numberOfBook wsX4_currentReading := goodIn_r _ [14, 15, 16, 1, 17, 18, 19, 20, 21, 22, 23, 24, 25, 26, 27, 28, 29, 30, 31, 32, 33, 34, 35, 36, 37, 38, 39, 40, 41, 42, 43, 44, 45, 46, 47, 48, 49, 50, 51, 52, 53, 54, 55, 56, 57, 58, 59, 60, 61, 62, 63, 75, 76, 77, 78, 79, 80, 81, 82, 83, 84, 85, 86, 87, 88, 89, 90, 91, 92, 93, 94, 95, 96, 97, 98] (by decide +kernel) (by decide +kernel)
set_option maxRecDepth 20000 in
theorem gX4_numberOfBook_X4_currentReading : GoodIn wsX4_numberOfBook (wsV RX4 129 RX4 yX4_currentReading wsX4_currentReading) := goodIn_app (goodIn_of _ (by decide +kernel)) ggX4_numberOfBook_X4_currentReading
set_option maxRecDepth 20000 in
theorem ggX4_numberOfBook_J6_bitCount_0f7a4 : GoodIn wsX4_numberOfBook wsJ6_bitCount_0f7a4 := goodIn_r _ [67, 68, 69, 70] (by decide +kernel) (by decide +kernel)
set_option maxRecDepth 20000 in
theorem gX4_numberOfBook_J6_bitCount_0f7a4 : GoodIn wsX4_numberOfBook (va_wsS RX4 207 yJ6_bitCount_0f7a4 wsJ6_bitCount_0f7a4) := goodIn_app (goodIn_of _ (by decide +kernel)) ggX4_numberOfBook_J6_bitCount_0f7a4
set_option maxRecDepth 20000 in
theorem ggX4_numberOfBook_X1_isDated : GoodIn wsX4_numberOfBook wsX1_isDated := goodIn_r _ [74, 62, 63, 89, 90, 91, 92, 93, 94, 95, 96, 97, 98] (by decide +kernel) (by decide +kernel)
set_option maxRecDepth 20000 in
theorem gX4_numberOfBook_X1_isDated : GoodIn wsX4_numberOfBook (wsV RX4 133 RX1 yX1_isDated wsX1_isDated) := goodIn_app (goodIn_of _ (by decide +kernel)) ggX4_numberOfBook_X1_isDated
theorem dX4_numberOfBook_0 : decode cX4_numberOfBook 0 = .ok (.aload_n 0, 1) := by decide +kernel
theorem dX4_numberOfBook_1 : decode cX4_numberOfBook 1 = .ok (.invokevirtual 129, 3) := by decide +kernel
theorem dX4_numberOfBook_4 : decode cX4_numberOfBook 4 = .ok (.astore_n 3, 1) := by decide +kernel
theorem dX4_numberOfBook_5 : decode cX4_numberOfBook 5 = .ok (.iload_n 2, 1) := by decide +kernel
theorem dX4_numberOfBook_6 : decode cX4_numberOfBook 6 = .ok (.tableswitch 155 0 9 #[54, 64, 74, 84, 94, 107, 114, 121, 135, 145], 54) := by decide +kernel
theorem dX4_numberOfBook_60 : decode cX4_numberOfBook 60 = .ok (.aload_n 0, 1) := by decide +kernel
theorem dX4_numberOfBook_61 : decode cX4_numberOfBook 61 = .ok (.getfield 12, 3) := by decide +kernel
theorem dX4_numberOfBook_64 : decode cX4_numberOfBook 64 = .ok (.getfield 126, 3) := by decide +kernel
theorem dX4_numberOfBook_67 : decode cX4_numberOfBook 67 = .ok (.iload_n 1, 1) := by decide +kernel
theorem dX4_numberOfBook_68 : decode cX4_numberOfBook 68 = .ok (.iaload, 1) := by decide +kernel
theorem dX4_numberOfBook_69 : decode cX4_numberOfBook 69 = .ok (.ireturn, 1) := by decide +kernel
theorem dX4_numberOfBook_70 : decode cX4_numberOfBook 70 = .ok (.aload_n 0, 1) := by decide +kernel
theorem dX4_numberOfBook_71 : decode cX4_numberOfBook 71 = .ok (.getfield 12, 3) := by decide +kernel
theorem dX4_numberOfBook_74 : decode cX4_numberOfBook 74 = .ok (.getfield 107, 3) := by decide +kernel
theorem dX4_numberOfBook_77 : decode cX4_numberOfBook 77 = .ok (.iload_n 1, 1) := by decide +kernel
theorem dX4_numberOfBook_78 : decode cX4_numberOfBook 78 = .ok (.iaload, 1) := by decide +kernel
theorem dX4_numberOfBook_79 : decode cX4_numberOfBook 79 = .ok (.ireturn, 1) := by decide +kernel
theorem dX4_numberOfBook_80 : decode cX4_numberOfBook 80 = .ok (.aload_n 0, 1) := by decide +kernel
theorem dX4_numberOfBook_81 : decode cX4_numberOfBook 81 = .ok (.getfield 12, 3) := by decide +kernel
theorem dX4_numberOfBook_84 : decode cX4_numberOfBook 84 = .ok (.getfield 116, 3) := by decide +kernel
theorem dX4_numberOfBook_87 : decode cX4_numberOfBook 87 = .ok (.iload_n 1, 1) := by decide +kernel
theorem dX4_numberOfBook_88 : decode cX4_numberOfBook 88 = .ok (.iaload, 1) := by decide +kernel
theorem dX4_numberOfBook_89 : decode cX4_numberOfBook 89 = .ok (.ireturn, 1) := by decide +kernel
theorem dX4_numberOfBook_90 : decode cX4_numberOfBook 90 = .ok (.aload_n 0, 1) := by decide +kernel
theorem dX4_numberOfBook_91 : decode cX4_numberOfBook 91 = .ok (.getfield 12, 3) := by decide +kernel
theorem dX4_numberOfBook_94 : decode cX4_numberOfBook 94 = .ok (.getfield 121, 3) := by decide +kernel
theorem dX4_numberOfBook_97 : decode cX4_numberOfBook 97 = .ok (.iload_n 1, 1) := by decide +kernel
theorem dX4_numberOfBook_98 : decode cX4_numberOfBook 98 = .ok (.iaload, 1) := by decide +kernel
theorem dX4_numberOfBook_99 : decode cX4_numberOfBook 99 = .ok (.ireturn, 1) := by decide +kernel
theorem dX4_numberOfBook_100 : decode cX4_numberOfBook 100 = .ok (.aload_n 0, 1) := by decide +kernel
theorem dX4_numberOfBook_101 : decode cX4_numberOfBook 101 = .ok (.getfield 12, 3) := by decide +kernel
theorem dX4_numberOfBook_104 : decode cX4_numberOfBook 104 = .ok (.getfield 107, 3) := by decide +kernel
theorem dX4_numberOfBook_107 : decode cX4_numberOfBook 107 = .ok (.iload_n 1, 1) := by decide +kernel
theorem dX4_numberOfBook_108 : decode cX4_numberOfBook 108 = .ok (.iaload, 1) := by decide +kernel
theorem dX4_numberOfBook_109 : decode cX4_numberOfBook 109 = .ok (.invokestatic 207, 3) := by decide +kernel
theorem dX4_numberOfBook_112 : decode cX4_numberOfBook 112 = .ok (.ireturn, 1) := by decide +kernel
theorem dX4_numberOfBook_113 : decode cX4_numberOfBook 113 = .ok (.aload_n 3, 1) := by decide +kernel
theorem dX4_numberOfBook_114 : decode cX4_numberOfBook 114 = .ok (.getfield 136, 3) := by decide +kernel
theorem dX4_numberOfBook_117 : decode cX4_numberOfBook 117 = .ok (.iload_n 1, 1) := by decide +kernel
theorem dX4_numberOfBook_118 : decode cX4_numberOfBook 118 = .ok (.iaload, 1) := by decide +kernel
theorem dX4_numberOfBook_119 : decode cX4_numberOfBook 119 = .ok (.ireturn, 1) := by decide +kernel
theorem dX4_numberOfBook_120 : decode cX4_numberOfBook 120 = .ok (.aload_n 3, 1) := by decide +kernel
theorem dX4_numberOfBook_121 : decode cX4_numberOfBook 121 = .ok (.getfield 261, 3) := by decide +kernel
theorem dX4_numberOfBook_124 : decode cX4_numberOfBook 124 = .ok (.iload_n 1, 1) := by decide +kernel
theorem dX4_numberOfBook_125 : decode cX4_numberOfBook 125 = .ok (.iaload, 1) := by decide +kernel
theorem dX4_numberOfBook_126 : decode cX4_numberOfBook 126 = .ok (.ireturn, 1) := by decide +kernel
theorem dX4_numberOfBook_127 : decode cX4_numberOfBook 127 = .ok (.aload_n 3, 1) := by decide +kernel
theorem dX4_numberOfBook_128 : decode cX4_numberOfBook 128 = .ok (.iload_n 1, 1) := by decide +kernel
theorem dX4_numberOfBook_129 : decode cX4_numberOfBook 129 = .ok (.invokevirtual 133, 3) := by decide +kernel
theorem dX4_numberOfBook_132 : decode cX4_numberOfBook 132 = .ok (.ifCond .eq 7, 3) := by decide +kernel
theorem dX4_numberOfBook_135 : decode cX4_numberOfBook 135 = .ok (.iconst 1, 1) := by decide +kernel
theorem dX4_numberOfBook_136 : decode cX4_numberOfBook 136 = .ok (.goto 4, 3) := by decide +kernel
theorem dX4_numberOfBook_139 : decode cX4_numberOfBook 139 = .ok (.iconst 0, 1) := by decide +kernel
theorem dX4_numberOfBook_140 : decode cX4_numberOfBook 140 = .ok (.ireturn, 1) := by decide +kernel
theorem dX4_numberOfBook_141 : decode cX4_numberOfBook 141 = .ok (.aload_n 3, 1) := by decide +kernel
theorem dX4_numberOfBook_142 : decode cX4_numberOfBook 142 = .ok (.getfield 264, 3) := by decide +kernel
theorem dX4_numberOfBook_145 : decode cX4_numberOfBook 145 = .ok (.iload_n 1, 1) := by decide +kernel
theorem dX4_numberOfBook_146 : decode cX4_numberOfBook 146 = .ok (.iaload, 1) := by decide +kernel
theorem dX4_numberOfBook_147 : decode cX4_numberOfBook 147 = .ok (.invokestatic 207, 3) := by decide +kernel
theorem dX4_numberOfBook_150 : decode cX4_numberOfBook 150 = .ok (.ireturn, 1) := by decide +kernel
theorem dX4_numberOfBook_151 : decode cX4_numberOfBook 151 = .ok (.aload_n 3, 1) := by decide +kernel
theorem dX4_numberOfBook_152 : decode cX4_numberOfBook 152 = .ok (.getfield 267, 3) := by decide +kernel
theorem dX4_numberOfBook_155 : decode cX4_numberOfBook 155 = .ok (.iload_n 1, 1) := by decide +kernel
theorem dX4_numberOfBook_156 : decode cX4_numberOfBook 156 = .ok (.iaload, 1) := by decide +kernel
theorem dX4_numberOfBook_157 : decode cX4_numberOfBook 157 = .ok (.invokestatic 207, 3) := by decide +kernel
theorem dX4_numberOfBook_160 : decode cX4_numberOfBook 160 = .ok (.ireturn, 1) := by decide +kernel
theorem dX4_numberOfBook_161 : decode cX4_numberOfBook 161 = .ok (.aload_n 3, 1) := by decide +kernel
theorem dX4_numberOfBook_162 : decode cX4_numberOfBook 162 = .ok (.getfield 264, 3) := by decide +kernel
theorem dX4_numberOfBook_165 : decode cX4_numberOfBook 165 = .ok (.iload_n 1, 1) := by decide +kernel
theorem dX4_numberOfBook_166 : decode cX4_numberOfBook 166 = .ok (.iaload, 1) := by decide +kernel
theorem dX4_numberOfBook_167 : decode cX4_numberOfBook 167 = .ok (.aload_n 3, 1) := by decide +kernel
theorem dX4_numberOfBook_168 : decode cX4_numberOfBook 168 = .ok (.getfield 267, 3) := by decide +kernel
theorem dX4_numberOfBook_171 : decode cX4_numberOfBook 171 = .ok (.iload_n 1, 1) := by decide +kernel
theorem dX4_numberOfBook_172 : decode cX4_numberOfBook 172 = .ok (.iaload, 1) := by decide +kernel
theorem dX4_numberOfBook_173 : decode cX4_numberOfBook 173 = .ok (.iand, 1) := by decide +kernel
theorem dX4_numberOfBook_174 : decode cX4_numberOfBook 174 = .ok (.invokestatic 207, 3) := by decide +kernel
theorem dX4_numberOfBook_177 : decode cX4_numberOfBook 177 = .ok (.ireturn, 1) := by decide +kernel
set_option maxRecDepth 20000 in
theorem ggX4_currentReading_X1_read : GoodIn wsX4_currentReading wsX1_read := goodIn_r _ [8, 9, 10, 11, 12, 13, 14, 7, 15, 16, 17, 18, 19, 20, 21, 22, 23, 24, 25, 26, 27, 28, 29, 30, 31, 32, 33, 34, 35, 36, 37, 38, 39, 40, 41, 42, 43, 44, 45, 46, 47, 48, 49, 50, 60, 61, 62, 63, 64, 65, 66, 67, 68, 69, 70, 71, 72, 73, 74] (by decide +kernel) (by decide +kernel)
set_option maxRecDepth 20000 in
theorem gX4_currentReading_X1_read : GoodIn wsX4_currentReading (wsV RX4 294 RX1 yX1_read wsX1_read) := goodIn_app (goodIn_of _ (by decide +kernel)) ggX4_currentReading_X1_read
theorem dX4_currentReading_0 : decode cX4_currentReading 0 = .ok (.aload_n 0, 1) := by decide +kernel
theorem dX4_currentReading_1 : decode cX4_currentReading 1 = .ok (.getfield 51, 3) := by decide +kernel
theorem dX4_currentReading_4 : decode cX4_currentReading 4 = .ok (.ifCond .eq 19, 3) := by decide +kernel
theorem dX4_currentReading_7 : decode cX4_currentReading 7 = .ok (.aload_n 0, 1) := by decide +kernel
theorem dX4_currentReading_8 : decode cX4_currentReading 8 = .ok (.getfield 29, 3) := by decide +kernel
theorem dX4_currentReading_11 : decode cX4_currentReading 11 = .ok (.aload_n 0, 1) := by decide +kernel
theorem dX4_currentReading_12 : decode cX4_currentReading 12 = .ok (.getfield 12, 3) := by decide +kernel
theorem dX4_currentReading_15 : decode cX4_currentReading 15 = .ok (.invokevirtual 294, 3) := by decide +kernel
theorem dX4_currentReading_18 : decode cX4_currentReading 18 = .ok (.aload_n 0, 1) := by decide +kernel
theorem dX4_currentReading_19 : decode cX4_currentReading 19 = .ok (.iconst 0, 1) := by decide +kernel
theorem dX4_currentReading_20 : decode cX4_currentReading 20 = .ok (.putfield 51, 3) := by decide +kernel
theorem dX4_currentReading_23 : decode cX4_currentReading 23 = .ok (.aload_n 0, 1) := by decide +kernel
theorem dX4_currentReading_24 : decode cX4_currentReading 24 = .ok (.getfield 29, 3) := by decide +kernel
theorem dX4_currentReading_27 : decode cX4_currentReading 27 = .ok (.areturn, 1) := by decide +kernel
theorem dX4_isBook_0 : decode cX4_isBook 0 = .ok (.iload_n 1, 1) := by decide +kernel
theorem dX4_isBook_1 : decode cX4_isBook 1 = .ok (.ifCond .lt 18, 3) := by decide +kernel
theorem dX4_isBook_4 : decode cX4_isBook 4 = .ok (.iload_n 1, 1) := by decide +kernel
theorem dX4_isBook_5 : decode cX4_isBook 5 = .ok (.aload_n 0, 1) := by decide +kernel
theorem dX4_isBook_6 : decode cX4_isBook 6 = .ok (.getfield 12, 3) := by decide +kernel
theorem dX4_isBook_9 : decode cX4_isBook 9 = .ok (.getfield 75, 3) := by decide +kernel
theorem dX4_isBook_12 : decode cX4_isBook 12 = .ok (.if_icmp .ge 7, 3) := by decide +kernel
theorem dX4_isBook_15 : decode cX4_isBook 15 = .ok (.iconst 1, 1) := by decide +kernel
theorem dX4_isBook_16 : decode cX4_isBook 16 = .ok (.goto 4, 3) := by decide +kernel
theorem dX4_isBook_19 : decode cX4_isBook 19 = .ok (.iconst 0, 1) := by decide +kernel
theorem dX4_isBook_20 : decode cX4_isBook 20 = .ok (.ireturn, 1) := by decide +kernel
theorem dX4_isLetterMask_0 : decode cX4_isLetterMask 0 = .ok (.iload_n 0, 1) := by decide +kernel
theorem dX4_isLetterMask_1 : decode cX4_isLetterMask 1 = .ok (.ifCond .lt 14, 3) := by decide +kernel
theorem dX4_isLetterMask_4 : decode cX4_isLetterMask 4 = .ok (.iload_n 0, 1) := by decide +kernel
theorem dX4_isLetterMask_5 : decode cX4_isLetterMask 5 = .ok (.sipush 4096, 3) := by decide +kernel
theorem dX4_isLetterMask_8 : decode cX4_isLetterMask 8 = .ok (.if_icmp .ge 7, 3) := by decide +kernel
theorem dX4_isLetterMask_11 : decode cX4_isLetterMask 11 = .ok (.iconst 1, 1) := by decide +kernel
theorem dX4_isLetterMask_12 : decode cX4_isLetterMask 12 = .ok (.goto 4, 3) := by decide +kernel
theorem dX4_isLetterMask_15 : decode cX4_isLetterMask 15 = .ok (.iconst 0, 1) := by decide +kernel
theorem dX4_isLetterMask_16 : decode cX4_isLetterMask 16 = .ok (.ireturn, 1) := by decide +kernel
theorem dX4_isMouldOrNone_0 : decode cX4_isMouldOrNone 0 = .ok (.iload_n 0, 1) := by decide +kernel
theorem dX4_isMouldOrNone_1 : decode cX4_isMouldOrNone 1 = .ok (.iconst (-1), 1) := by decide +kernel
theorem dX4_isMouldOrNone_2 : decode cX4_isMouldOrNone 2 = .ok (.if_icmp .eq 13, 3) := by decide +kernel
theorem dX4_isMouldOrNone_5 : decode cX4_isMouldOrNone 5 = .ok (.iload_n 0, 1) := by decide +kernel
theorem dX4_isMouldOrNone_6 : decode cX4_isMouldOrNone 6 = .ok (.ifCond .lt 13, 3) := by decide +kernel
theorem dX4_isMouldOrNone_9 : decode cX4_isMouldOrNone 9 = .ok (.iload_n 0, 1) := by decide +kernel
theorem dX4_isMouldOrNone_10 : decode cX4_isMouldOrNone 10 = .ok (.bipush 99, 2) := by decide +kernel
theorem dX4_isMouldOrNone_12 : decode cX4_isMouldOrNone 12 = .ok (.if_icmp .gt 7, 3) := by decide +kernel
theorem dX4_isMouldOrNone_15 : decode cX4_isMouldOrNone 15 = .ok (.iconst 1, 1) := by decide +kernel
theorem dX4_isMouldOrNone_16 : decode cX4_isMouldOrNone 16 = .ok (.goto 4, 3) := by decide +kernel
theorem dX4_isMouldOrNone_19 : decode cX4_isMouldOrNone 19 = .ok (.iconst 0, 1) := by decide +kernel
theorem dX4_isMouldOrNone_20 : decode cX4_isMouldOrNone 20 = .ok (.ireturn, 1) := by decide +kernel
theorem dX4_isYear_0 : decode cX4_isYear 0 = .ok (.iload_n 0, 1) := by decide +kernel
theorem dX4_isYear_1 : decode cX4_isYear 1 = .ok (.sipush 1450, 3) := by decide +kernel
theorem dX4_isYear_4 : decode cX4_isYear 4 = .ok (.if_icmp .lt 14, 3) := by decide +kernel
theorem dX4_isYear_7 : decode cX4_isYear 7 = .ok (.iload_n 0, 1) := by decide +kernel
theorem dX4_isYear_8 : decode cX4_isYear 8 = .ok (.sipush 1999, 3) := by decide +kernel
theorem dX4_isYear_11 : decode cX4_isYear 11 = .ok (.if_icmp .gt 7, 3) := by decide +kernel
theorem dX4_isYear_14 : decode cX4_isYear 14 = .ok (.iconst 1, 1) := by decide +kernel
theorem dX4_isYear_15 : decode cX4_isYear 15 = .ok (.goto 4, 3) := by decide +kernel
theorem dX4_isYear_18 : decode cX4_isYear 18 = .ok (.iconst 0, 1) := by decide +kernel
theorem dX4_isYear_19 : decode cX4_isYear 19 = .ok (.ireturn, 1) := by decide +kernel
set_option maxRecDepth 20000 in
theorem ggX4_isYearOrNone_X4_isYear : GoodIn wsX4_isYearOrNone wsX4_isYear := goodIn_r _ [4] (by decide +kernel) (by decide +kernel)
set_option maxRecDepth 20000 in
theorem gX4_isYearOrNone_X4_isYear : GoodIn wsX4_isYearOrNone (va_wsS RX4 220 yX4_isYear wsX4_isYear) := goodIn_app (goodIn_of _ (by decide +kernel)) ggX4_isYearOrNone_X4_isYear
theorem dX4_isYearOrNone_0 : decode cX4_isYearOrNone 0 = .ok (.iload_n 0, 1) := by decide +kernel
theorem dX4_isYearOrNone_1 : decode cX4_isYearOrNone 1 = .ok (.iconst (-1), 1) := by decide +kernel
theorem dX4_isYearOrNone_2 : decode cX4_isYearOrNone 2 = .ok (.if_icmp .eq 10, 3) := by decide +kernel
theorem dX4_isYearOrNone_5 : decode cX4_isYearOrNone 5 = .ok (.iload_n 0, 1) := by decide +kernel
theorem dX4_isYearOrNone_6 : decode cX4_isYearOrNone 6 = .ok (.invokestatic 220, 3) := by decide +kernel
theorem dX4_isYearOrNone_9 : decode cX4_isYearOrNone 9 = .ok (.ifCond .eq 7, 3) := by decide +kernel
theorem dX4_isYearOrNone_12 : decode cX4_isYearOrNone 12 = .ok (.iconst 1, 1) := by decide +kernel
theorem dX4_isYearOrNone_13 : decode cX4_isYearOrNone 13 = .ok (.goto 4, 3) := by decide +kernel
theorem dX4_isYearOrNone_16 : decode cX4_isYearOrNone 16 = .ok (.iconst 0, 1) := by decide +kernel
theorem dX4_isYearOrNone_17 : decode cX4_isYearOrNone 17 = .ok (.ireturn, 1) := by decide +kernel
def f_X4_isLetterMask (p0 : Int32) : Option (Int32) := (jn (u1 fun (s1 : Int32) => gB s1 (some s1)) (fun K2 => jn (u0 (K2 0)) (fun K3 => (if p0 < 0 then K3 () else (if 4096 ≤ p0 then K3 () else K2 1)))))
theorem hd_X4_isLetterMask : yX4_isLetterMask.cls = RX4 ∧ yX4_isLetterMask.cls ≠ "java/lang/invoke/MethodHandle" ∧ yX4_isLetterMask.cls ≠ "java/lang/invoke/VarHandle" ∧ (parseMethodDescriptor yX4_isLetterMask.desc).map (fun d => d.parameters.length) = some 1 := by decide +kernel
set_option maxRecDepth 100000 in
set_option maxHeartbeats 4000000 in
theorem c_X4_isLetterMask (l : Launch) (D : va_G) (cI cS cL : ClassId) (p0 : Int32) (rr : Int32) (hc : f_X4_isLetterMask p0 = some rr) : KM l yX4_isLetterMask wsX4_isLetterMask { frames := 0, cells := 0, slots := 0, locals := 0 } D (tyS cI cS cL) [.int p0] [] (some (.int rr)) (fun w => w = []) 0 0 := by
  refine g_entry (cc := cX4_isLetterMask) (nL := 1) (rt := (some .boolean)) (by decide) rfl (Nat.le_of_ble_eq_true rfl) ?_
  intro p e s m args below meth c A (X : GC p s m args c cX4_isLetterMask 1 RX4 wsX4_isLetterMask D (tyS cI cS cL) A) hr hlk _ _
  have h := hc
  unfold f_X4_isLetterMask at h
  refine g_lv (lv' := [(0, .int p0)]) [0] rfl ?_
  refine g_iload_n X (j := 0) dX4_isLetterMask_0 rfl ?_
  refine jn_g h (u1 fun s1 => []) (u1 fun s1 => []) (u1 fun s1 => [.int s1]) 16 ?_ ?_
  · rintro s1 h
    dsimp only [u1] at h ⊢
    obtain ⟨hz, h⟩ := gB_e h
    have h := Option.some.inj h
    subst h
    exact g_zret X hr hlk hz dX4_isLetterMask_16 rfl rfl
  · intro K2 hK2 h
    refine jn_g h (u0 ([])) (u0 ([])) (u0 ([])) 15 ?_ ?_
    · rintro ⟨⟩ h
      dsimp only [u0] at h ⊢
      refine g_iconst (v := 0) X dX4_isLetterMask_15 (by decide) ?_
      exact hK2 0 h
    · intro K3 hK3 h
      refine g_if_lt (tgt := 15) X h dX4_isLetterMask_1 (by decide) (fun h => ?_) (fun h => ?_)
      · refine g_lv (lv' := []) [] rfl ?_
        exact hK3 () h
      · refine g_iload_n X (j := 0) dX4_isLetterMask_4 rfl ?_
        refine g_sipush (v := 4096) X dX4_isLetterMask_5 (by decide) ?_
        refine g_icmp_ge (tgt := 15) X h dX4_isLetterMask_8 (by decide) (fun h => ?_) (fun h => ?_)
        · refine g_lv (lv' := []) [] rfl ?_
          exact hK3 () h
        · refine g_iconst (v := 1) X dX4_isLetterMask_11 (by decide) ?_
          refine g_goto (tgt := 16) X dX4_isLetterMask_12 (by decide) ?_
          refine g_lv (lv' := []) [] rfl ?_
          exact hK2 1 h
def f_X4_isMouldOrNone (p0 : Int32) : Option (Int32) := (jn (u1 fun (s1 : Int32) => gB s1 (some s1)) (fun K2 => jn (u0 (K2 1)) (fun K3 => (if p0 = (-1) then K3 () else (jn (u0 (K2 0)) (fun K4 => (if p0 < 0 then K4 () else (if 99 < p0 then K4 () else K3 ()))))))))
theorem hd_X4_isMouldOrNone : yX4_isMouldOrNone.cls = RX4 ∧ yX4_isMouldOrNone.cls ≠ "java/lang/invoke/MethodHandle" ∧ yX4_isMouldOrNone.cls ≠ "java/lang/invoke/VarHandle" ∧ (parseMethodDescriptor yX4_isMouldOrNone.desc).map (fun d => d.parameters.length) = some 1 := by decide +kernel
set_option maxRecDepth 100000 in
set_option maxHeartbeats 4000000 in
theorem c_X4_isMouldOrNone (l : Launch) (D : va_G) (cI cS cL : ClassId) (p0 : Int32) (rr : Int32) (hc : f_X4_isMouldOrNone p0 = some rr) : KM l yX4_isMouldOrNone wsX4_isMouldOrNone { frames := 0, cells := 0, slots := 0, locals := 0 } D (tyS cI cS cL) [.int p0] [] (some (.int rr)) (fun w => w = []) 0 0 := by
  refine g_entry (cc := cX4_isMouldOrNone) (nL := 1) (rt := (some .boolean)) (by decide) rfl (Nat.le_of_ble_eq_true rfl) ?_
  intro p e s m args below meth c A (X : GC p s m args c cX4_isMouldOrNone 1 RX4 wsX4_isMouldOrNone D (tyS cI cS cL) A) hr hlk _ _
  have h := hc
  unfold f_X4_isMouldOrNone at h
  refine g_lv (lv' := [(0, .int p0)]) [0] rfl ?_
  refine g_iload_n X (j := 0) dX4_isMouldOrNone_0 rfl ?_
  refine g_iconst (v := (-1)) X dX4_isMouldOrNone_1 (by decide) ?_
  refine jn_g h (u1 fun s1 => []) (u1 fun s1 => []) (u1 fun s1 => [.int s1]) 20 ?_ ?_
  · rintro s1 h
    dsimp only [u1] at h ⊢
    obtain ⟨hz, h⟩ := gB_e h
    have h := Option.some.inj h
    subst h
    exact g_zret X hr hlk hz dX4_isMouldOrNone_20 rfl rfl
  · intro K2 hK2 h
    refine jn_g h (u0 ([])) (u0 ([])) (u0 ([])) 15 ?_ ?_
    · rintro ⟨⟩ h
      dsimp only [u0] at h ⊢
      refine g_iconst (v := 1) X dX4_isMouldOrNone_15 (by decide) ?_
      refine g_goto (tgt := 20) X dX4_isMouldOrNone_16 (by decide) ?_
      exact hK2 1 h
    · intro K3 hK3 h
      refine g_icmp_eq (tgt := 15) X h dX4_isMouldOrNone_2 (by decide) (fun h => ?_) (fun h => ?_)
      · refine g_lv (lv' := []) [] rfl ?_
        exact hK3 () h
      · refine g_iload_n X (j := 0) dX4_isMouldOrNone_5 rfl ?_
        refine jn_g h (u0 ([])) (u0 ([])) (u0 ([])) 19 ?_ ?_
        · rintro ⟨⟩ h
          dsimp only [u0] at h ⊢
          refine g_iconst (v := 0) X dX4_isMouldOrNone_19 (by decide) ?_
          exact hK2 0 h
        · intro K4 hK4 h
          refine g_if_lt (tgt := 19) X h dX4_isMouldOrNone_6 (by decide) (fun h => ?_) (fun h => ?_)
          · refine g_lv (lv' := []) [] rfl ?_
            exact hK4 () h
          · refine g_iload_n X (j := 0) dX4_isMouldOrNone_9 rfl ?_
            refine g_bipush (v := 99) X dX4_isMouldOrNone_10 (by decide) ?_
            refine g_icmp_gt (tgt := 19) X h dX4_isMouldOrNone_12 (by decide) (fun h => ?_) (fun h => ?_)
            · refine g_lv (lv' := []) [] rfl ?_
              exact hK4 () h
            · refine g_lv (lv' := []) [] rfl ?_
              exact hK3 () h
def f_X4_isYear (p0 : Int32) : Option (Int32) := (jn (u1 fun (s1 : Int32) => gB s1 (some s1)) (fun K2 => jn (u0 (K2 0)) (fun K3 => (if p0 < 1450 then K3 () else (if 1999 < p0 then K3 () else K2 1)))))
theorem hd_X4_isYear : yX4_isYear.cls = RX4 ∧ yX4_isYear.cls ≠ "java/lang/invoke/MethodHandle" ∧ yX4_isYear.cls ≠ "java/lang/invoke/VarHandle" ∧ (parseMethodDescriptor yX4_isYear.desc).map (fun d => d.parameters.length) = some 1 := by decide +kernel
set_option maxRecDepth 100000 in
set_option maxHeartbeats 4000000 in
theorem c_X4_isYear (l : Launch) (D : va_G) (cI cS cL : ClassId) (p0 : Int32) (rr : Int32) (hc : f_X4_isYear p0 = some rr) : KM l yX4_isYear wsX4_isYear { frames := 0, cells := 0, slots := 0, locals := 0 } D (tyS cI cS cL) [.int p0] [] (some (.int rr)) (fun w => w = []) 0 0 := by
  refine g_entry (cc := cX4_isYear) (nL := 1) (rt := (some .boolean)) (by decide) rfl (Nat.le_of_ble_eq_true rfl) ?_
  intro p e s m args below meth c A (X : GC p s m args c cX4_isYear 1 RX4 wsX4_isYear D (tyS cI cS cL) A) hr hlk _ _
  have h := hc
  unfold f_X4_isYear at h
  refine g_lv (lv' := [(0, .int p0)]) [0] rfl ?_
  refine g_iload_n X (j := 0) dX4_isYear_0 rfl ?_
  refine g_sipush (v := 1450) X dX4_isYear_1 (by decide) ?_
  refine jn_g h (u1 fun s1 => []) (u1 fun s1 => []) (u1 fun s1 => [.int s1]) 19 ?_ ?_
  · rintro s1 h
    dsimp only [u1] at h ⊢
    obtain ⟨hz, h⟩ := gB_e h
    have h := Option.some.inj h
    subst h
    exact g_zret X hr hlk hz dX4_isYear_19 rfl rfl
  · intro K2 hK2 h
    refine jn_g h (u0 ([])) (u0 ([])) (u0 ([])) 18 ?_ ?_
    · rintro ⟨⟩ h
      dsimp only [u0] at h ⊢
      refine g_iconst (v := 0) X dX4_isYear_18 (by decide) ?_
      exact hK2 0 h
    · intro K3 hK3 h
      refine g_icmp_lt (tgt := 18) X h dX4_isYear_4 (by decide) (fun h => ?_) (fun h => ?_)
      · refine g_lv (lv' := []) [] rfl ?_
        exact hK3 () h
      · refine g_iload_n X (j := 0) dX4_isYear_7 rfl ?_
        refine g_sipush (v := 1999) X dX4_isYear_8 (by decide) ?_
        refine g_icmp_gt (tgt := 18) X h dX4_isYear_11 (by decide) (fun h => ?_) (fun h => ?_)
        · refine g_lv (lv' := []) [] rfl ?_
          exact hK3 () h
        · refine g_iconst (v := 1) X dX4_isYear_14 (by decide) ?_
          refine g_goto (tgt := 19) X dX4_isYear_15 (by decide) ?_
          refine g_lv (lv' := []) [] rfl ?_
          exact hK2 1 h
def f_X4_isYearOrNone (p0 : Int32) : Option (Int32) := (jn (u1 fun (s1 : Int32) => gB s1 (some s1)) (fun K2 => jn (u0 (K2 1)) (fun K3 => (if p0 = (-1) then K3 () else (f_X4_isYear p0).bind (u1 fun (r4 : Int32) => (if r4 = 0 then K2 0 else K3 ()))))))
theorem hd_X4_isYearOrNone : yX4_isYearOrNone.cls = RX4 ∧ yX4_isYearOrNone.cls ≠ "java/lang/invoke/MethodHandle" ∧ yX4_isYearOrNone.cls ≠ "java/lang/invoke/VarHandle" ∧ (parseMethodDescriptor yX4_isYearOrNone.desc).map (fun d => d.parameters.length) = some 1 := by decide +kernel
set_option maxRecDepth 100000 in
set_option maxHeartbeats 4000000 in
theorem c_X4_isYearOrNone (l : Launch) (D : va_G) (cI cS cL : ClassId) (p0 : Int32) (rr : Int32) (hc : f_X4_isYearOrNone p0 = some rr) : KM l yX4_isYearOrNone wsX4_isYearOrNone { frames := 1, cells := 0, slots := 0, locals := 20 } D (tyS cI cS cL) [.int p0] [] (some (.int rr)) (fun w => w = []) 0 0 := by
  refine g_entry (cc := cX4_isYearOrNone) (nL := 1) (rt := (some .boolean)) (by decide) rfl (Nat.le_of_ble_eq_true rfl) ?_
  intro p e s m args below meth c A (X : GC p s m args c cX4_isYearOrNone 1 RX4 wsX4_isYearOrNone D (tyS cI cS cL) A) hr hlk _ _
  have h := hc
  unfold f_X4_isYearOrNone at h
  refine g_lv (lv' := [(0, .int p0)]) [0] rfl ?_
  refine g_iload_n X (j := 0) dX4_isYearOrNone_0 rfl ?_
  refine g_iconst (v := (-1)) X dX4_isYearOrNone_1 (by decide) ?_
  refine jn_g h (u1 fun s1 => []) (u1 fun s1 => []) (u1 fun s1 => [.int s1]) 17 ?_ ?_
  · rintro s1 h
    dsimp only [u1] at h ⊢
    obtain ⟨hz, h⟩ := gB_e h
    have h := Option.some.inj h
    subst h
    exact g_zret X hr hlk hz dX4_isYearOrNone_17 rfl rfl
  · intro K2 hK2 h
    refine jn_g h (u0 ([])) (u0 ([])) (u0 ([])) 12 ?_ ?_
    · rintro ⟨⟩ h
      dsimp only [u0] at h ⊢
      refine g_iconst (v := 1) X dX4_isYearOrNone_12 (by decide) ?_
      refine g_goto (tgt := 17) X dX4_isYearOrNone_13 (by decide) ?_
      exact hK2 1 h
    · intro K3 hK3 h
      refine g_icmp_eq (tgt := 12) X h dX4_isYearOrNone_2 (by decide) (fun h => ?_) (fun h => ?_)
      · refine g_lv (lv' := []) [] rfl ?_
        exact hK3 () h
      · refine g_iload_n X (j := 0) dX4_isYearOrNone_5 rfl ?_
        obtain ⟨r4, hc, h⟩ := bd1 h
        refine g_callS (is := []) (As := [.int p0]) (ws' := []) (st := []) X (c_X4_isYear l D cI cS cL p0 r4 hc) gX4_isYearOrNone_X4_isYear rfl ⟨rfl, rfl⟩ hd_X4_isYear.2 ⟨Nat.le_of_ble_eq_true rfl, Nat.le_of_ble_eq_true rfl⟩ ⟨Nat.zero_le _, Nat.zero_le _⟩ rfl rfl rfl rfl rfl (Nat.le_of_ble_eq_true rfl) rfl dX4_isYearOrNone_6 ?_
        refine g_if_eq (tgt := 16) X h dX4_isYearOrNone_9 (by decide) (fun h => ?_) (fun h => ?_)
        · refine g_iconst (v := 0) X dX4_isYearOrNone_16 (by decide) ?_
          refine g_lv (lv' := []) [] rfl ?_
          exact hK2 0 h
        · refine g_lv (lv' := []) [] rfl ?_
          exact hK3 () h
def f_X4_isBook (p1 : Int32) (x1_size : Int32) : Option (Int32) := (jn (u1 fun (s1 : Int32) => gB s1 (some s1)) (fun K2 => jn (u0 (K2 0)) (fun K3 => (if p1 < 0 then K3 () else (if x1_size ≤ p1 then K3 () else K2 1)))))
theorem in_X4_isBook_X4 : ∀ w ∈ wsX40, w ∈ wsX4_isBook := by decide +kernel
theorem fl_X4_isBook_12 : Cond.fieldLink RX4 12 "ColophonHunt" "shelf" "LColophonHunt$Shelf;" ∈ wsX4_isBook := by decide +kernel
theorem in_X4_isBook_X2 : ∀ w ∈ wsX20, w ∈ wsX4_isBook := by decide +kernel
theorem fl_X4_isBook_75 : Cond.fieldLink RX4 75 "ColophonHunt$Shelf" "size" "I" ∈ wsX4_isBook := by decide +kernel
theorem hd_X4_isBook : yX4_isBook.cls = RX4 ∧ yX4_isBook.cls ≠ "java/lang/invoke/MethodHandle" ∧ yX4_isBook.cls ≠ "java/lang/invoke/VarHandle" ∧ (parseMethodDescriptor yX4_isBook.desc).map (fun d => d.parameters.length) = some 1 := by decide +kernel
set_option maxRecDepth 100000 in
set_option maxHeartbeats 4000000 in
theorem c_X4_isBook (l : Launch) (D : va_G) (cI cS cL : ClassId) (a0 : Nat) (a1 : Nat) (b0_1 : Nat) (b0_2 : Nat) (b0_3 : Nat) (b0_4 : Nat) (b0_5 : Nat) (b0_6 : Nat) (b1_0 : Nat) (b1_1 : Nat) (b1_2 : Nat) (b1_3 : Nat) (p1 : Int32) (x0_length : Int32) (x0_isReadingOld : Int32) (x1_size : Int32) (rr : Int32) (hc : f_X4_isBook p1 x1_size = some rr) : KM l yX4_isBook wsX4_isBook { frames := 0, cells := 0, slots := 0, locals := 0 } D (tyS cI cS cL) [.ref a0, .int p1] [(a0, .inr (4, [.ref a1, .ref b0_1, .ref b0_2, .ref b0_3, .ref b0_4, .ref b0_5, .ref b0_6, .int x0_length, .int x0_isReadingOld])), (a1, .inr (2, [.ref b1_0, .ref b1_1, .ref b1_2, .ref b1_3, .int x1_size]))] (some (.int rr)) (fun w => w = [(a0, .inr (4, [.ref a1, .ref b0_1, .ref b0_2, .ref b0_3, .ref b0_4, .ref b0_5, .ref b0_6, .int x0_length, .int x0_isReadingOld])), (a1, .inr (2, [.ref b1_0, .ref b1_1, .ref b1_2, .ref b1_3, .int x1_size]))]) 0 0 := by
  refine g_entry (cc := cX4_isBook) (nL := 2) (rt := (some .boolean)) (by decide) rfl (Nat.le_of_ble_eq_true rfl) ?_
  intro p e s m args below meth c A (X : GC p s m args c cX4_isBook 2 RX4 wsX4_isBook D (tyS cI cS cL) A) hr hlk _ _
  have h := hc
  unfold f_X4_isBook at h
  refine g_lv (lv' := [(0, .ref a0), (1, .int p1)]) [0, 1] rfl ?_
  refine g_iload_n X (j := 1) dX4_isBook_0 rfl ?_
  refine jn_g h (u1 fun s1 => [(a0, .inr (4, [.ref a1, .ref b0_1, .ref b0_2, .ref b0_3, .ref b0_4, .ref b0_5, .ref b0_6, .int x0_length, .int x0_isReadingOld])), (a1, .inr (2, [.ref b1_0, .ref b1_1, .ref b1_2, .ref b1_3, .int x1_size]))]) (u1 fun s1 => []) (u1 fun s1 => [.int s1]) 20 ?_ ?_
  · rintro s1 h
    dsimp only [u1] at h ⊢
    obtain ⟨hz, h⟩ := gB_e h
    have h := Option.some.inj h
    subst h
    exact g_zret X hr hlk hz dX4_isBook_20 rfl rfl
  · intro K2 hK2 h
    refine jn_g h (u0 ([(a0, .inr (4, [.ref a1, .ref b0_1, .ref b0_2, .ref b0_3, .ref b0_4, .ref b0_5, .ref b0_6, .int x0_length, .int x0_isReadingOld])), (a1, .inr (2, [.ref b1_0, .ref b1_1, .ref b1_2, .ref b1_3, .int x1_size]))])) (u0 ([])) (u0 ([])) 19 ?_ ?_
    · rintro ⟨⟩ h
      dsimp only [u0] at h ⊢
      refine g_iconst (v := 0) X dX4_isBook_19 (by decide) ?_
      exact hK2 0 h
    · intro K3 hK3 h
      refine g_if_lt (tgt := 19) X h dX4_isBook_1 (by decide) (fun h => ?_) (fun h => ?_)
      · refine g_lv (lv' := []) [] rfl ?_
        exact hK3 () h
      · refine g_iload_n X (j := 1) dX4_isBook_4 rfl ?_
        refine g_aload_n X (j := 0) dX4_isBook_5 rfl ?_
        refine g_get (q0 := 0) (k := 0) (ci := 4) X in_X4_isBook_X4 fl_X4_isBook_12 rfl rfl (Nat.le_of_ble_eq_true rfl) rfl dX4_isBook_6 ?_
        refine g_get (q0 := 1) (k := 4) (ci := 2) X in_X4_isBook_X2 fl_X4_isBook_75 rfl rfl (Nat.le_of_ble_eq_true rfl) rfl dX4_isBook_9 ?_
        refine g_icmp_ge (tgt := 19) X h dX4_isBook_12 (by decide) (fun h => ?_) (fun h => ?_)
        · refine g_lv (lv' := []) [] rfl ?_
          exact hK3 () h
        · refine g_iconst (v := 1) X dX4_isBook_15 (by decide) ?_
          refine g_goto (tgt := 20) X dX4_isBook_16 (by decide) ?_
          refine g_lv (lv' := []) [] rfl ?_
          exact hK2 1 h
def f_X4_currentReading (x0_isReadingOld : Int32) (x1_size : Int32) (f2 : Nat → Int32) (f3 : Nat → Int32) (f4 : Nat → Int32) (f5 : Nat → Int32) (x6_areOrdersCounted : Int32) (x6_isAnyOrder : Int32) (x6_size : Int32) (f7 : Nat → Int32) (f8 : Nat → Int32) (f9 : Nat → Int32) (f10 : Nat → Int32) (f11 : Nat → Int32) (f12 : Nat → Int32) : Option (Int32 × Int32 × Int32 × Int32 × (Nat → Int32) × (Nat → Int32) × (Nat → Int32) × (Nat → Int32) × (Nat → Int32) × (Nat → Int32)) := (jn (u10 fun (w1 : Int32) (w2 : Int32) (w3 : Int32) (w4 : Int32) (w5 : Nat → Int32) (w6 : Nat → Int32) (w7 : Nat → Int32) (w8 : Nat → Int32) (w9 : Nat → Int32) (w10 : Nat → Int32) => some (w1, w2, w3, w4, w5, w6, w7, w8, w9, w10)) (fun K11 => (if x0_isReadingOld = 0 then K11 (x0_isReadingOld, x6_areOrdersCounted, x6_isAnyOrder, x6_size, f7, f8, f9, f10, f11, f12) else (f_X1_read x6_areOrdersCounted x6_isAnyOrder x6_size f7 f8 f9 f10 f11 f12 x1_size f2 f3 f4 f5).bind (u9 fun (o13 : Int32) (o14 : Int32) (o15 : Int32) (o16 : Nat → Int32) (o17 : Nat → Int32) (o18 : Nat → Int32) (o19 : Nat → Int32) (o20 : Nat → Int32) (o21 : Nat → Int32) => K11 (0, o13, o14, o15, o16, o17, o18, o19, o20, o21)))))
theorem in_X4_currentReading_X4 : ∀ w ∈ wsX40, w ∈ wsX4_currentReading := by decide +kernel
theorem fl_X4_currentReading_51 : Cond.fieldLink RX4 51 "ColophonHunt" "isReadingOld" "Z" ∈ wsX4_currentReading := by decide +kernel
theorem fl_X4_currentReading_29 : Cond.fieldLink RX4 29 "ColophonHunt" "reading" "LColophonHunt$Reading;" ∈ wsX4_currentReading := by decide +kernel
theorem fl_X4_currentReading_12 : Cond.fieldLink RX4 12 "ColophonHunt" "shelf" "LColophonHunt$Shelf;" ∈ wsX4_currentReading := by decide +kernel
theorem hd_X4_currentReading : yX4_currentReading.cls = RX4 ∧ yX4_currentReading.cls ≠ "java/lang/invoke/MethodHandle" ∧ yX4_currentReading.cls ≠ "java/lang/invoke/VarHandle" ∧ (parseMethodDescriptor yX4_currentReading.desc).map (fun d => d.parameters.length) = some 0 := by decide +kernel
set_option maxRecDepth 100000 in
set_option maxHeartbeats 4000000 in
theorem c_X4_currentReading (l : Launch) (D : va_G) (cI cS cL : ClassId) (a0 : Nat) (a1 : Nat) (a2 : Nat) (a3 : Nat) (a4 : Nat) (a5 : Nat) (a6 : Nat) (a7 : Nat) (a8 : Nat) (a9 : Nat) (a10 : Nat) (a11 : Nat) (a12 : Nat) (b0_1 : Nat) (b0_2 : Nat) (b0_4 : Nat) (b0_5 : Nat) (b0_6 : Nat) (b6_6 : Nat) (x0_length : Int32) (x0_isReadingOld : Int32) (x1_size : Int32) (f2 : Nat → Int32) (f3 : Nat → Int32) (f4 : Nat → Int32) (f5 : Nat → Int32) (x6_areOrdersCounted : Int32) (x6_isAnyOrder : Int32) (x6_size : Int32) (f7 : Nat → Int32) (f8 : Nat → Int32) (f9 : Nat → Int32) (f10 : Nat → Int32) (f11 : Nat → Int32) (f12 : Nat → Int32) (y0 : Int32) (y1 : Int32) (y2 : Int32) (y3 : Int32) (y4 : Nat → Int32) (y5 : Nat → Int32) (y6 : Nat → Int32) (y7 : Nat → Int32) (y8 : Nat → Int32) (y9 : Nat → Int32) (hc : f_X4_currentReading x0_isReadingOld x1_size f2 f3 f4 f5 x6_areOrdersCounted x6_isAnyOrder x6_size f7 f8 f9 f10 f11 f12 = some (y0, y1, y2, y3, y4, y5, y6, y7, y8, y9)) : KM l yX4_currentReading wsX4_currentReading { frames := 3, cells := 0, slots := 0, locals := 68 } D (tyS cI cS cL) [.ref a0] [(a0, .inr (4, [.ref a1, .ref b0_1, .ref b0_2, .ref a6, .ref b0_4, .ref b0_5, .ref b0_6, .int x0_length, .int x0_isReadingOld])), (a1, .inr (2, [.ref a2, .ref a3, .ref a4, .ref a5, .int x1_size])), (a2, .inl (cI, 10, .inl f2)), (a3, .inl (cI, 10, .inl f3)), (a4, .inl (cI, 10, .inl f4)), (a5, .inl (cI, 10, .inl f5)), (a6, .inr (1, [.ref a7, .ref a8, .ref a9, .ref a10, .ref a11, .ref a12, .ref b6_6, .int x6_areOrdersCounted, .int x6_isAnyOrder, .int x6_size])), (a7, .inl (cI, 10, .inl f7)), (a8, .inl (cI, 10, .inl f8)), (a9, .inl (cI, 10, .inl f9)), (a10, .inl (cI, 10, .inl f10)), (a11, .inl (cI, 10, .inl f11)), (a12, .inl (cI, 10, .inl f12))] (some (.ref a6)) (fun w => w = [(a0, .inr (4, [.ref a1, .ref b0_1, .ref b0_2, .ref a6, .ref b0_4, .ref b0_5, .ref b0_6, .int x0_length, .int y0])), (a1, .inr (2, [.ref a2, .ref a3, .ref a4, .ref a5, .int x1_size])), (a2, .inl (cI, 10, .inl f2)), (a3, .inl (cI, 10, .inl f3)), (a4, .inl (cI, 10, .inl f4)), (a5, .inl (cI, 10, .inl f5)), (a6, .inr (1, [.ref a7, .ref a8, .ref a9, .ref a10, .ref a11, .ref a12, .ref b6_6, .int y1, .int y2, .int y3])), (a7, .inl (cI, 10, .inl y4)), (a8, .inl (cI, 10, .inl y5)), (a9, .inl (cI, 10, .inl y6)), (a10, .inl (cI, 10, .inl y7)), (a11, .inl (cI, 10, .inl y8)), (a12, .inl (cI, 10, .inl y9))]) 0 0 := by
  refine g_entry (cc := cX4_currentReading) (nL := 1) (rt := (some (.object "ColophonHunt$Reading"))) (by decide) rfl (Nat.le_of_ble_eq_true rfl) ?_
  intro p e s m args below meth c A (X : GC p s m args c cX4_currentReading 1 RX4 wsX4_currentReading D (tyS cI cS cL) A) hr hlk _ _
  have h := hc
  unfold f_X4_currentReading at h
  refine g_lv (lv' := [(0, .ref a0)]) [0] rfl ?_
  refine g_aload_n X (j := 0) dX4_currentReading_0 rfl ?_
  refine g_get (q0 := 0) (k := 8) (ci := 4) X in_X4_currentReading_X4 fl_X4_currentReading_51 rfl rfl (Nat.le_of_ble_eq_true rfl) rfl dX4_currentReading_1 ?_
  refine jn_g h (u10 fun w1 w2 w3 w4 w5 w6 w7 w8 w9 w10 => [(a0, .inr (4, [.ref a1, .ref b0_1, .ref b0_2, .ref a6, .ref b0_4, .ref b0_5, .ref b0_6, .int x0_length, .int w1])), (a1, .inr (2, [.ref a2, .ref a3, .ref a4, .ref a5, .int x1_size])), (a2, .inl (cI, 10, .inl f2)), (a3, .inl (cI, 10, .inl f3)), (a4, .inl (cI, 10, .inl f4)), (a5, .inl (cI, 10, .inl f5)), (a6, .inr (1, [.ref a7, .ref a8, .ref a9, .ref a10, .ref a11, .ref a12, .ref b6_6, .int w2, .int w3, .int w4])), (a7, .inl (cI, 10, .inl w5)), (a8, .inl (cI, 10, .inl w6)), (a9, .inl (cI, 10, .inl w7)), (a10, .inl (cI, 10, .inl w8)), (a11, .inl (cI, 10, .inl w9)), (a12, .inl (cI, 10, .inl w10))]) (u10 fun w1 w2 w3 w4 w5 w6 w7 w8 w9 w10 => [(0, .ref a0)]) (u10 fun w1 w2 w3 w4 w5 w6 w7 w8 w9 w10 => []) 23 ?_ ?_
  · rintro ⟨w1, w2, w3, w4, w5, w6, w7, w8, w9, w10⟩ h
    dsimp only [u10] at h ⊢
    refine g_aload_n X (j := 0) dX4_currentReading_23 rfl ?_
    refine g_get (q0 := 0) (k := 3) (ci := 4) X in_X4_currentReading_X4 fl_X4_currentReading_29 rfl rfl (Nat.le_of_ble_eq_true rfl) rfl dX4_currentReading_24 ?_
    have h := Option.some.inj h
    simp only [Prod.mk.injEq] at h
    obtain ⟨rfl, rfl, rfl, rfl, rfl, rfl, rfl, rfl, rfl, rfl⟩ := h
    exact g_aret X hr hlk dX4_currentReading_27 rfl
  · intro K11 hK11 h
    refine g_if_eq (tgt := 23) X h dX4_currentReading_4 (by decide) (fun h => ?_) (fun h => ?_)
    · exact hK11 (x0_isReadingOld, x6_areOrdersCounted, x6_isAnyOrder, x6_size, f7, f8, f9, f10, f11, f12) h
    · refine g_aload_n X (j := 0) dX4_currentReading_7 rfl ?_
      refine g_get (q0 := 0) (k := 3) (ci := 4) X in_X4_currentReading_X4 fl_X4_currentReading_29 rfl rfl (Nat.le_of_ble_eq_true rfl) rfl dX4_currentReading_8 ?_
      refine g_aload_n X (j := 0) dX4_currentReading_11 rfl ?_
      refine g_get (q0 := 0) (k := 0) (ci := 4) X in_X4_currentReading_X4 fl_X4_currentReading_12 rfl rfl (Nat.le_of_ble_eq_true rfl) rfl dX4_currentReading_12 ?_
      obtain ⟨o13, o14, o15, o16, o17, o18, o19, o20, o21, hc, h⟩ := bd9 h
      refine g_callV (q0 := 6) (ci := 1) (is := [6, 7, 8, 9, 10, 11, 12, 1, 2, 3, 4, 5]) (As := [.ref a1]) (ws' := [(a0, .inr (4, [.ref a1, .ref b0_1, .ref b0_2, .ref a6, .ref b0_4, .ref b0_5, .ref b0_6, .int x0_length, .int x0_isReadingOld])), (a1, .inr (2, [.ref a2, .ref a3, .ref a4, .ref a5, .int x1_size])), (a2, .inl (cI, 10, .inl f2)), (a3, .inl (cI, 10, .inl f3)), (a4, .inl (cI, 10, .inl f4)), (a5, .inl (cI, 10, .inl f5)), (a6, .inr (1, [.ref a7, .ref a8, .ref a9, .ref a10, .ref a11, .ref a12, .ref b6_6, .int o13, .int o14, .int o15])), (a7, .inl (cI, 10, .inl o16)), (a8, .inl (cI, 10, .inl o17)), (a9, .inl (cI, 10, .inl o18)), (a10, .inl (cI, 10, .inl o19)), (a11, .inl (cI, 10, .inl o20)), (a12, .inl (cI, 10, .inl o21))]) (st := []) X (c_X1_read l D cI cS cL a6 a7 a8 a9 a10 a11 a12 a1 a2 a3 a4 a5 b6_6 x6_areOrdersCounted x6_isAnyOrder x6_size f7 f8 f9 f10 f11 f12 x1_size f2 f3 f4 f5 o13 o14 o15 o16 o17 o18 o19 o20 o21 hc) gX4_currentReading_X1_read rfl ⟨rfl, rfl⟩ hd_X1_read ⟨Nat.le_of_ble_eq_true rfl, Nat.le_of_ble_eq_true rfl⟩ ⟨Nat.zero_le _, Nat.zero_le _⟩ rfl rfl rfl rfl rfl rfl rfl (Nat.le_of_ble_eq_true rfl) rfl dX4_currentReading_15 ?_
      refine g_aload_n X (j := 0) dX4_currentReading_18 rfl ?_
      refine g_iconst (v := 0) X dX4_currentReading_19 (by decide) ?_
      refine g_put (q0 := 0) (k := 8) (ci := 4) (ws' := [(a0, .inr (4, [.ref a1, .ref b0_1, .ref b0_2, .ref a6, .ref b0_4, .ref b0_5, .ref b0_6, .int x0_length, .int 0])), (a1, .inr (2, [.ref a2, .ref a3, .ref a4, .ref a5, .int x1_size])), (a2, .inl (cI, 10, .inl f2)), (a3, .inl (cI, 10, .inl f3)), (a4, .inl (cI, 10, .inl f4)), (a5, .inl (cI, 10, .inl f5)), (a6, .inr (1, [.ref a7, .ref a8, .ref a9, .ref a10, .ref a11, .ref a12, .ref b6_6, .int o13, .int o14, .int o15])), (a7, .inl (cI, 10, .inl o16)), (a8, .inl (cI, 10, .inl o17)), (a9, .inl (cI, 10, .inl o18)), (a10, .inl (cI, 10, .inl o19)), (a11, .inl (cI, 10, .inl o20)), (a12, .inl (cI, 10, .inl o21))]) X tyX4_ok nmX4 in_X4_currentReading_X4 fl_X4_currentReading_51 rfl rfl (Nat.le_of_ble_eq_true rfl) rfl rfl rfl (Nat.le_of_ble_eq_true rfl) dX4_currentReading_20 rfl ?_
      exact hK11 (0, o13, o14, o15, o16, o17, o18, o19, o20, o21) h
def f_X4_clearBuffer (x0_length : Int32) : Option (Int32 × Int32) := some (x0_length, 0)
theorem in_X4_clearBuffer_X4 : ∀ w ∈ wsX40, w ∈ wsX4_clearBuffer := by decide +kernel
theorem fl_X4_clearBuffer_47 : Cond.fieldLink RX4 47 "ColophonHunt" "length" "I" ∈ wsX4_clearBuffer := by decide +kernel
theorem hd_X4_clearBuffer : yX4_clearBuffer.cls = RX4 ∧ yX4_clearBuffer.cls ≠ "java/lang/invoke/MethodHandle" ∧ yX4_clearBuffer.cls ≠ "java/lang/invoke/VarHandle" ∧ (parseMethodDescriptor yX4_clearBuffer.desc).map (fun d => d.parameters.length) = some 0 := by decide +kernel
set_option maxRecDepth 100000 in
set_option maxHeartbeats 4000000 in
theorem c_X4_clearBuffer (l : Launch) (D : va_G) (cI cS cL : ClassId) (a0 : Nat) (b0_0 : Nat) (b0_1 : Nat) (b0_2 : Nat) (b0_3 : Nat) (b0_4 : Nat) (b0_5 : Nat) (b0_6 : Nat) (x0_length : Int32) (x0_isReadingOld : Int32) (rr : Int32) (y0 : Int32) (hc : f_X4_clearBuffer x0_length = some (rr, y0)) : KM l yX4_clearBuffer wsX4_clearBuffer { frames := 0, cells := 0, slots := 0, locals := 0 } D (tyS cI cS cL) [.ref a0] [(a0, .inr (4, [.ref b0_0, .ref b0_1, .ref b0_2, .ref b0_3, .ref b0_4, .ref b0_5, .ref b0_6, .int x0_length, .int x0_isReadingOld]))] (some (.int rr)) (fun w => w = [(a0, .inr (4, [.ref b0_0, .ref b0_1, .ref b0_2, .ref b0_3, .ref b0_4, .ref b0_5, .ref b0_6, .int y0, .int x0_isReadingOld]))]) 0 0 := by
  refine g_entry (cc := cX4_clearBuffer) (nL := 2) (rt := (some .int)) (by decide) rfl (Nat.le_of_ble_eq_true rfl) ?_
  intro p e s m args below meth c A (X : GC p s m args c cX4_clearBuffer 2 RX4 wsX4_clearBuffer D (tyS cI cS cL) A) hr hlk _ _
  have h := hc
  unfold f_X4_clearBuffer at h
  refine g_lv (lv' := [(0, .ref a0)]) [0] rfl ?_
  refine g_aload_n X (j := 0) dX4_clearBuffer_0 rfl ?_
  refine g_get (q0 := 0) (k := 7) (ci := 4) X in_X4_clearBuffer_X4 fl_X4_clearBuffer_47 rfl rfl (Nat.le_of_ble_eq_true rfl) rfl dX4_clearBuffer_1 ?_
  refine g_istore_n (lv' := [(1, .int x0_length), (0, .ref a0)]) X dX4_clearBuffer_4 rfl (by decide) rfl ?_
  refine g_aload_n X (j := 1) dX4_clearBuffer_5 rfl ?_
  refine g_iconst (v := 0) X dX4_clearBuffer_6 (by decide) ?_
  refine g_put (q0 := 0) (k := 7) (ci := 4) (ws' := [(a0, .inr (4, [.ref b0_0, .ref b0_1, .ref b0_2, .ref b0_3, .ref b0_4, .ref b0_5, .ref b0_6, .int 0, .int x0_isReadingOld]))]) X tyX4_ok nmX4 in_X4_clearBuffer_X4 fl_X4_clearBuffer_47 rfl rfl (Nat.le_of_ble_eq_true rfl) rfl rfl rfl (Nat.le_of_ble_eq_true rfl) dX4_clearBuffer_7 rfl ?_
  refine g_iload_n X (j := 0) dX4_clearBuffer_10 rfl ?_
  have h := Option.some.inj h
  simp only [Prod.mk.injEq] at h
  obtain ⟨rfl, rfl⟩ := h
  exact g_iret X hr hlk dX4_clearBuffer_11 rfl rfl
def f_X4_firstError (x0_length : Int32) (x1_parts : Int32) (x1_state : Int32) (x1_press : Int32) (x1_letters : Int32) (x1_mould : Int32) (x1_year : Int32) (x1_yearScale : Int32) (x2_size : Int32) (f3 : Nat → Int32) (f4 : Nat → Int32) (f5 : Nat → Int32) (f6 : Nat → Int32) (f7 : Nat → Int32) : Option (Int32 × Int32 × Int32 × Int32 × Int32 × Int32 × Int32 × Int32 × Int32 × (Nat → Int32) × (Nat → Int32) × (Nat → Int32) × (Nat → Int32)) := (f_X3_readToError x0_length x1_parts x1_state x1_press x1_letters x1_mould x1_year x1_yearScale x2_size f3 f4 f5 f6 60 f7).bind (u13 fun (r1 : Int32) (o2 : Int32) (o3 : Int32) (o4 : Int32) (o5 : Int32) (o6 : Int32) (o7 : Int32) (o8 : Int32) (o9 : Int32) (o10 : Nat → Int32) (o11 : Nat → Int32) (o12 : Nat → Int32) (o13 : Nat → Int32) => some (r1, o2, o3, o4, o5, o6, o7, o8, o9, o10, o11, o12, o13))
theorem in_X4_firstError_X4 : ∀ w ∈ wsX40, w ∈ wsX4_firstError := by decide +kernel
theorem fl_X4_firstError_39 : Cond.fieldLink RX4 39 "ColophonHunt" "textReader" "LColophonHunt$TextReader;" ∈ wsX4_firstError := by decide +kernel
theorem fl_X4_firstError_43 : Cond.fieldLink RX4 43 "ColophonHunt" "codes" "[I" ∈ wsX4_firstError := by decide +kernel
theorem fl_X4_firstError_47 : Cond.fieldLink RX4 47 "ColophonHunt" "length" "I" ∈ wsX4_firstError := by decide +kernel
theorem hd_X4_firstError : yX4_firstError.cls = RX4 ∧ yX4_firstError.cls ≠ "java/lang/invoke/MethodHandle" ∧ yX4_firstError.cls ≠ "java/lang/invoke/VarHandle" ∧ (parseMethodDescriptor yX4_firstError.desc).map (fun d => d.parameters.length) = some 0 := by decide +kernel
set_option maxRecDepth 100000 in
set_option maxHeartbeats 4000000 in
theorem c_X4_firstError (l : Launch) (D : va_G) (cI cS cL : ClassId) (a0 : Nat) (a1 : Nat) (a2 : Nat) (a3 : Nat) (a4 : Nat) (a5 : Nat) (a6 : Nat) (a7 : Nat) (b0_0 : Nat) (b0_1 : Nat) (b0_2 : Nat) (b0_3 : Nat) (b0_4 : Nat) (x0_length : Int32) (x0_isReadingOld : Int32) (x1_parts : Int32) (x1_state : Int32) (x1_press : Int32) (x1_letters : Int32) (x1_mould : Int32) (x1_year : Int32) (x1_yearScale : Int32) (x2_size : Int32) (f3 : Nat → Int32) (f4 : Nat → Int32) (f5 : Nat → Int32) (f6 : Nat → Int32) (f7 : Nat → Int32) (rr : Int32) (y0 : Int32) (y1 : Int32) (y2 : Int32) (y3 : Int32) (y4 : Int32) (y5 : Int32) (y6 : Int32) (y7 : Int32) (y8 : Nat → Int32) (y9 : Nat → Int32) (y10 : Nat → Int32) (y11 : Nat → Int32) (hc : f_X4_firstError x0_length x1_parts x1_state x1_press x1_letters x1_mould x1_year x1_yearScale x2_size f3 f4 f5 f6 f7 = some (rr, y0, y1, y2, y3, y4, y5, y6, y7, y8, y9, y10, y11)) : KM l yX4_firstError wsX4_firstError { frames := 6, cells := 0, slots := 0, locals := 130 } D (tyS cI cS cL) [.ref a0] [(a0, .inr (4, [.ref b0_0, .ref b0_1, .ref b0_2, .ref b0_3, .ref b0_4, .ref a1, .ref a7, .int x0_length, .int x0_isReadingOld])), (a1, .inr (3, [.ref a2, .int x1_parts, .int x1_state, .int x1_press, .int x1_letters, .int x1_mould, .int x1_year, .int x1_yearScale])), (a2, .inr (2, [.ref a3, .ref a4, .ref a5, .ref a6, .int x2_size])), (a3, .inl (cI, 10, .inl f3)), (a4, .inl (cI, 10, .inl f4)), (a5, .inl (cI, 10, .inl f5)), (a6, .inl (cI, 10, .inl f6)), (a7, .inl (cI, 60, .inl f7))] (some (.int rr)) (fun w => w = [(a0, .inr (4, [.ref b0_0, .ref b0_1, .ref b0_2, .ref b0_3, .ref b0_4, .ref a1, .ref a7, .int x0_length, .int x0_isReadingOld])), (a1, .inr (3, [.ref a2, .int y0, .int y1, .int y2, .int y3, .int y4, .int y5, .int y6])), (a2, .inr (2, [.ref a3, .ref a4, .ref a5, .ref a6, .int y7])), (a3, .inl (cI, 10, .inl y8)), (a4, .inl (cI, 10, .inl y9)), (a5, .inl (cI, 10, .inl y10)), (a6, .inl (cI, 10, .inl y11)), (a7, .inl (cI, 60, .inl f7))]) 0 0 := by
  refine g_entry (cc := cX4_firstError) (nL := 1) (rt := (some .int)) (by decide) rfl (Nat.le_of_ble_eq_true rfl) ?_
  intro p e s m args below meth c A (X : GC p s m args c cX4_firstError 1 RX4 wsX4_firstError D (tyS cI cS cL) A) hr hlk _ _
  have h := hc
  unfold f_X4_firstError at h
  refine g_lv (lv' := [(0, .ref a0)]) [0] rfl ?_
  refine g_aload_n X (j := 0) dX4_firstError_0 rfl ?_
  refine g_get (q0 := 0) (k := 5) (ci := 4) X in_X4_firstError_X4 fl_X4_firstError_39 rfl rfl (Nat.le_of_ble_eq_true rfl) rfl dX4_firstError_1 ?_
  refine g_aload_n X (j := 0) dX4_firstError_4 rfl ?_
  refine g_get (q0 := 0) (k := 6) (ci := 4) X in_X4_firstError_X4 fl_X4_firstError_43 rfl rfl (Nat.le_of_ble_eq_true rfl) rfl dX4_firstError_5 ?_
  refine g_aload_n X (j := 0) dX4_firstError_8 rfl ?_
  refine g_get (q0 := 0) (k := 7) (ci := 4) X in_X4_firstError_X4 fl_X4_firstError_47 rfl rfl (Nat.le_of_ble_eq_true rfl) rfl dX4_firstError_9 ?_
  obtain ⟨r1, o2, o3, o4, o5, o6, o7, o8, o9, o10, o11, o12, o13, hc, h⟩ := bd13 h
  refine g_callV (q0 := 1) (ci := 3) (is := [1, 2, 3, 4, 5, 6, 7]) (As := [.ref a7, .int x0_length]) (ws' := [(a0, .inr (4, [.ref b0_0, .ref b0_1, .ref b0_2, .ref b0_3, .ref b0_4, .ref a1, .ref a7, .int x0_length, .int x0_isReadingOld])), (a1, .inr (3, [.ref a2, .int o2, .int o3, .int o4, .int o5, .int o6, .int o7, .int o8])), (a2, .inr (2, [.ref a3, .ref a4, .ref a5, .ref a6, .int o9])), (a3, .inl (cI, 10, .inl o10)), (a4, .inl (cI, 10, .inl o11)), (a5, .inl (cI, 10, .inl o12)), (a6, .inl (cI, 10, .inl o13)), (a7, .inl (cI, 60, .inl f7))]) (st := []) X (c_X3_readToError l D cI cS cL a1 a2 a3 a4 a5 a6 a7 x0_length x1_parts x1_state x1_press x1_letters x1_mould x1_year x1_yearScale x2_size f3 f4 f5 f6 60 f7 r1 o2 o3 o4 o5 o6 o7 o8 o9 o10 o11 o12 o13 hc) gX4_firstError_X3_readToError rfl ⟨rfl, rfl⟩ hd_X3_readToError ⟨Nat.le_of_ble_eq_true rfl, Nat.le_of_ble_eq_true rfl⟩ ⟨Nat.zero_le _, Nat.zero_le _⟩ rfl rfl rfl rfl rfl rfl rfl (Nat.le_of_ble_eq_true rfl) rfl dX4_firstError_12 ?_
  have h := Option.some.inj h
  simp only [Prod.mk.injEq] at h
  obtain ⟨rfl, rfl, rfl, rfl, rfl, rfl, rfl, rfl, rfl, rfl, rfl, rfl, rfl⟩ := h
  exact g_iret X hr hlk dX4_firstError_15 rfl rfl
def f_X4_numberOfBook (p1 : Int32) (p2 : Int32) (x0_isReadingOld : Int32) (x1_size : Int32) (f2 : Nat → Int32) (f3 : Nat → Int32) (f4 : Nat → Int32) (f5 : Nat → Int32) (x6_areOrdersCounted : Int32) (x6_isAnyOrder : Int32) (x6_size : Int32) (f7 : Nat → Int32) (f8 : Nat → Int32) (f9 : Nat → Int32) (f10 : Nat → Int32) (f11 : Nat → Int32) (f12 : Nat → Int32) : Option (Int32 × Int32 × Int32 × Int32 × Int32 × (Nat → Int32) × (Nat → Int32) × (Nat → Int32) × (Nat → Int32) × (Nat → Int32) × (Nat → Int32)) := (f_X4_currentReading x0_isReadingOld x1_size f2 f3 f4 f5 x6_areOrdersCounted x6_isAnyOrder x6_size f7 f8 f9 f10 f11 f12).bind (u10 fun (o2 : Int32) (o3 : Int32) (o4 : Int32) (o5 : Int32) (o6 : Nat → Int32) (o7 : Nat → Int32) (o8 : Nat → Int32) (o9 : Nat → Int32) (o10 : Nat → Int32) (o11 : Nat → Int32) => (if p2 < 0 ∨ 9 < p2 then (rdA o6 10 p1).bind (fun v12 => (rdA o7 10 p1).bind (fun v13 => (f_J6_bitCount_0f7a4 (v12 &&& v13)).bind (u1 fun (r14 : Int32) => some (r14, o2, o3, o4, o5, o6, o7, o8, o9, o10, o11)))) else (if p2 = 0 then (rdA f2 10 p1).bind (fun v15 => some (v15, o2, o3, o4, o5, o6, o7, o8, o9, o10, o11)) else (if p2 = 1 then (rdA f3 10 p1).bind (fun v16 => some (v16, o2, o3, o4, o5, o6, o7, o8, o9, o10, o11)) else (if p2 = 2 then (rdA f4 10 p1).bind (fun v17 => some (v17, o2, o3, o4, o5, o6, o7, o8, o9, o10, o11)) else (if p2 = 3 then (rdA f5 10 p1).bind (fun v18 => some (v18, o2, o3, o4, o5, o6, o7, o8, o9, o10, o11)) else (if p2 = 4 then (rdA f3 10 p1).bind (fun v19 => (f_J6_bitCount_0f7a4 v19).bind (u1 fun (r20 : Int32) => some (r20, o2, o3, o4, o5, o6, o7, o8, o9, o10, o11))) else (if p2 = 5 then (rdA o8 10 p1).bind (fun v21 => some (v21, o2, o3, o4, o5, o6, o7, o8, o9, o10, o11)) else (if p2 = 6 then (rdA o9 10 p1).bind (fun v22 => some (v22, o2, o3, o4, o5, o6, o7, o8, o9, o10, o11)) else (if p2 = 7 then (f_X1_isDated p1 o8 o9).bind (u1 fun (r23 : Int32) => (jn (u1 fun (s24 : Int32) => some (s24, o2, o3, o4, o5, o6, o7, o8, o9, o10, o11)) (fun K25 => (if r23 = 0 then K25 0 else K25 1)))) else (if p2 = 8 then (rdA o6 10 p1).bind (fun v26 => (f_J6_bitCount_0f7a4 v26).bind (u1 fun (r27 : Int32) => some (r27, o2, o3, o4, o5, o6, o7, o8, o9, o10, o11))) else (if p2 = 9 then (rdA o7 10 p1).bind (fun v28 => (f_J6_bitCount_0f7a4 v28).bind (u1 fun (r29 : Int32) => some (r29, o2, o3, o4, o5, o6, o7, o8, o9, o10, o11))) else none))))))))))))
theorem in_X4_numberOfBook_X1 : ∀ w ∈ wsX10, w ∈ wsX4_numberOfBook := by decide +kernel
theorem fl_X4_numberOfBook_264 : Cond.fieldLink RX4 264 "ColophonHunt$Reading" "before" "[I" ∈ wsX4_numberOfBook := by decide +kernel
theorem fl_X4_numberOfBook_267 : Cond.fieldLink RX4 267 "ColophonHunt$Reading" "behind" "[I" ∈ wsX4_numberOfBook := by decide +kernel
theorem in_X4_numberOfBook_X4 : ∀ w ∈ wsX40, w ∈ wsX4_numberOfBook := by decide +kernel
theorem fl_X4_numberOfBook_12 : Cond.fieldLink RX4 12 "ColophonHunt" "shelf" "LColophonHunt$Shelf;" ∈ wsX4_numberOfBook := by decide +kernel
theorem in_X4_numberOfBook_X2 : ∀ w ∈ wsX20, w ∈ wsX4_numberOfBook := by decide +kernel
theorem fl_X4_numberOfBook_126 : Cond.fieldLink RX4 126 "ColophonHunt$Shelf" "presses" "[I" ∈ wsX4_numberOfBook := by decide +kernel
theorem fl_X4_numberOfBook_107 : Cond.fieldLink RX4 107 "ColophonHunt$Shelf" "letters" "[I" ∈ wsX4_numberOfBook := by decide +kernel
theorem fl_X4_numberOfBook_116 : Cond.fieldLink RX4 116 "ColophonHunt$Shelf" "moulds" "[I" ∈ wsX4_numberOfBook := by decide +kernel
theorem fl_X4_numberOfBook_121 : Cond.fieldLink RX4 121 "ColophonHunt$Shelf" "years" "[I" ∈ wsX4_numberOfBook := by decide +kernel
theorem fl_X4_numberOfBook_136 : Cond.fieldLink RX4 136 "ColophonHunt$Reading" "firstYears" "[I" ∈ wsX4_numberOfBook := by decide +kernel
theorem fl_X4_numberOfBook_261 : Cond.fieldLink RX4 261 "ColophonHunt$Reading" "lastYears" "[I" ∈ wsX4_numberOfBook := by decide +kernel
theorem hd_X4_numberOfBook : yX4_numberOfBook.cls = RX4 ∧ yX4_numberOfBook.cls ≠ "java/lang/invoke/MethodHandle" ∧ yX4_numberOfBook.cls ≠ "java/lang/invoke/VarHandle" ∧ (parseMethodDescriptor yX4_numberOfBook.desc).map (fun d => d.parameters.length) = some 2 := by decide +kernel
set_option maxRecDepth 100000 in
set_option maxHeartbeats 4000000 in
theorem c_X4_numberOfBook (l : Launch) (D : va_G) (cI cS cL : ClassId) (a0 : Nat) (a1 : Nat) (a2 : Nat) (a3 : Nat) (a4 : Nat) (a5 : Nat) (a6 : Nat) (a7 : Nat) (a8 : Nat) (a9 : Nat) (a10 : Nat) (a11 : Nat) (a12 : Nat) (b0_1 : Nat) (b0_2 : Nat) (b0_4 : Nat) (b0_5 : Nat) (b0_6 : Nat) (b6_6 : Nat) (p1 : Int32) (p2 : Int32) (x0_length : Int32) (x0_isReadingOld : Int32) (x1_size : Int32) (f2 : Nat → Int32) (f3 : Nat → Int32) (f4 : Nat → Int32) (f5 : Nat → Int32) (x6_areOrdersCounted : Int32) (x6_isAnyOrder : Int32) (x6_size : Int32) (f7 : Nat → Int32) (f8 : Nat → Int32) (f9 : Nat → Int32) (f10 : Nat → Int32) (f11 : Nat → Int32) (f12 : Nat → Int32) (rr : Int32) (y0 : Int32) (y1 : Int32) (y2 : Int32) (y3 : Int32) (y4 : Nat → Int32) (y5 : Nat → Int32) (y6 : Nat → Int32) (y7 : Nat → Int32) (y8 : Nat → Int32) (y9 : Nat → Int32) (hc : f_X4_numberOfBook p1 p2 x0_isReadingOld x1_size f2 f3 f4 f5 x6_areOrdersCounted x6_isAnyOrder x6_size f7 f8 f9 f10 f11 f12 = some (rr, y0, y1, y2, y3, y4, y5, y6, y7, y8, y9)) : KM l yX4_numberOfBook wsX4_numberOfBook { frames := 4, cells := 0, slots := 0, locals := 88 } D (tyS cI cS cL) [.ref a0, .int p1, .int p2] [(a0, .inr (4, [.ref a1, .ref b0_1, .ref b0_2, .ref a6, .ref b0_4, .ref b0_5, .ref b0_6, .int x0_length, .int x0_isReadingOld])), (a1, .inr (2, [.ref a2, .ref a3, .ref a4, .ref a5, .int x1_size])), (a2, .inl (cI, 10, .inl f2)), (a3, .inl (cI, 10, .inl f3)), (a4, .inl (cI, 10, .inl f4)), (a5, .inl (cI, 10, .inl f5)), (a6, .inr (1, [.ref a7, .ref a8, .ref a9, .ref a10, .ref a11, .ref a12, .ref b6_6, .int x6_areOrdersCounted, .int x6_isAnyOrder, .int x6_size])), (a7, .inl (cI, 10, .inl f7)), (a8, .inl (cI, 10, .inl f8)), (a9, .inl (cI, 10, .inl f9)), (a10, .inl (cI, 10, .inl f10)), (a11, .inl (cI, 10, .inl f11)), (a12, .inl (cI, 10, .inl f12))] (some (.int rr)) (fun w => w = [(a0, .inr (4, [.ref a1, .ref b0_1, .ref b0_2, .ref a6, .ref b0_4, .ref b0_5, .ref b0_6, .int x0_length, .int y0])), (a1, .inr (2, [.ref a2, .ref a3, .ref a4, .ref a5, .int x1_size])), (a2, .inl (cI, 10, .inl f2)), (a3, .inl (cI, 10, .inl f3)), (a4, .inl (cI, 10, .inl f4)), (a5, .inl (cI, 10, .inl f5)), (a6, .inr (1, [.ref a7, .ref a8, .ref a9, .ref a10, .ref a11, .ref a12, .ref b6_6, .int y1, .int y2, .int y3])), (a7, .inl (cI, 10, .inl y4)), (a8, .inl (cI, 10, .inl y5)), (a9, .inl (cI, 10, .inl y6)), (a10, .inl (cI, 10, .inl y7)), (a11, .inl (cI, 10, .inl y8)), (a12, .inl (cI, 10, .inl y9))]) 0 0 := by
  refine g_entry (cc := cX4_numberOfBook) (nL := 4) (rt := (some .int)) (by decide) rfl (Nat.le_of_ble_eq_true rfl) ?_
  intro p e s m args below meth c A (X : GC p s m args c cX4_numberOfBook 4 RX4 wsX4_numberOfBook D (tyS cI cS cL) A) hr hlk _ _
  have h := hc
  unfold f_X4_numberOfBook at h
  refine g_lv (lv' := [(0, .ref a0), (1, .int p1), (2, .int p2)]) [0, 1, 2] rfl ?_
  refine g_aload_n X (j := 0) dX4_numberOfBook_0 rfl ?_
  obtain ⟨o2, o3, o4, o5, o6, o7, o8, o9, o10, o11, hc, h⟩ := bd10 h
  refine g_callV (q0 := 0) (ci := 4) (is := [0, 1, 2, 3, 4, 5, 6, 7, 8, 9, 10, 11, 12]) (As := []) (ws' := [(a0, .inr (4, [.ref a1, .ref b0_1, .ref b0_2, .ref a6, .ref b0_4, .ref b0_5, .ref b0_6, .int x0_length, .int o2])), (a1, .inr (2, [.ref a2, .ref a3, .ref a4, .ref a5, .int x1_size])), (a2, .inl (cI, 10, .inl f2)), (a3, .inl (cI, 10, .inl f3)), (a4, .inl (cI, 10, .inl f4)), (a5, .inl (cI, 10, .inl f5)), (a6, .inr (1, [.ref a7, .ref a8, .ref a9, .ref a10, .ref a11, .ref a12, .ref b6_6, .int o3, .int o4, .int o5])), (a7, .inl (cI, 10, .inl o6)), (a8, .inl (cI, 10, .inl o7)), (a9, .inl (cI, 10, .inl o8)), (a10, .inl (cI, 10, .inl o9)), (a11, .inl (cI, 10, .inl o10)), (a12, .inl (cI, 10, .inl o11))]) (st := []) X (c_X4_currentReading l D cI cS cL a0 a1 a2 a3 a4 a5 a6 a7 a8 a9 a10 a11 a12 b0_1 b0_2 b0_4 b0_5 b0_6 b6_6 x0_length x0_isReadingOld x1_size f2 f3 f4 f5 x6_areOrdersCounted x6_isAnyOrder x6_size f7 f8 f9 f10 f11 f12 o2 o3 o4 o5 o6 o7 o8 o9 o10 o11 hc) gX4_numberOfBook_X4_currentReading rfl ⟨rfl, rfl⟩ hd_X4_currentReading ⟨Nat.le_of_ble_eq_true rfl, Nat.le_of_ble_eq_true rfl⟩ ⟨Nat.zero_le _, Nat.zero_le _⟩ rfl rfl rfl rfl rfl rfl rfl (Nat.le_of_ble_eq_true rfl) rfl dX4_numberOfBook_1 ?_
  refine g_astore_n (lv' := [(3, .ref a6), (0, .ref a0), (1, .int p1), (2, .int p2)]) X dX4_numberOfBook_4 rfl (by decide) rfl ?_
  refine g_iload_n X (j := 3) dX4_numberOfBook_5 rfl ?_
  refine g_tabOut (tgt := 161) X 0 9 h (by decide) (by decide) dX4_numberOfBook_6 (by decide) (fun h => ?_) (fun h => ?_)
  · refine g_aload_n X (j := 0) dX4_numberOfBook_161 rfl ?_
    refine g_get (q0 := 6) (k := 0) (ci := 1) X in_X4_numberOfBook_X1 fl_X4_numberOfBook_264 rfl rfl (Nat.le_of_ble_eq_true rfl) rfl dX4_numberOfBook_162 ?_
    refine g_iload_n X (j := 2) dX4_numberOfBook_165 rfl ?_
    refine g_iald (q0 := 7) (t0 := 0) X h rfl rfl dX4_numberOfBook_166 (fun v12 h => ?_)
    refine g_aload_n X (j := 0) dX4_numberOfBook_167 rfl ?_
    refine g_get (q0 := 6) (k := 1) (ci := 1) X in_X4_numberOfBook_X1 fl_X4_numberOfBook_267 rfl rfl (Nat.le_of_ble_eq_true rfl) rfl dX4_numberOfBook_168 ?_
    refine g_iload_n X (j := 2) dX4_numberOfBook_171 rfl ?_
    refine g_iald (q0 := 8) (t0 := 0) X h rfl rfl dX4_numberOfBook_172 (fun v13 h => ?_)
    refine g_iand X dX4_numberOfBook_173 ?_
    obtain ⟨r14, hc, h⟩ := bd1 h
    refine g_callS (is := []) (As := [.int (v12 &&& v13)]) (ws' := [(a0, .inr (4, [.ref a1, .ref b0_1, .ref b0_2, .ref a6, .ref b0_4, .ref b0_5, .ref b0_6, .int x0_length, .int o2])), (a1, .inr (2, [.ref a2, .ref a3, .ref a4, .ref a5, .int x1_size])), (a2, .inl (cI, 10, .inl f2)), (a3, .inl (cI, 10, .inl f3)), (a4, .inl (cI, 10, .inl f4)), (a5, .inl (cI, 10, .inl f5)), (a6, .inr (1, [.ref a7, .ref a8, .ref a9, .ref a10, .ref a11, .ref a12, .ref b6_6, .int o3, .int o4, .int o5])), (a7, .inl (cI, 10, .inl o6)), (a8, .inl (cI, 10, .inl o7)), (a9, .inl (cI, 10, .inl o8)), (a10, .inl (cI, 10, .inl o9)), (a11, .inl (cI, 10, .inl o10)), (a12, .inl (cI, 10, .inl o11))]) (st := []) X (c_J6_bitCount_0f7a4 l D cI cS cL (v12 &&& v13) r14 hc) gX4_numberOfBook_J6_bitCount_0f7a4 rfl ⟨rfl, rfl⟩ hd_J6_bitCount_0f7a4.2 ⟨Nat.le_of_ble_eq_true rfl, Nat.le_of_ble_eq_true rfl⟩ ⟨Nat.zero_le _, Nat.zero_le _⟩ rfl rfl rfl rfl rfl (Nat.le_of_ble_eq_true rfl) rfl dX4_numberOfBook_174 ?_
    have h := Option.some.inj h
    simp only [Prod.mk.injEq] at h
    obtain ⟨rfl, rfl, rfl, rfl, rfl, rfl, rfl, rfl, rfl, rfl, rfl⟩ := h
    exact g_iret X hr hlk dX4_numberOfBook_177 rfl rfl
  refine g_tabIn (tgt := 60) X 0 h dX4_numberOfBook_6 (by decide) (by decide) rfl (by decide) (fun h => ?_) (fun h => ?_)
  · refine g_aload_n X (j := 1) dX4_numberOfBook_60 rfl ?_
    refine g_get (q0 := 0) (k := 0) (ci := 4) X in_X4_numberOfBook_X4 fl_X4_numberOfBook_12 rfl rfl (Nat.le_of_ble_eq_true rfl) rfl dX4_numberOfBook_61 ?_
    refine g_get (q0 := 1) (k := 0) (ci := 2) X in_X4_numberOfBook_X2 fl_X4_numberOfBook_126 rfl rfl (Nat.le_of_ble_eq_true rfl) rfl dX4_numberOfBook_64 ?_
    refine g_iload_n X (j := 2) dX4_numberOfBook_67 rfl ?_
    refine g_iald (q0 := 2) (t0 := 0) X h rfl rfl dX4_numberOfBook_68 (fun v15 h => ?_)
    have h := Option.some.inj h
    simp only [Prod.mk.injEq] at h
    obtain ⟨rfl, rfl, rfl, rfl, rfl, rfl, rfl, rfl, rfl, rfl, rfl⟩ := h
    exact g_iret X hr hlk dX4_numberOfBook_69 rfl rfl
  refine g_tabIn (tgt := 70) X 1 h dX4_numberOfBook_6 (by decide) (by decide) rfl (by decide) (fun h => ?_) (fun h => ?_)
  · refine g_aload_n X (j := 1) dX4_numberOfBook_70 rfl ?_
    refine g_get (q0 := 0) (k := 0) (ci := 4) X in_X4_numberOfBook_X4 fl_X4_numberOfBook_12 rfl rfl (Nat.le_of_ble_eq_true rfl) rfl dX4_numberOfBook_71 ?_
    refine g_get (q0 := 1) (k := 1) (ci := 2) X in_X4_numberOfBook_X2 fl_X4_numberOfBook_107 rfl rfl (Nat.le_of_ble_eq_true rfl) rfl dX4_numberOfBook_74 ?_
    refine g_iload_n X (j := 2) dX4_numberOfBook_77 rfl ?_
    refine g_iald (q0 := 3) (t0 := 0) X h rfl rfl dX4_numberOfBook_78 (fun v16 h => ?_)
    have h := Option.some.inj h
    simp only [Prod.mk.injEq] at h
    obtain ⟨rfl, rfl, rfl, rfl, rfl, rfl, rfl, rfl, rfl, rfl, rfl⟩ := h
    exact g_iret X hr hlk dX4_numberOfBook_79 rfl rfl
  refine g_tabIn (tgt := 80) X 2 h dX4_numberOfBook_6 (by decide) (by decide) rfl (by decide) (fun h => ?_) (fun h => ?_)
  · refine g_aload_n X (j := 1) dX4_numberOfBook_80 rfl ?_
    refine g_get (q0 := 0) (k := 0) (ci := 4) X in_X4_numberOfBook_X4 fl_X4_numberOfBook_12 rfl rfl (Nat.le_of_ble_eq_true rfl) rfl dX4_numberOfBook_81 ?_
    refine g_get (q0 := 1) (k := 2) (ci := 2) X in_X4_numberOfBook_X2 fl_X4_numberOfBook_116 rfl rfl (Nat.le_of_ble_eq_true rfl) rfl dX4_numberOfBook_84 ?_
    refine g_iload_n X (j := 2) dX4_numberOfBook_87 rfl ?_
    refine g_iald (q0 := 4) (t0 := 0) X h rfl rfl dX4_numberOfBook_88 (fun v17 h => ?_)
    have h := Option.some.inj h
    simp only [Prod.mk.injEq] at h
    obtain ⟨rfl, rfl, rfl, rfl, rfl, rfl, rfl, rfl, rfl, rfl, rfl⟩ := h
    exact g_iret X hr hlk dX4_numberOfBook_89 rfl rfl
  refine g_tabIn (tgt := 90) X 3 h dX4_numberOfBook_6 (by decide) (by decide) rfl (by decide) (fun h => ?_) (fun h => ?_)
  · refine g_aload_n X (j := 1) dX4_numberOfBook_90 rfl ?_
    refine g_get (q0 := 0) (k := 0) (ci := 4) X in_X4_numberOfBook_X4 fl_X4_numberOfBook_12 rfl rfl (Nat.le_of_ble_eq_true rfl) rfl dX4_numberOfBook_91 ?_
    refine g_get (q0 := 1) (k := 3) (ci := 2) X in_X4_numberOfBook_X2 fl_X4_numberOfBook_121 rfl rfl (Nat.le_of_ble_eq_true rfl) rfl dX4_numberOfBook_94 ?_
    refine g_iload_n X (j := 2) dX4_numberOfBook_97 rfl ?_
    refine g_iald (q0 := 5) (t0 := 0) X h rfl rfl dX4_numberOfBook_98 (fun v18 h => ?_)
    have h := Option.some.inj h
    simp only [Prod.mk.injEq] at h
    obtain ⟨rfl, rfl, rfl, rfl, rfl, rfl, rfl, rfl, rfl, rfl, rfl⟩ := h
    exact g_iret X hr hlk dX4_numberOfBook_99 rfl rfl
  refine g_tabIn (tgt := 100) X 4 h dX4_numberOfBook_6 (by decide) (by decide) rfl (by decide) (fun h => ?_) (fun h => ?_)
  · refine g_aload_n X (j := 1) dX4_numberOfBook_100 rfl ?_
    refine g_get (q0 := 0) (k := 0) (ci := 4) X in_X4_numberOfBook_X4 fl_X4_numberOfBook_12 rfl rfl (Nat.le_of_ble_eq_true rfl) rfl dX4_numberOfBook_101 ?_
    refine g_get (q0 := 1) (k := 1) (ci := 2) X in_X4_numberOfBook_X2 fl_X4_numberOfBook_107 rfl rfl (Nat.le_of_ble_eq_true rfl) rfl dX4_numberOfBook_104 ?_
    refine g_iload_n X (j := 2) dX4_numberOfBook_107 rfl ?_
    refine g_iald (q0 := 3) (t0 := 0) X h rfl rfl dX4_numberOfBook_108 (fun v19 h => ?_)
    obtain ⟨r20, hc, h⟩ := bd1 h
    refine g_callS (is := []) (As := [.int v19]) (ws' := [(a0, .inr (4, [.ref a1, .ref b0_1, .ref b0_2, .ref a6, .ref b0_4, .ref b0_5, .ref b0_6, .int x0_length, .int o2])), (a1, .inr (2, [.ref a2, .ref a3, .ref a4, .ref a5, .int x1_size])), (a2, .inl (cI, 10, .inl f2)), (a3, .inl (cI, 10, .inl f3)), (a4, .inl (cI, 10, .inl f4)), (a5, .inl (cI, 10, .inl f5)), (a6, .inr (1, [.ref a7, .ref a8, .ref a9, .ref a10, .ref a11, .ref a12, .ref b6_6, .int o3, .int o4, .int o5])), (a7, .inl (cI, 10, .inl o6)), (a8, .inl (cI, 10, .inl o7)), (a9, .inl (cI, 10, .inl o8)), (a10, .inl (cI, 10, .inl o9)), (a11, .inl (cI, 10, .inl o10)), (a12, .inl (cI, 10, .inl o11))]) (st := []) X (c_J6_bitCount_0f7a4 l D cI cS cL v19 r20 hc) gX4_numberOfBook_J6_bitCount_0f7a4 rfl ⟨rfl, rfl⟩ hd_J6_bitCount_0f7a4.2 ⟨Nat.le_of_ble_eq_true rfl, Nat.le_of_ble_eq_true rfl⟩ ⟨Nat.zero_le _, Nat.zero_le _⟩ rfl rfl rfl rfl rfl (Nat.le_of_ble_eq_true rfl) rfl dX4_numberOfBook_109 ?_
    have h := Option.some.inj h
    simp only [Prod.mk.injEq] at h
    obtain ⟨rfl, rfl, rfl, rfl, rfl, rfl, rfl, rfl, rfl, rfl, rfl⟩ := h
    exact g_iret X hr hlk dX4_numberOfBook_112 rfl rfl
  refine g_tabIn (tgt := 113) X 5 h dX4_numberOfBook_6 (by decide) (by decide) rfl (by decide) (fun h => ?_) (fun h => ?_)
  · refine g_aload_n X (j := 0) dX4_numberOfBook_113 rfl ?_
    refine g_get (q0 := 6) (k := 2) (ci := 1) X in_X4_numberOfBook_X1 fl_X4_numberOfBook_136 rfl rfl (Nat.le_of_ble_eq_true rfl) rfl dX4_numberOfBook_114 ?_
    refine g_iload_n X (j := 2) dX4_numberOfBook_117 rfl ?_
    refine g_iald (q0 := 9) (t0 := 0) X h rfl rfl dX4_numberOfBook_118 (fun v21 h => ?_)
    have h := Option.some.inj h
    simp only [Prod.mk.injEq] at h
    obtain ⟨rfl, rfl, rfl, rfl, rfl, rfl, rfl, rfl, rfl, rfl, rfl⟩ := h
    exact g_iret X hr hlk dX4_numberOfBook_119 rfl rfl
  refine g_tabIn (tgt := 120) X 6 h dX4_numberOfBook_6 (by decide) (by decide) rfl (by decide) (fun h => ?_) (fun h => ?_)
  · refine g_aload_n X (j := 0) dX4_numberOfBook_120 rfl ?_
    refine g_get (q0 := 6) (k := 3) (ci := 1) X in_X4_numberOfBook_X1 fl_X4_numberOfBook_261 rfl rfl (Nat.le_of_ble_eq_true rfl) rfl dX4_numberOfBook_121 ?_
    refine g_iload_n X (j := 2) dX4_numberOfBook_124 rfl ?_
    refine g_iald (q0 := 10) (t0 := 0) X h rfl rfl dX4_numberOfBook_125 (fun v22 h => ?_)
    have h := Option.some.inj h
    simp only [Prod.mk.injEq] at h
    obtain ⟨rfl, rfl, rfl, rfl, rfl, rfl, rfl, rfl, rfl, rfl, rfl⟩ := h
    exact g_iret X hr hlk dX4_numberOfBook_126 rfl rfl
  refine g_tabIn (tgt := 127) X 7 h dX4_numberOfBook_6 (by decide) (by decide) rfl (by decide) (fun h => ?_) (fun h => ?_)
  · refine g_aload_n X (j := 0) dX4_numberOfBook_127 rfl ?_
    refine g_iload_n X (j := 2) dX4_numberOfBook_128 rfl ?_
    obtain ⟨r23, hc, h⟩ := bd1 h
    refine g_callV (q0 := 6) (ci := 1) (is := [6, 9, 10]) (As := [.int p1]) (ws' := [(a0, .inr (4, [.ref a1, .ref b0_1, .ref b0_2, .ref a6, .ref b0_4, .ref b0_5, .ref b0_6, .int x0_length, .int o2])), (a1, .inr (2, [.ref a2, .ref a3, .ref a4, .ref a5, .int x1_size])), (a2, .inl (cI, 10, .inl f2)), (a3, .inl (cI, 10, .inl f3)), (a4, .inl (cI, 10, .inl f4)), (a5, .inl (cI, 10, .inl f5)), (a6, .inr (1, [.ref a7, .ref a8, .ref a9, .ref a10, .ref a11, .ref a12, .ref b6_6, .int o3, .int o4, .int o5])), (a7, .inl (cI, 10, .inl o6)), (a8, .inl (cI, 10, .inl o7)), (a9, .inl (cI, 10, .inl o8)), (a10, .inl (cI, 10, .inl o9)), (a11, .inl (cI, 10, .inl o10)), (a12, .inl (cI, 10, .inl o11))]) (st := []) X (c_X1_isDated l D cI cS cL a6 a9 a10 a7 a8 a11 a12 b6_6 p1 o3 o4 o5 o8 o9 r23 hc) gX4_numberOfBook_X1_isDated rfl ⟨rfl, rfl⟩ hd_X1_isDated ⟨Nat.le_of_ble_eq_true rfl, Nat.le_of_ble_eq_true rfl⟩ ⟨Nat.zero_le _, Nat.zero_le _⟩ rfl rfl rfl rfl rfl rfl rfl (Nat.le_of_ble_eq_true rfl) rfl dX4_numberOfBook_129 ?_
    refine jn_g h (u1 fun s24 => [(a0, .inr (4, [.ref a1, .ref b0_1, .ref b0_2, .ref a6, .ref b0_4, .ref b0_5, .ref b0_6, .int x0_length, .int o2])), (a1, .inr (2, [.ref a2, .ref a3, .ref a4, .ref a5, .int x1_size])), (a2, .inl (cI, 10, .inl f2)), (a3, .inl (cI, 10, .inl f3)), (a4, .inl (cI, 10, .inl f4)), (a5, .inl (cI, 10, .inl f5)), (a6, .inr (1, [.ref a7, .ref a8, .ref a9, .ref a10, .ref a11, .ref a12, .ref b6_6, .int o3, .int o4, .int o5])), (a7, .inl (cI, 10, .inl o6)), (a8, .inl (cI, 10, .inl o7)), (a9, .inl (cI, 10, .inl o8)), (a10, .inl (cI, 10, .inl o9)), (a11, .inl (cI, 10, .inl o10)), (a12, .inl (cI, 10, .inl o11))]) (u1 fun s24 => []) (u1 fun s24 => [.int s24]) 140 ?_ ?_
    · rintro s24 h
      dsimp only [u1] at h ⊢
      have h := Option.some.inj h
      simp only [Prod.mk.injEq] at h
      obtain ⟨rfl, rfl, rfl, rfl, rfl, rfl, rfl, rfl, rfl, rfl, rfl⟩ := h
      exact g_iret X hr hlk dX4_numberOfBook_140 rfl rfl
    · intro K25 hK25 h
      refine g_if_eq (tgt := 139) X h dX4_numberOfBook_132 (by decide) (fun h => ?_) (fun h => ?_)
      · refine g_iconst (v := 0) X dX4_numberOfBook_139 (by decide) ?_
        refine g_lv (lv' := []) [] rfl ?_
        exact hK25 0 h
      · refine g_iconst (v := 1) X dX4_numberOfBook_135 (by decide) ?_
        refine g_goto (tgt := 140) X dX4_numberOfBook_136 (by decide) ?_
        refine g_lv (lv' := []) [] rfl ?_
        exact hK25 1 h
  refine g_tabIn (tgt := 141) X 8 h dX4_numberOfBook_6 (by decide) (by decide) rfl (by decide) (fun h => ?_) (fun h => ?_)
  · refine g_aload_n X (j := 0) dX4_numberOfBook_141 rfl ?_
    refine g_get (q0 := 6) (k := 0) (ci := 1) X in_X4_numberOfBook_X1 fl_X4_numberOfBook_264 rfl rfl (Nat.le_of_ble_eq_true rfl) rfl dX4_numberOfBook_142 ?_
    refine g_iload_n X (j := 2) dX4_numberOfBook_145 rfl ?_
    refine g_iald (q0 := 7) (t0 := 0) X h rfl rfl dX4_numberOfBook_146 (fun v26 h => ?_)
    obtain ⟨r27, hc, h⟩ := bd1 h
    refine g_callS (is := []) (As := [.int v26]) (ws' := [(a0, .inr (4, [.ref a1, .ref b0_1, .ref b0_2, .ref a6, .ref b0_4, .ref b0_5, .ref b0_6, .int x0_length, .int o2])), (a1, .inr (2, [.ref a2, .ref a3, .ref a4, .ref a5, .int x1_size])), (a2, .inl (cI, 10, .inl f2)), (a3, .inl (cI, 10, .inl f3)), (a4, .inl (cI, 10, .inl f4)), (a5, .inl (cI, 10, .inl f5)), (a6, .inr (1, [.ref a7, .ref a8, .ref a9, .ref a10, .ref a11, .ref a12, .ref b6_6, .int o3, .int o4, .int o5])), (a7, .inl (cI, 10, .inl o6)), (a8, .inl (cI, 10, .inl o7)), (a9, .inl (cI, 10, .inl o8)), (a10, .inl (cI, 10, .inl o9)), (a11, .inl (cI, 10, .inl o10)), (a12, .inl (cI, 10, .inl o11))]) (st := []) X (c_J6_bitCount_0f7a4 l D cI cS cL v26 r27 hc) gX4_numberOfBook_J6_bitCount_0f7a4 rfl ⟨rfl, rfl⟩ hd_J6_bitCount_0f7a4.2 ⟨Nat.le_of_ble_eq_true rfl, Nat.le_of_ble_eq_true rfl⟩ ⟨Nat.zero_le _, Nat.zero_le _⟩ rfl rfl rfl rfl rfl (Nat.le_of_ble_eq_true rfl) rfl dX4_numberOfBook_147 ?_
    have h := Option.some.inj h
    simp only [Prod.mk.injEq] at h
    obtain ⟨rfl, rfl, rfl, rfl, rfl, rfl, rfl, rfl, rfl, rfl, rfl⟩ := h
    exact g_iret X hr hlk dX4_numberOfBook_150 rfl rfl
  refine g_tabIn (tgt := 151) X 9 h dX4_numberOfBook_6 (by decide) (by decide) rfl (by decide) (fun h => ?_) (fun h => ?_)
  · refine g_aload_n X (j := 0) dX4_numberOfBook_151 rfl ?_
    refine g_get (q0 := 6) (k := 1) (ci := 1) X in_X4_numberOfBook_X1 fl_X4_numberOfBook_267 rfl rfl (Nat.le_of_ble_eq_true rfl) rfl dX4_numberOfBook_152 ?_
    refine g_iload_n X (j := 2) dX4_numberOfBook_155 rfl ?_
    refine g_iald (q0 := 8) (t0 := 0) X h rfl rfl dX4_numberOfBook_156 (fun v28 h => ?_)
    obtain ⟨r29, hc, h⟩ := bd1 h
    refine g_callS (is := []) (As := [.int v28]) (ws' := [(a0, .inr (4, [.ref a1, .ref b0_1, .ref b0_2, .ref a6, .ref b0_4, .ref b0_5, .ref b0_6, .int x0_length, .int o2])), (a1, .inr (2, [.ref a2, .ref a3, .ref a4, .ref a5, .int x1_size])), (a2, .inl (cI, 10, .inl f2)), (a3, .inl (cI, 10, .inl f3)), (a4, .inl (cI, 10, .inl f4)), (a5, .inl (cI, 10, .inl f5)), (a6, .inr (1, [.ref a7, .ref a8, .ref a9, .ref a10, .ref a11, .ref a12, .ref b6_6, .int o3, .int o4, .int o5])), (a7, .inl (cI, 10, .inl o6)), (a8, .inl (cI, 10, .inl o7)), (a9, .inl (cI, 10, .inl o8)), (a10, .inl (cI, 10, .inl o9)), (a11, .inl (cI, 10, .inl o10)), (a12, .inl (cI, 10, .inl o11))]) (st := []) X (c_J6_bitCount_0f7a4 l D cI cS cL v28 r29 hc) gX4_numberOfBook_J6_bitCount_0f7a4 rfl ⟨rfl, rfl⟩ hd_J6_bitCount_0f7a4.2 ⟨Nat.le_of_ble_eq_true rfl, Nat.le_of_ble_eq_true rfl⟩ ⟨Nat.zero_le _, Nat.zero_le _⟩ rfl rfl rfl rfl rfl (Nat.le_of_ble_eq_true rfl) rfl dX4_numberOfBook_157 ?_
    have h := Option.some.inj h
    simp only [Prod.mk.injEq] at h
    obtain ⟨rfl, rfl, rfl, rfl, rfl, rfl, rfl, rfl, rfl, rfl, rfl⟩ := h
    exact g_iret X hr hlk dX4_numberOfBook_160 rfl rfl
  cases h
