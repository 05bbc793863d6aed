theorem dX2_clear_0 : decode cX2_clear 0 = .ok (.aload_n 0, 1) := by decide +kernel
theorem dX2_clear_1 : decode cX2_clear 1 = .ok (.iconst 0, 1) := by decide +kernel
theorem dX2_clear_2 : decode cX2_clear 2 = .ok (.putfield 24, 3) := by decide +kernel
theorem dX2_clear_5 : decode cX2_clear 5 = .ok (.return_, 1) := by decide +kernel
theorem dX2_add_0 : decode cX2_add 0 = .ok (.aload_n 0, 1) := by decide +kernel
theorem dX2_add_1 : decode cX2_add 1 = .ok (.getfield 24, 3) := by decide +kernel
theorem dX2_add_4 : decode cX2_add 4 = .ok (.bipush 10, 2) := by decide +kernel
theorem dX2_add_6 : decode cX2_add 6 = .ok (.if_icmp .lt 4, 3) := by decide +kernel
theorem dX2_add_9 : decode cX2_add 9 = .ok (.return_, 1) := by decide +kernel
theorem dX2_add_10 : decode cX2_add 10 = .ok (.aload_n 0, 1) := by decide +kernel
theorem dX2_add_11 : decode cX2_add 11 = .ok (.getfield 9, 3) := by decide +kernel
theorem dX2_add_14 : decode cX2_add 14 = .ok (.aload_n 0, 1) := by decide +kernel
theorem dX2_add_15 : decode cX2_add 15 = .ok (.getfield 24, 3) := by decide +kernel
theorem dX2_add_18 : decode cX2_add 18 = .ok (.iload_n 1, 1) := by decide +kernel
theorem dX2_add_19 : decode cX2_add 19 = .ok (.iastore, 1) := by decide +kernel
theorem dX2_add_20 : decode cX2_add 20 = .ok (.aload_n 0, 1) := by decide +kernel
theorem dX2_add_21 : decode cX2_add 21 = .ok (.getfield 15, 3) := by decide +kernel
theorem dX2_add_24 : decode cX2_add 24 = .ok (.aload_n 0, 1) := by decide +kernel
theorem dX2_add_25 : decode cX2_add 25 = .ok (.getfield 24, 3) := by decide +kernel
theorem dX2_add_28 : decode cX2_add 28 = .ok (.iload_n 2, 1) := by decide +kernel
theorem dX2_add_29 : decode cX2_add 29 = .ok (.iastore, 1) := by decide +kernel
theorem dX2_add_30 : decode cX2_add 30 = .ok (.aload_n 0, 1) := by decide +kernel
theorem dX2_add_31 : decode cX2_add 31 = .ok (.getfield 18, 3) := by decide +kernel
theorem dX2_add_34 : decode cX2_add 34 = .ok (.aload_n 0, 1) := by decide +kernel
theorem dX2_add_35 : decode cX2_add 35 = .ok (.getfield 24, 3) := by decide +kernel
theorem dX2_add_38 : decode cX2_add 38 = .ok (.iload_n 3, 1) := by decide +kernel
theorem dX2_add_39 : decode cX2_add 39 = .ok (.iastore, 1) := by decide +kernel
theorem dX2_add_40 : decode cX2_add 40 = .ok (.aload_n 0, 1) := by decide +kernel
theorem dX2_add_41 : decode cX2_add 41 = .ok (.getfield 21, 3) := by decide +kernel
theorem dX2_add_44 : decode cX2_add 44 = .ok (.aload_n 0, 1) := by decide +kernel
theorem dX2_add_45 : decode cX2_add 45 = .ok (.getfield 24, 3) := by decide +kernel
theorem dX2_add_48 : decode cX2_add 48 = .ok (.iload 4, 2) := by decide +kernel
theorem dX2_add_50 : decode cX2_add 50 = .ok (.iastore, 1) := by decide +kernel
theorem dX2_add_51 : decode cX2_add 51 = .ok (.aload_n 0, 1) := by decide +kernel
theorem dX2_add_52 : decode cX2_add 52 = .ok (.dup, 1) := by decide +kernel
theorem dX2_add_53 : decode cX2_add 53 = .ok (.getfield 24, 3) := by decide +kernel
theorem dX2_add_56 : decode cX2_add 56 = .ok (.iconst 1, 1) := by decide +kernel
theorem dX2_add_57 : decode cX2_add 57 = .ok (.iadd, 1) := by decide +kernel
theorem dX2_add_58 : decode cX2_add 58 = .ok (.putfield 24, 3) := by decide +kernel
theorem dX2_add_61 : decode cX2_add 61 = .ok (.return_, 1) := by decide +kernel
set_option maxRecDepth 20000 in
theorem ggX2_addAll_X2_add : GoodIn wsX2_addAll wsX2_add := goodIn_r _ [10, 1, 2, 3, 4, 5, 11, 12, 13, 14, 15] (by decide +kernel) (by decide +kernel)
set_option maxRecDepth 20000 in
theorem gX2_addAll_X2_add : GoodIn wsX2_addAll (wsV RX2 28 RX2 yX2_add wsX2_add) := goodIn_app (goodIn_of _ (by decide +kernel)) ggX2_addAll_X2_add
theorem dX2_addAll_0 : decode cX2_addAll 0 = .ok (.iconst 0, 1) := by decide +kernel
theorem dX2_addAll_1 : decode cX2_addAll 1 = .ok (.istore_n 2, 1) := by decide +kernel
theorem dX2_addAll_2 : decode cX2_addAll 2 = .ok (.iload_n 2, 1) := by decide +kernel
theorem dX2_addAll_3 : decode cX2_addAll 3 = .ok (.aload_n 1, 1) := by decide +kernel
theorem dX2_addAll_4 : decode cX2_addAll 4 = .ok (.getfield 24, 3) := by decide +kernel
theorem dX2_addAll_7 : decode cX2_addAll 7 = .ok (.if_icmp .ge 37, 3) := by decide +kernel
theorem dX2_addAll_10 : decode cX2_addAll 10 = .ok (.aload_n 0, 1) := by decide +kernel
theorem dX2_addAll_11 : decode cX2_addAll 11 = .ok (.aload_n 1, 1) := by decide +kernel
theorem dX2_addAll_12 : decode cX2_addAll 12 = .ok (.getfield 9, 3) := by decide +kernel
theorem dX2_addAll_15 : decode cX2_addAll 15 = .ok (.iload_n 2, 1) := by decide +kernel
theorem dX2_addAll_16 : decode cX2_addAll 16 = .ok (.iaload, 1) := by decide +kernel
theorem dX2_addAll_17 : decode cX2_addAll 17 = .ok (.aload_n 1, 1) := by decide +kernel
theorem dX2_addAll_18 : decode cX2_addAll 18 = .ok (.getfield 15, 3) := by decide +kernel
theorem dX2_addAll_21 : decode cX2_addAll 21 = .ok (.iload_n 2, 1) := by decide +kernel
theorem dX2_addAll_22 : decode cX2_addAll 22 = .ok (.iaload, 1) := by decide +kernel
theorem dX2_addAll_23 : decode cX2_addAll 23 = .ok (.aload_n 1, 1) := by decide +kernel
theorem dX2_addAll_24 : decode cX2_addAll 24 = .ok (.getfield 18, 3) := by decide +kernel
theorem dX2_addAll_27 : decode cX2_addAll 27 = .ok (.iload_n 2, 1) := by decide +kernel
theorem dX2_addAll_28 : decode cX2_addAll 28 = .ok (.iaload, 1) := by decide +kernel
theorem dX2_addAll_29 : decode cX2_addAll 29 = .ok (.aload_n 1, 1) := by decide +kernel
theorem dX2_addAll_30 : decode cX2_addAll 30 = .ok (.getfield 21, 3) := by decide +kernel
theorem dX2_addAll_33 : decode cX2_addAll 33 = .ok (.iload_n 2, 1) := by decide +kernel
theorem dX2_addAll_34 : decode cX2_addAll 34 = .ok (.iaload, 1) := by decide +kernel
theorem dX2_addAll_35 : decode cX2_addAll 35 = .ok (.invokevirtual 28, 3) := by decide +kernel
theorem dX2_addAll_38 : decode cX2_addAll 38 = .ok (.iinc 2 1, 3) := by decide +kernel
theorem dX2_addAll_41 : decode cX2_addAll 41 = .ok (.goto (-39), 3) := by decide +kernel
theorem dX2_addAll_44 : decode cX2_addAll 44 = .ok (.return_, 1) := by decide +kernel
theorem dX2_remove_0 : decode cX2_remove 0 = .ok (.iload_n 1, 1) := by decide +kernel
theorem dX2_remove_1 : decode cX2_remove 1 = .ok (.istore_n 2, 1) := by decide +kernel
theorem dX2_remove_2 : decode cX2_remove 2 = .ok (.iload_n 2, 1) := by decide +kernel
theorem dX2_remove_3 : decode cX2_remove 3 = .ok (.iconst 1, 1) := by decide +kernel
theorem dX2_remove_4 : decode cX2_remove 4 = .ok (.iadd, 1) := by decide +kernel
theorem dX2_remove_5 : decode cX2_remove 5 = .ok (.aload_n 0, 1) := by decide +kernel
theorem dX2_remove_6 : decode cX2_remove 6 = .ok (.getfield 24, 3) := by decide +kernel
theorem dX2_remove_9 : decode cX2_remove 9 = .ok (.if_icmp .ge 65, 3) := by decide +kernel
theorem dX2_remove_12 : decode cX2_remove 12 = .ok (.aload_n 0, 1) := by decide +kernel
theorem dX2_remove_13 : decode cX2_remove 13 = .ok (.getfield 9, 3) := by decide +kernel
theorem dX2_remove_16 : decode cX2_remove 16 = .ok (.iload_n 2, 1) := by decide +kernel
theorem dX2_remove_17 : decode cX2_remove 17 = .ok (.aload_n 0, 1) := by decide +kernel
theorem dX2_remove_18 : decode cX2_remove 18 = .ok (.getfield 9, 3) := by decide +kernel
theorem dX2_remove_21 : decode cX2_remove 21 = .ok (.iload_n 2, 1) := by decide +kernel
theorem dX2_remove_22 : decode cX2_remove 22 = .ok (.iconst 1, 1) := by decide +kernel
theorem dX2_remove_23 : decode cX2_remove 23 = .ok (.iadd, 1) := by decide +kernel
theorem dX2_remove_24 : decode cX2_remove 24 = .ok (.iaload, 1) := by decide +kernel
theorem dX2_remove_25 : decode cX2_remove 25 = .ok (.iastore, 1) := by decide +kernel
theorem dX2_remove_26 : decode cX2_remove 26 = .ok (.aload_n 0, 1) := by decide +kernel
theorem dX2_remove_27 : decode cX2_remove 27 = .ok (.getfield 15, 3) := by decide +kernel
theorem dX2_remove_30 : decode cX2_remove 30 = .ok (.iload_n 2, 1) := by decide +kernel
theorem dX2_remove_31 : decode cX2_remove 31 = .ok (.aload_n 0, 1) := by decide +kernel
theorem dX2_remove_32 : decode cX2_remove 32 = .ok (.getfield 15, 3) := by decide +kernel
theorem dX2_remove_35 : decode cX2_remove 35 = .ok (.iload_n 2, 1) := by decide +kernel
theorem dX2_remove_36 : decode cX2_remove 36 = .ok (.iconst 1, 1) := by decide +kernel
theorem dX2_remove_37 : decode cX2_remove 37 = .ok (.iadd, 1) := by decide +kernel
theorem dX2_remove_38 : decode cX2_remove 38 = .ok (.iaload, 1) := by decide +kernel
theorem dX2_remove_39 : decode cX2_remove 39 = .ok (.iastore, 1) := by decide +kernel
theorem dX2_remove_40 : decode cX2_remove 40 = .ok (.aload_n 0, 1) := by decide +kernel
theorem dX2_remove_41 : decode cX2_remove 41 = .ok (.getfield 18, 3) := by decide +kernel
theorem dX2_remove_44 : decode cX2_remove 44 = .ok (.iload_n 2, 1) := by decide +kernel
theorem dX2_remove_45 : decode cX2_remove 45 = .ok (.aload_n 0, 1) := by decide +kernel
theorem dX2_remove_46 : decode cX2_remove 46 = .ok (.getfield 18, 3) := by decide +kernel
theorem dX2_remove_49 : decode cX2_remove 49 = .ok (.iload_n 2, 1) := by decide +kernel
theorem dX2_remove_50 : decode cX2_remove 50 = .ok (.iconst 1, 1) := by decide +kernel
theorem dX2_remove_51 : decode cX2_remove 51 = .ok (.iadd, 1) := by decide +kernel
theorem dX2_remove_52 : decode cX2_remove 52 = .ok (.iaload, 1) := by decide +kernel
theorem dX2_remove_53 : decode cX2_remove 53 = .ok (.iastore, 1) := by decide +kernel
theorem dX2_remove_54 : decode cX2_remove 54 = .ok (.aload_n 0, 1) := by decide +kernel
theorem dX2_remove_55 : decode cX2_remove 55 = .ok (.getfield 21, 3) := by decide +kernel
theorem dX2_remove_58 : decode cX2_remove 58 = .ok (.iload_n 2, 1) := by decide +kernel
theorem dX2_remove_59 : decode cX2_remove 59 = .ok (.aload_n 0, 1) := by decide +kernel
theorem dX2_remove_60 : decode cX2_remove 60 = .ok (.getfield 21, 3) := by decide +kernel
theorem dX2_remove_63 : decode cX2_remove 63 = .ok (.iload_n 2, 1) := by decide +kernel
theorem dX2_remove_64 : decode cX2_remove 64 = .ok (.iconst 1, 1) := by decide +kernel
theorem dX2_remove_65 : decode cX2_remove 65 = .ok (.iadd, 1) := by decide +kernel
theorem dX2_remove_66 : decode cX2_remove 66 = .ok (.iaload, 1) := by decide +kernel
theorem dX2_remove_67 : decode cX2_remove 67 = .ok (.iastore, 1) := by decide +kernel
theorem dX2_remove_68 : decode cX2_remove 68 = .ok (.iinc 2 1, 3) := by decide +kernel
theorem dX2_remove_71 : decode cX2_remove 71 = .ok (.goto (-69), 3) := by decide +kernel
theorem dX2_remove_74 : decode cX2_remove 74 = .ok (.aload_n 0, 1) := by decide +kernel
theorem dX2_remove_75 : decode cX2_remove 75 = .ok (.dup, 1) := by decide +kernel
theorem dX2_remove_76 : decode cX2_remove 76 = .ok (.getfield 24, 3) := by decide +kernel
theorem dX2_remove_79 : decode cX2_remove 79 = .ok (.iconst 1, 1) := by decide +kernel
theorem dX2_remove_80 : decode cX2_remove 80 = .ok (.isub, 1) := by decide +kernel
theorem dX2_remove_81 : decode cX2_remove 81 = .ok (.putfield 24, 3) := by decide +kernel
theorem dX2_remove_84 : decode cX2_remove 84 = .ok (.return_, 1) := by decide +kernel
theorem dJ6_bitCount_0f7a4_0 : decode cJ6_bitCount_0f7a4 0 = .ok (.iload_n 0, 1) := by decide +kernel
theorem dJ6_bitCount_0f7a4_1 : decode cJ6_bitCount_0f7a4 1 = .ok (.iload_n 0, 1) := by decide +kernel
theorem dJ6_bitCount_0f7a4_2 : decode cJ6_bitCount_0f7a4 2 = .ok (.iconst 1, 1) := by decide +kernel
theorem dJ6_bitCount_0f7a4_3 : decode cJ6_bitCount_0f7a4 3 = .ok (.iushr, 1) := by decide +kernel
theorem dJ6_bitCount_0f7a4_4 : decode cJ6_bitCount_0f7a4 4 = .ok (.ldc_w 265, 3) := by decide +kernel
theorem dJ6_bitCount_0f7a4_7 : decode cJ6_bitCount_0f7a4 7 = .ok (.iand, 1) := by decide +kernel
theorem dJ6_bitCount_0f7a4_8 : decode cJ6_bitCount_0f7a4 8 = .ok (.isub, 1) := by decide +kernel
theorem dJ6_bitCount_0f7a4_9 : decode cJ6_bitCount_0f7a4 9 = .ok (.istore_n 0, 1) := by decide +kernel
theorem dJ6_bitCount_0f7a4_10 : decode cJ6_bitCount_0f7a4 10 = .ok (.iload_n 0, 1) := by decide +kernel
theorem dJ6_bitCount_0f7a4_11 : decode cJ6_bitCount_0f7a4 11 = .ok (.ldc_w 266, 3) := by decide +kernel
theorem dJ6_bitCount_0f7a4_14 : decode cJ6_bitCount_0f7a4 14 = .ok (.iand, 1) := by decide +kernel
theorem dJ6_bitCount_0f7a4_15 : decode cJ6_bitCount_0f7a4 15 = .ok (.iload_n 0, 1) := by decide +kernel
theorem dJ6_bitCount_0f7a4_16 : decode cJ6_bitCount_0f7a4 16 = .ok (.iconst 2, 1) := by decide +kernel
theorem dJ6_bitCount_0f7a4_17 : decode cJ6_bitCount_0f7a4 17 = .ok (.iushr, 1) := by decide +kernel
theorem dJ6_bitCount_0f7a4_18 : decode cJ6_bitCount_0f7a4 18 = .ok (.ldc_w 266, 3) := by decide +kernel
theorem dJ6_bitCount_0f7a4_21 : decode cJ6_bitCount_0f7a4 21 = .ok (.iand, 1) := by decide +kernel
theorem dJ6_bitCount_0f7a4_22 : decode cJ6_bitCount_0f7a4 22 = .ok (.iadd, 1) := by decide +kernel
theorem dJ6_bitCount_0f7a4_23 : decode cJ6_bitCount_0f7a4 23 = .ok (.istore_n 0, 1) := by decide +kernel
theorem dJ6_bitCount_0f7a4_24 : decode cJ6_bitCount_0f7a4 24 = .ok (.iload_n 0, 1) := by decide +kernel
theorem dJ6_bitCount_0f7a4_25 : decode cJ6_bitCount_0f7a4 25 = .ok (.iload_n 0, 1) := by decide +kernel
theorem dJ6_bitCount_0f7a4_26 : decode cJ6_bitCount_0f7a4 26 = .ok (.iconst 4, 1) := by decide +kernel
theorem dJ6_bitCount_0f7a4_27 : decode cJ6_bitCount_0f7a4 27 = .ok (.iushr, 1) := by decide +kernel
theorem dJ6_bitCount_0f7a4_28 : decode cJ6_bitCount_0f7a4 28 = .ok (.iadd, 1) := by decide +kernel
theorem dJ6_bitCount_0f7a4_29 : decode cJ6_bitCount_0f7a4 29 = .ok (.ldc_w 267, 3) := by decide +kernel
theorem dJ6_bitCount_0f7a4_32 : decode cJ6_bitCount_0f7a4 32 = .ok (.iand, 1) := by decide +kernel
theorem dJ6_bitCount_0f7a4_33 : decode cJ6_bitCount_0f7a4 33 = .ok (.istore_n 0, 1) := by decide +kernel
theorem dJ6_bitCount_0f7a4_34 : decode cJ6_bitCount_0f7a4 34 = .ok (.iload_n 0, 1) := by decide +kernel
theorem dJ6_bitCount_0f7a4_35 : decode cJ6_bitCount_0f7a4 35 = .ok (.iload_n 0, 1) := by decide +kernel
theorem dJ6_bitCount_0f7a4_36 : decode cJ6_bitCount_0f7a4 36 = .ok (.bipush 8, 2) := by decide +kernel
theorem dJ6_bitCount_0f7a4_38 : decode cJ6_bitCount_0f7a4 38 = .ok (.iushr, 1) := by decide +kernel
theorem dJ6_bitCount_0f7a4_39 : decode cJ6_bitCount_0f7a4 39 = .ok (.iadd, 1) := by decide +kernel
theorem dJ6_bitCount_0f7a4_40 : decode cJ6_bitCount_0f7a4 40 = .ok (.istore_n 0, 1) := by decide +kernel
theorem dJ6_bitCount_0f7a4_41 : decode cJ6_bitCount_0f7a4 41 = .ok (.iload_n 0, 1) := by decide +kernel
theorem dJ6_bitCount_0f7a4_42 : decode cJ6_bitCount_0f7a4 42 = .ok (.iload_n 0, 1) := by decide +kernel
theorem dJ6_bitCount_0f7a4_43 : decode cJ6_bitCount_0f7a4 43 = .ok (.bipush 16, 2) := by decide +kernel
theorem dJ6_bitCount_0f7a4_45 : decode cJ6_bitCount_0f7a4 45 = .ok (.iushr, 1) := by decide +kernel
theorem dJ6_bitCount_0f7a4_46 : decode cJ6_bitCount_0f7a4 46 = .ok (.iadd, 1) := by decide +kernel
theorem dJ6_bitCount_0f7a4_47 : decode cJ6_bitCount_0f7a4 47 = .ok (.istore_n 0, 1) := by decide +kernel
theorem dJ6_bitCount_0f7a4_48 : decode cJ6_bitCount_0f7a4 48 = .ok (.iload_n 0, 1) := by decide +kernel
theorem dJ6_bitCount_0f7a4_49 : decode cJ6_bitCount_0f7a4 49 = .ok (.bipush 63, 2) := by decide +kernel
theorem dJ6_bitCount_0f7a4_51 : decode cJ6_bitCount_0f7a4 51 = .ok (.iand, 1) := by decide +kernel
theorem dJ6_bitCount_0f7a4_52 : decode cJ6_bitCount_0f7a4 52 = .ok (.ireturn, 1) := by decide +kernel
def f_J6_bitCount_0f7a4 (p0 : Int32) : Option (Int32) := some ((((((((p0 - (((p0.toUInt32 >>> (((1 : Int32)).toUInt32 &&& Int32.toUInt32 31)).toInt32) &&& 1431655765)) &&& 858993459) + ((((p0 - (((p0.toUInt32 >>> (((1 : Int32)).toUInt32 &&& Int32.toUInt32 31)).toInt32) &&& 1431655765)).toUInt32 >>> (((2 : Int32)).toUInt32 &&& Int32.toUInt32 31)).toInt32) &&& 858993459)) + (((((p0 - (((p0.toUInt32 >>> (((1 : Int32)).toUInt32 &&& Int32.toUInt32 31)).toInt32) &&& 1431655765)) &&& 858993459) + ((((p0 - (((p0.toUInt32 >>> (((1 : Int32)).toUInt32 &&& Int32.toUInt32 31)).toInt32) &&& 1431655765)).toUInt32 >>> (((2 : Int32)).toUInt32 &&& Int32.toUInt32 31)).toInt32) &&& 858993459)).toUInt32 >>> (((4 : Int32)).toUInt32 &&& Int32.toUInt32 31)).toInt32)) &&& 252645135) + (((((((p0 - (((p0.toUInt32 >>> (((1 : Int32)).toUInt32 &&& Int32.toUInt32 31)).toInt32) &&& 1431655765)) &&& 858993459) + ((((p0 - (((p0.toUInt32 >>> (((1 : Int32)).toUInt32 &&& Int32.toUInt32 31)).toInt32) &&& 1431655765)).toUInt32 >>> (((2 : Int32)).toUInt32 &&& Int32.toUInt32 31)).toInt32) &&& 858993459)) + (((((p0 - (((p0.toUInt32 >>> (((1 : Int32)).toUInt32 &&& Int32.toUInt32 31)).toInt32) &&& 1431655765)) &&& 858993459) + ((((p0 - (((p0.toUInt32 >>> (((1 : Int32)).toUInt32 &&& Int32.toUInt32 31)).toInt32) &&& 1431655765)).toUInt32 >>> (((2 : Int32)).toUInt32 &&& Int32.toUInt32 31)).toInt32) &&& 858993459)).toUInt32 >>> (((4 : Int32)).toUInt32 &&& Int32.toUInt32 31)).toInt32)) &&& 252645135).toUInt32 >>> (((8 : Int32)).toUInt32 &&& Int32.toUInt32 31)).toInt32)) + ((((((((p0 - (((p0.toUInt32 >>> (((1 : Int32)).toUInt32 &&& Int32.toUInt32 31)).toInt32) &&& 1431655765)) &&& 858993459) + ((((p0 - (((p0.toUInt32 >>> (((1 : Int32)).toUInt32 &&& Int32.toUInt32 31)).toInt32) &&& 1431655765)).toUInt32 >>> (((2 : Int32)).toUInt32 &&& Int32.toUInt32 31)).toInt32) &&& 858993459)) + (((((p0 - (((p0.toUInt32 >>> (((1 : Int32)).toUInt32 &&& Int32.toUInt32 31)).toInt32) &&& 1431655765)) &&& 858993459) + ((((p0 - (((p0.toUInt32 >>> (((1 : Int32)).toUInt32 &&& Int32.toUInt32 31)).toInt32) &&& 1431655765)).toUInt32 >>> (((2 : Int32)).toUInt32 &&& Int32.toUInt32 31)).toInt32) &&& 858993459)).toUInt32 >>> (((4 : Int32)).toUInt32 &&& Int32.toUInt32 31)).toInt32)) &&& 252645135) + (((((((p0 - (((p0.toUInt32 >>> (((1 : Int32)).toUInt32 &&& Int32.toUInt32 31)).toInt32) &&& 1431655765)) &&& 858993459) + ((((p0 - (((p0.toUInt32 >>> (((1 : Int32)).toUInt32 &&& Int32.toUInt32 31)).toInt32) &&& 1431655765)).toUInt32 >>> (((2 : Int32)).toUInt32 &&& Int32.toUInt32 31)).toInt32) &&& 858993459)) + (((((p0 - (((p0.toUInt32 >>> (((1 : Int32)).toUInt32 &&& Int32.toUInt32 31)).toInt32) &&& 1431655765)) &&& 858993459) + ((((p0 - (((p0.toUInt32 >>> (((1 : Int32)).toUInt32 &&& Int32.toUInt32 31)).toInt32) &&& 1431655765)).toUInt32 >>> (((2 : Int32)).toUInt32 &&& Int32.toUInt32 31)).toInt32) &&& 858993459)).toUInt32 >>> (((4 : Int32)).toUInt32 &&& Int32.toUInt32 31)).toInt32)) &&& 252645135).toUInt32 >>> (((8 : Int32)).toUInt32 &&& Int32.toUInt32 31)).toInt32)).toUInt32 >>> (((16 : Int32)).toUInt32 &&& Int32.toUInt32 31)).toInt32)) &&& 63)
theorem ct_J6_bitCount_0f7a4_265 : Jvm.Cond.constant RJ6 265 (1431655765) ∈ wsJ6_bitCount_0f7a4 := by decide +kernel
theorem ct_J6_bitCount_0f7a4_266 : Jvm.Cond.constant RJ6 266 (858993459) ∈ wsJ6_bitCount_0f7a4 := by decide +kernel
theorem ct_J6_bitCount_0f7a4_267 : Jvm.Cond.constant RJ6 267 (252645135) ∈ wsJ6_bitCount_0f7a4 := by decide +kernel
theorem hd_J6_bitCount_0f7a4 : yJ6_bitCount_0f7a4.cls = RJ6 ∧ yJ6_bitCount_0f7a4.cls ≠ "java/lang/invoke/MethodHandle" ∧ yJ6_bitCount_0f7a4.cls ≠ "java/lang/invoke/VarHandle" ∧ (parseMethodDescriptor yJ6_bitCount_0f7a4.desc).map (fun d => d.parameters.length) = some 1 := by decide +kernel
set_option maxRecDepth 100000 in
set_option maxHeartbeats 4000000 in
theorem c_J6_bitCount_0f7a4 (l : Launch) (D : va_G) (cI cS cL : ClassId) (p0 : Int32) (rr : Int32) (hc : f_J6_bitCount_0f7a4 p0 = some rr) : KM l yJ6_bitCount_0f7a4 wsJ6_bitCount_0f7a4 { frames := 0, cells := 0, slots := 0, locals := 0 } D (tyS cI cS cL) [.int p0] [] (some (.int rr)) (fun w => w = []) 0 0 := by
  refine g_entry (cc := cJ6_bitCount_0f7a4) (nL := 1) (rt := (some .int)) (by decide) rfl (Nat.le_of_ble_eq_true rfl) ?_
  intro p e s m args below meth c A (X : GC p s m args c cJ6_bitCount_0f7a4 1 RJ6 wsJ6_bitCount_0f7a4 D (tyS cI cS cL) A) hr hlk _ _
  have h := hc
  unfold f_J6_bitCount_0f7a4 at h
  refine g_lv (lv' := [(0, .int p0)]) [0] rfl ?_
  refine g_iload_n X (j := 0) dJ6_bitCount_0f7a4_0 rfl ?_
  refine g_iload_n X (j := 0) dJ6_bitCount_0f7a4_1 rfl ?_
  refine g_iconst (v := 1) X dJ6_bitCount_0f7a4_2 (by decide) ?_
  refine g_iushr X dJ6_bitCount_0f7a4_3 rfl ?_
  refine g_ldcw X ct_J6_bitCount_0f7a4_265 dJ6_bitCount_0f7a4_4 ?_
  refine g_iand X dJ6_bitCount_0f7a4_7 ?_
  refine g_isub X dJ6_bitCount_0f7a4_8 ?_
  refine g_istore_n (lv' := [(0, .int (p0 - (((p0.toUInt32 >>> (((1 : Int32)).toUInt32 &&& Int32.toUInt32 31)).toInt32) &&& 1431655765)))]) X dJ6_bitCount_0f7a4_9 rfl (by decide) rfl ?_
  refine g_iload_n X (j := 0) dJ6_bitCount_0f7a4_10 rfl ?_
  refine g_ldcw X ct_J6_bitCount_0f7a4_266 dJ6_bitCount_0f7a4_11 ?_
  refine g_iand X dJ6_bitCount_0f7a4_14 ?_
  refine g_iload_n X (j := 0) dJ6_bitCount_0f7a4_15 rfl ?_
  refine g_iconst (v := 2) X dJ6_bitCount_0f7a4_16 (by decide) ?_
  refine g_iushr X dJ6_bitCount_0f7a4_17 rfl ?_
  refine g_ldcw X ct_J6_bitCount_0f7a4_266 dJ6_bitCount_0f7a4_18 ?_
  refine g_iand X dJ6_bitCount_0f7a4_21 ?_
  refine g_iadd X dJ6_bitCount_0f7a4_22 ?_
  refine g_istore_n (lv' := [(0, .int (((p0 - (((p0.toUInt32 >>> (((1 : Int32)).toUInt32 &&& Int32.toUInt32 31)).toInt32) &&& 1431655765)) &&& 858993459) + ((((p0 - (((p0.toUInt32 >>> (((1 : Int32)).toUInt32 &&& Int32.toUInt32 31)).toInt32) &&& 1431655765)).toUInt32 >>> (((2 : Int32)).toUInt32 &&& Int32.toUInt32 31)).toInt32) &&& 858993459)))]) X dJ6_bitCount_0f7a4_23 rfl (by decide) rfl ?_
  refine g_iload_n X (j := 0) dJ6_bitCount_0f7a4_24 rfl ?_
  refine g_iload_n X (j := 0) dJ6_bitCount_0f7a4_25 rfl ?_
  refine g_iconst (v := 4) X dJ6_bitCount_0f7a4_26 (by decide) ?_
  refine g_iushr X dJ6_bitCount_0f7a4_27 rfl ?_
  refine g_iadd X dJ6_bitCount_0f7a4_28 ?_
  refine g_ldcw X ct_J6_bitCount_0f7a4_267 dJ6_bitCount_0f7a4_29 ?_
  refine g_iand X dJ6_bitCount_0f7a4_32 ?_
  refine g_istore_n (lv' := [(0, .int (((((p0 - (((p0.toUInt32 >>> (((1 : Int32)).toUInt32 &&& Int32.toUInt32 31)).toInt32) &&& 1431655765)) &&& 858993459) + ((((p0 - (((p0.toUInt32 >>> (((1 : Int32)).toUInt32 &&& Int32.toUInt32 31)).toInt32) &&& 1431655765)).toUInt32 >>> (((2 : Int32)).toUInt32 &&& Int32.toUInt32 31)).toInt32) &&& 858993459)) + (((((p0 - (((p0.toUInt32 >>> (((1 : Int32)).toUInt32 &&& Int32.toUInt32 31)).toInt32) &&& 1431655765)) &&& 858993459) + ((((p0 - (((p0.toUInt32 >>> (((1 : Int32)).toUInt32 &&& Int32.toUInt32 31)).toInt32) &&& 1431655765)).toUInt32 >>> (((2 : Int32)).toUInt32 &&& Int32.toUInt32 31)).toInt32) &&& 858993459)).toUInt32 >>> (((4 : Int32)).toUInt32 &&& Int32.toUInt32 31)).toInt32)) &&& 252645135))]) X dJ6_bitCount_0f7a4_33 rfl (by decide) rfl ?_
  refine g_iload_n X (j := 0) dJ6_bitCount_0f7a4_34 rfl ?_
  refine g_iload_n X (j := 0) dJ6_bitCount_0f7a4_35 rfl ?_
  refine g_bipush (v := 8) X dJ6_bitCount_0f7a4_36 (by decide) ?_
  refine g_iushr X dJ6_bitCount_0f7a4_38 rfl ?_
  refine g_iadd X dJ6_bitCount_0f7a4_39 ?_
  refine g_istore_n (lv' := [(0, .int ((((((p0 - (((p0.toUInt32 >>> (((1 : Int32)).toUInt32 &&& Int32.toUInt32 31)).toInt32) &&& 1431655765)) &&& 858993459) + ((((p0 - (((p0.toUInt32 >>> (((1 : Int32)).toUInt32 &&& Int32.toUInt32 31)).toInt32) &&& 1431655765)).toUInt32 >>> (((2 : Int32)).toUInt32 &&& Int32.toUInt32 31)).toInt32) &&& 858993459)) + (((((p0 - (((p0.toUInt32 >>> (((1 : Int32)).toUInt32 &&& Int32.toUInt32 31)).toInt32) &&& 1431655765)) &&& 858993459) + ((((p0 - (((p0.toUInt32 >>> (((1 : Int32)).toUInt32 &&& Int32.toUInt32 31)).toInt32) &&& 1431655765)).toUInt32 >>> (((2 : Int32)).toUInt32 &&& Int32.toUInt32 31)).toInt32) &&& 858993459)).toUInt32 >>> (((4 : Int32)).toUInt32 &&& Int32.toUInt32 31)).toInt32)) &&& 252645135) + (((((((p0 - (((p0.toUInt32 >>> (((1 : Int32)).toUInt32 &&& Int32.toUInt32 31)).toInt32) &&& 1431655765)) &&& 858993459) + ((((p0 - (((p0.toUInt32 >>> (((1 : Int32)).toUInt32 &&& Int32.toUInt32 31)).toInt32) &&& 1431655765)).toUInt32 >>> (((2 : Int32)).toUInt32 &&& Int32.toUInt32 31)).toInt32) &&& 858993459)) + (((((p0 - (((p0.toUInt32 >>> (((1 : Int32)).toUInt32 &&& Int32.toUInt32 31)).toInt32) &&& 1431655765)) &&& 858993459) + ((((p0 - (((p0.toUInt32 >>> (((1 : Int32)).toUInt32 &&& Int32.toUInt32 31)).toInt32) &&& 1431655765)).toUInt32 >>> (((2 : Int32)).toUInt32 &&& Int32.toUInt32 31)).toInt32) &&& 858993459)).toUInt32 >>> (((4 : Int32)).toUInt32 &&& Int32.toUInt32 31)).toInt32)) &&& 252645135).toUInt32 >>> (((8 : Int32)).toUInt32 &&& Int32.toUInt32 31)).toInt32)))]) X dJ6_bitCount_0f7a4_40 rfl (by decide) rfl ?_
  refine g_iload_n X (j := 0) dJ6_bitCount_0f7a4_41 rfl ?_
  refine g_iload_n X (j := 0) dJ6_bitCount_0f7a4_42 rfl ?_
  refine g_bipush (v := 16) X dJ6_bitCount_0f7a4_43 (by decide) ?_
  refine g_iushr X dJ6_bitCount_0f7a4_45 rfl ?_
  refine g_iadd X dJ6_bitCount_0f7a4_46 ?_
  refine g_istore_n (lv' := [(0, .int (((((((p0 - (((p0.toUInt32 >>> (((1 : Int32)).toUInt32 &&& Int32.toUInt32 31)).toInt32) &&& 1431655765)) &&& 858993459) + ((((p0 - (((p0.toUInt32 >>> (((1 : Int32)).toUInt32 &&& Int32.toUInt32 31)).toInt32) &&& 1431655765)).toUInt32 >>> (((2 : Int32)).toUInt32 &&& Int32.toUInt32 31)).toInt32) &&& 858993459)) + (((((p0 - (((p0.toUInt32 >>> (((1 : Int32)).toUInt32 &&& Int32.toUInt32 31)).toInt32) &&& 1431655765)) &&& 858993459) + ((((p0 - (((p0.toUInt32 >>> (((1 : Int32)).toUInt32 &&& Int32.toUInt32 31)).toInt32) &&& 1431655765)).toUInt32 >>> (((2 : Int32)).toUInt32 &&& Int32.toUInt32 31)).toInt32) &&& 858993459)).toUInt32 >>> (((4 : Int32)).toUInt32 &&& Int32.toUInt32 31)).toInt32)) &&& 252645135) + (((((((p0 - (((p0.toUInt32 >>> (((1 : Int32)).toUInt32 &&& Int32.toUInt32 31)).toInt32) &&& 1431655765)) &&& 858993459) + ((((p0 - (((p0.toUInt32 >>> (((1 : Int32)).toUInt32 &&& Int32.toUInt32 31)).toInt32) &&& 1431655765)).toUInt32 >>> (((2 : Int32)).toUInt32 &&& Int32.toUInt32 31)).toInt32) &&& 858993459)) + (((((p0 - (((p0.toUInt32 >>> (((1 : Int32)).toUInt32 &&& Int32.toUInt32 31)).toInt32) &&& 1431655765)) &&& 858993459) + ((((p0 - (((p0.toUInt32 >>> (((1 : Int32)).toUInt32 &&& Int32.toUInt32 31)).toInt32) &&& 1431655765)).toUInt32 >>> (((2 : Int32)).toUInt32 &&& Int32.toUInt32 31)).toInt32) &&& 858993459)).toUInt32 >>> (((4 : Int32)).toUInt32 &&& Int32.toUInt32 31)).toInt32)) &&& 252645135).toUInt32 >>> (((8 : Int32)).toUInt32 &&& Int32.toUInt32 31)).toInt32)) + ((((((((p0 - (((p0.toUInt32 >>> (((1 : Int32)).toUInt32 &&& Int32.toUInt32 31)).toInt32) &&& 1431655765)) &&& 858993459) + ((((p0 - (((p0.toUInt32 >>> (((1 : Int32)).toUInt32 &&& Int32.toUInt32 31)).toInt32) &&& 1431655765)).toUInt32 >>> (((2 : Int32)).toUInt32 &&& Int32.toUInt32 31)).toInt32) &&& 858993459)) + (((((p0 - (((p0.toUInt32 >>> (((1 : Int32)).toUInt32 &&& Int32.toUInt32 31)).toInt32) &&& 1431655765)) &&& 858993459) + ((((p0 - (((p0.toUInt32 >>> (((1 : Int32)).toUInt32 &&& Int32.toUInt32 31)).toInt32) &&& 1431655765)).toUInt32 >>> (((2 : Int32)).toUInt32 &&& Int32.toUInt32 31)).toInt32) &&& 858993459)).toUInt32 >>> (((4 : Int32)).toUInt32 &&& Int32.toUInt32 31)).toInt32)) &&& 252645135) + (((((((p0 - (((p0.toUInt32 >>> (((1 : Int32)).toUInt32 &&& Int32.toUInt32 31)).toInt32) &&& 1431655765)) &&& 858993459) + ((((p0 - (((p0.toUInt32 >>> (((1 : Int32)).toUInt32 &&& Int32.toUInt32 31)).toInt32) &&& 1431655765)).toUInt32 >>> (((2 : Int32)).toUInt32 &&& Int32.toUInt32 31)).toInt32) &&& 858993459)) + (((((p0 - (((p0.toUInt32 >>> (((1 : Int32)).toUInt32 &&& Int32.toUInt32 31)).toInt32) &&& 1431655765)) &&& 858993459) + ((((p0 - (((p0.toUInt32 >>> (((1 : Int32)).toUInt32 &&& Int32.toUInt32 31)).toInt32) &&& 1431655765)).toUInt32 >>> (((2 : Int32)).toUInt32 &&& Int32.toUInt32 31)).toInt32) &&& 858993459)).toUInt32 >>> (((4 : Int32)).toUInt32 &&& Int32.toUInt32 31)).toInt32)) &&& 252645135).toUInt32 >>> (((8 : Int32)).toUInt32 &&& Int32.toUInt32 31)).toInt32)).toUInt32 >>> (((16 : Int32)).toUInt32 &&& Int32.toUInt32 31)).toInt32)))]) X dJ6_bitCount_0f7a4_47 rfl (by decide) rfl ?_
  refine g_iload_n X (j := 0) dJ6_bitCount_0f7a4_48 rfl ?_
  refine g_bipush (v := 63) X dJ6_bitCount_0f7a4_49 (by decide) ?_
  refine g_iand X dJ6_bitCount_0f7a4_51 ?_
  have h := Option.some.inj h
  subst h
  exact g_iret X hr hlk dJ6_bitCount_0f7a4_52 rfl rfl
def f_X2_clear (x0_size : Int32) : Option (Int32) := some 0
theorem in_X2_clear_X2 : ∀ w ∈ wsX20, w ∈ wsX2_clear := by decide +kernel
theorem fl_X2_clear_24 : Cond.fieldLink RX2 24 "ColophonHunt$Shelf" "size" "I" ∈ wsX2_clear := by decide +kernel
theorem hd_X2_clear : yX2_clear.cls = RX2 ∧ yX2_clear.cls ≠ "java/lang/invoke/MethodHandle" ∧ yX2_clear.cls ≠ "java/lang/invoke/VarHandle" ∧ (parseMethodDescriptor yX2_clear.desc).map (fun d => d.parameters.length) = some 0 := by decide +kernel
set_option maxRecDepth 100000 in
set_option maxHeartbeats 4000000 in
theorem c_X2_clear (l : Launch) (D : va_G) (cI cS cL : ClassId) (a0 : Nat) (b0_0 : Nat) (b0_1 : Nat) (b0_2 : Nat) (b0_3 : Nat) (x0_size : Int32) (y0 : Int32) (hc : f_X2_clear x0_size = some y0) : KM l yX2_clear wsX2_clear { frames := 0, cells := 0, slots := 0, locals := 0 } D (tyS cI cS cL) [.ref a0] [(a0, .inr (2, [.ref b0_0, .ref b0_1, .ref b0_2, .ref b0_3, .int x0_size]))] none (fun w => w = [(a0, .inr (2, [.ref b0_0, .ref b0_1, .ref b0_2, .ref b0_3, .int y0]))]) 0 0 := by
  refine g_entry (cc := cX2_clear) (nL := 1) (rt := none) (by decide) rfl (Nat.le_of_ble_eq_true rfl) ?_
  intro p e s m args below meth c A (X : GC p s m args c cX2_clear 1 RX2 wsX2_clear D (tyS cI cS cL) A) hr hlk _ _
  have h := hc
  unfold f_X2_clear at h
  refine g_lv (lv' := [(0, .ref a0)]) [0] rfl ?_
  refine g_aload_n X (j := 0) dX2_clear_0 rfl ?_
  refine g_iconst (v := 0) X dX2_clear_1 (by decide) ?_
  refine g_put (q0 := 0) (k := 4) (ci := 2) (ws' := [(a0, .inr (2, [.ref b0_0, .ref b0_1, .ref b0_2, .ref b0_3, .int 0]))]) X tyX2_ok nmX2 in_X2_clear_X2 fl_X2_clear_24 rfl rfl (Nat.le_of_ble_eq_true rfl) rfl rfl rfl (Nat.le_of_ble_eq_true rfl) dX2_clear_2 rfl ?_
  have h := Option.some.inj h
  subst h
  exact g_vret X hr hlk dX2_clear_5 rfl
def f_X2_add (p1 : Int32) (p2 : Int32) (p3 : Int32) (p4 : Int32) (x0_size : Int32) (f1 : Nat → Int32) (f2 : Nat → Int32) (f3 : Nat → Int32) (f4 : Nat → Int32) : Option (Int32 × (Nat → Int32) × (Nat → Int32) × (Nat → Int32) × (Nat → Int32)) := (if x0_size < 10 then (wrA f1 10 x0_size p1).bind (fun g1 => (wrA f2 10 x0_size p2).bind (fun g2 => (wrA f3 10 x0_size p3).bind (fun g3 => (wrA f4 10 x0_size p4).bind (fun g4 => some ((x0_size + 1), g1, g2, g3, g4))))) else some (x0_size, f1, f2, f3, f4))
theorem in_X2_add_X2 : ∀ w ∈ wsX20, w ∈ wsX2_add := by decide +kernel
theorem fl_X2_add_24 : Cond.fieldLink RX2 24 "ColophonHunt$Shelf" "size" "I" ∈ wsX2_add := by decide +kernel
theorem fl_X2_add_9 : Cond.fieldLink RX2 9 "ColophonHunt$Shelf" "presses" "[I" ∈ wsX2_add := by decide +kernel
theorem fl_X2_add_15 : Cond.fieldLink RX2 15 "ColophonHunt$Shelf" "letters" "[I" ∈ wsX2_add := by decide +kernel
theorem fl_X2_add_18 : Cond.fieldLink RX2 18 "ColophonHunt$Shelf" "moulds" "[I" ∈ wsX2_add := by decide +kernel
theorem fl_X2_add_21 : Cond.fieldLink RX2 21 "ColophonHunt$Shelf" "years" "[I" ∈ wsX2_add := by decide +kernel
theorem hd_X2_add : yX2_add.cls = RX2 ∧ yX2_add.cls ≠ "java/lang/invoke/MethodHandle" ∧ yX2_add.cls ≠ "java/lang/invoke/VarHandle" ∧ (parseMethodDescriptor yX2_add.desc).map (fun d => d.parameters.length) = some 4 := by decide +kernel
set_option maxRecDepth 100000 in
set_option maxHeartbeats 4000000 in
theorem c_X2_add (l : Launch) (D : va_G) (cI cS cL : ClassId) (a0 : Nat) (a1 : Nat) (a2 : Nat) (a3 : Nat) (a4 : Nat) (p1 : Int32) (p2 : Int32) (p3 : Int32) (p4 : Int32) (x0_size : Int32) (f1 : Nat → Int32) (f2 : Nat → Int32) (f3 : Nat → Int32) (f4 : Nat → Int32) (y0 : Int32) (y1 : Nat → Int32) (y2 : Nat → Int32) (y3 : Nat → Int32) (y4 : Nat → Int32) (hc : f_X2_add p1 p2 p3 p4 x0_size f1 f2 f3 f4 = some (y0, y1, y2, y3, y4)) : KM l yX2_add wsX2_add { frames := 0, cells := 0, slots := 0, locals := 0 } D (tyS cI cS cL) [.ref a0, .int p1, .int p2, .int p3, .int p4] [(a0, .inr (2, [.ref a1, .ref a2, .ref a3, .ref a4, .int x0_size])), (a1, .inl (cI, 10, .inl f1)), (a2, .inl (cI, 10, .inl f2)), (a3, .inl (cI, 10, .inl f3)), (a4, .inl (cI, 10, .inl f4))] none (fun w => w = [(a0, .inr (2, [.ref a1, .ref a2, .ref a3, .ref a4, .int y0])), (a1, .inl (cI, 10, .inl y1)), (a2, .inl (cI, 10, .inl y2)), (a3, .inl (cI, 10, .inl y3)), (a4, .inl (cI, 10, .inl y4))]) 0 0 := by
  refine g_entry (cc := cX2_add) (nL := 5) (rt := none) (by decide) rfl (Nat.le_of_ble_eq_true rfl) ?_
  intro p e s m args below meth c A (X : GC p s m args c cX2_add 5 RX2 wsX2_add D (tyS cI cS cL) A) hr hlk _ _
  have h := hc
  unfold f_X2_add at h
  refine g_lv (lv' := [(0, .ref a0), (1, .int p1), (2, .int p2), (3, .int p3), (4, .int p4)]) [0, 1, 2, 3, 4] rfl ?_
  refine g_aload_n X (j := 0) dX2_add_0 rfl ?_
  refine g_get (q0 := 0) (k := 4) (ci := 2) X in_X2_add_X2 fl_X2_add_24 rfl rfl (Nat.le_of_ble_eq_true rfl) rfl dX2_add_1 ?_
  refine g_bipush (v := 10) X dX2_add_4 (by decide) ?_
  refine g_icmp_lt (tgt := 10) X h dX2_add_6 (by decide) (fun h => ?_) (fun h => ?_)
  · refine g_aload_n X (j := 0) dX2_add_10 rfl ?_
    refine g_get (q0 := 0) (k := 0) (ci := 2) X in_X2_add_X2 fl_X2_add_9 rfl rfl (Nat.le_of_ble_eq_true rfl) rfl dX2_add_11 ?_
    refine g_aload_n X (j := 0) dX2_add_14 rfl ?_
    refine g_get (q0 := 0) (k := 4) (ci := 2) X in_X2_add_X2 fl_X2_add_24 rfl rfl (Nat.le_of_ble_eq_true rfl) rfl dX2_add_15 ?_
    refine g_iload_n X (j := 1) dX2_add_18 rfl ?_
    refine g_iast (q0 := 1) (t0 := 0) (ws1 := fun g1 => [(a0, .inr (2, [.ref a1, .ref a2, .ref a3, .ref a4, .int x0_size])), (a1, .inl (cI, 10, .inl g1)), (a2, .inl (cI, 10, .inl f2)), (a3, .inl (cI, 10, .inl f3)), (a4, .inl (cI, 10, .inl f4))]) X h rfl rfl dX2_add_19 (fun _ => rfl) (fun g1 h => ?_)
    refine g_aload_n X (j := 0) dX2_add_20 rfl ?_
    refine g_get (q0 := 0) (k := 1) (ci := 2) X in_X2_add_X2 fl_X2_add_15 rfl rfl (Nat.le_of_ble_eq_true rfl) rfl dX2_add_21 ?_
    refine g_aload_n X (j := 0) dX2_add_24 rfl ?_
    refine g_get (q0 := 0) (k := 4) (ci := 2) X in_X2_add_X2 fl_X2_add_24 rfl rfl (Nat.le_of_ble_eq_true rfl) rfl dX2_add_25 ?_
    refine g_iload_n X (j := 2) dX2_add_28 rfl ?_
    refine g_iast (q0 := 2) (t0 := 0) (ws1 := fun g2 => [(a0, .inr (2, [.ref a1, .ref a2, .ref a3, .ref a4, .int x0_size])), (a1, .inl (cI, 10, .inl g1)), (a2, .inl (cI, 10, .inl g2)), (a3, .inl (cI, 10, .inl f3)), (a4, .inl (cI, 10, .inl f4))]) X h rfl rfl dX2_add_29 (fun _ => rfl) (fun g2 h => ?_)
    refine g_aload_n X (j := 0) dX2_add_30 rfl ?_
    refine g_get (q0 := 0) (k := 2) (ci := 2) X in_X2_add_X2 fl_X2_add_18 rfl rfl (Nat.le_of_ble_eq_true rfl) rfl dX2_add_31 ?_
    refine g_aload_n X (j := 0) dX2_add_34 rfl ?_
    refine g_get (q0 := 0) (k := 4) (ci := 2) X in_X2_add_X2 fl_X2_add_24 rfl rfl (Nat.le_of_ble_eq_true rfl) rfl dX2_add_35 ?_
    refine g_iload_n X (j := 3) dX2_add_38 rfl ?_
    refine g_iast (q0 := 3) (t0 := 0) (ws1 := fun g3 => [(a0, .inr (2, [.ref a1, .ref a2, .ref a3, .ref a4, .int x0_size])), (a1, .inl (cI, 10, .inl g1)), (a2, .inl (cI, 10, .inl g2)), (a3, .inl (cI, 10, .inl g3)), (a4, .inl (cI, 10, .inl f4))]) X h rfl rfl dX2_add_39 (fun _ => rfl) (fun g3 h => ?_)
    refine g_aload_n X (j := 0) dX2_add_40 rfl ?_
    refine g_get (q0 := 0) (k := 3) (ci := 2) X in_X2_add_X2 fl_X2_add_21 rfl rfl (Nat.le_of_ble_eq_true rfl) rfl dX2_add_41 ?_
    refine g_aload_n X (j := 0) dX2_add_44 rfl ?_
    refine g_get (q0 := 0) (k := 4) (ci := 2) X in_X2_add_X2 fl_X2_add_24 rfl rfl (Nat.le_of_ble_eq_true rfl) rfl dX2_add_45 ?_
    refine g_iload X (j := 4) dX2_add_48 rfl ?_
    refine g_iast (q0 := 4) (t0 := 0) (ws1 := fun g4 => [(a0, .inr (2, [.ref a1, .ref a2, .ref a3, .ref a4, .int x0_size])), (a1, .inl (cI, 10, .inl g1)), (a2, .inl (cI, 10, .inl g2)), (a3, .inl (cI, 10, .inl g3)), (a4, .inl (cI, 10, .inl g4))]) X h rfl rfl dX2_add_50 (fun _ => rfl) (fun g4 h => ?_)
    refine g_aload_n X (j := 0) dX2_add_51 rfl ?_
    refine g_dup X dX2_add_52 rfl ?_
    refine g_get (q0 := 0) (k := 4) (ci := 2) X in_X2_add_X2 fl_X2_add_24 rfl rfl (Nat.le_of_ble_eq_true rfl) rfl dX2_add_53 ?_
    refine g_iconst (v := 1) X dX2_add_56 (by decide) ?_
    refine g_iadd X dX2_add_57 ?_
    refine g_put (q0 := 0) (k := 4) (ci := 2) (ws' := [(a0, .inr (2, [.ref a1, .ref a2, .ref a3, .ref a4, .int (x0_size + 1)])), (a1, .inl (cI, 10, .inl g1)), (a2, .inl (cI, 10, .inl g2)), (a3, .inl (cI, 10, .inl g3)), (a4, .inl (cI, 10, .inl g4))]) X tyX2_ok nmX2 in_X2_add_X2 fl_X2_add_24 rfl rfl (Nat.le_of_ble_eq_true rfl) rfl rfl rfl (Nat.le_of_ble_eq_true rfl) dX2_add_58 rfl ?_
    have h := Option.some.inj h
    simp only [Prod.mk.injEq] at h
    obtain ⟨rfl, rfl, rfl, rfl, rfl⟩ := h
    exact g_vret X hr hlk dX2_add_61 rfl
  · have h := Option.some.inj h
    simp only [Prod.mk.injEq] at h
    obtain ⟨rfl, rfl, rfl, rfl, rfl⟩ := h
    exact g_vret X hr hlk dX2_add_9 rfl
def f_X2_addAll (x0_size : Int32) (f1 : Nat → Int32) (f2 : Nat → Int32) (f3 : Nat → Int32) (f4 : Nat → Int32) (x5_size : Int32) (f6 : Nat → Int32) (f7 : Nat → Int32) (f8 : Nat → Int32) (f9 : Nat → Int32) : Option (Int32 × (Nat → Int32) × (Nat → Int32) × (Nat → Int32) × (Nat → Int32)) := (wl (u6 fun (l2_1 : Int32) (w2 : Int32) (w3 : Nat → Int32) (w4 : Nat → Int32) (w5 : Nat → Int32) (w6 : Nat → Int32) => (if x5_size ≤ l2_1 then some (Sum.inr (w2, w3, w4, w5, w6)) else (rdA f6 10 l2_1).bind (fun v12 => (rdA f7 10 l2_1).bind (fun v13 => (rdA f8 10 l2_1).bind (fun v14 => (rdA f9 10 l2_1).bind (fun v15 => (f_X2_add v12 v13 v14 v15 w2 w3 w4 w5 w6).bind (u5 fun (o17 : Int32) (o18 : Nat → Int32) (o19 : Nat → Int32) (o20 : Nat → Int32) (o21 : Nat → Int32) => some (Sum.inl ((l2_1 + 1), o17, o18, o19, o20, o21))))))))) 9999 (0, x0_size, f1, f2, f3, f4)).bind (u5 fun (w7 : Int32) (w8 : Nat → Int32) (w9 : Nat → Int32) (w10 : Nat → Int32) (w11 : Nat → Int32) => some (w7, w8, w9, w10, w11))
theorem in_X2_addAll_X2 : ∀ w ∈ wsX20, w ∈ wsX2_addAll := by decide +kernel
theorem fl_X2_addAll_24 : Cond.fieldLink RX2 24 "ColophonHunt$Shelf" "size" "I" ∈ wsX2_addAll := by decide +kernel
theorem fl_X2_addAll_9 : Cond.fieldLink RX2 9 "ColophonHunt$Shelf" "presses" "[I" ∈ wsX2_addAll := by decide +kernel
theorem fl_X2_addAll_15 : Cond.fieldLink RX2 15 "ColophonHunt$Shelf" "letters" "[I" ∈ wsX2_addAll := by decide +kernel
theorem fl_X2_addAll_18 : Cond.fieldLink RX2 18 "ColophonHunt$Shelf" "moulds" "[I" ∈ wsX2_addAll := by decide +kernel
theorem fl_X2_addAll_21 : Cond.fieldLink RX2 21 "ColophonHunt$Shelf" "years" "[I" ∈ wsX2_addAll := by decide +kernel
theorem hd_X2_addAll : yX2_addAll.cls = RX2 ∧ yX2_addAll.cls ≠ "java/lang/invoke/MethodHandle" ∧ yX2_addAll.cls ≠ "java/lang/invoke/VarHandle" ∧ (parseMethodDescriptor yX2_addAll.desc).map (fun d => d.parameters.length) = some 1 := by decide +kernel
set_option maxRecDepth 100000 in
set_option maxHeartbeats 4000000 in
theorem c_X2_addAll (l : Launch) (D : va_G) (cI cS cL : ClassId) (a0 : Nat) (a1 : Nat) (a2 : Nat) (a3 : Nat) (a4 : Nat) (a5 : Nat) (a6 : Nat) (a7 : Nat) (a8 : Nat) (a9 : Nat) (x0_size : Int32) (f1 : Nat → Int32) (f2 : Nat → Int32) (f3 : Nat → Int32) (f4 : Nat → Int32) (x5_size : Int32) (f6 : Nat → Int32) (f7 : Nat → Int32) (f8 : Nat → Int32) (f9 : Nat → Int32) (y0 : Int32) (y1 : Nat → Int32) (y2 : Nat → Int32) (y3 : Nat → Int32) (y4 : Nat → Int32) (hc : f_X2_addAll x0_size f1 f2 f3 f4 x5_size f6 f7 f8 f9 = some (y0, y1, y2, y3, y4)) : KM l yX2_addAll wsX2_addAll { frames := 1, cells := 0, slots := 0, locals := 24 } D (tyS cI cS cL) [.ref a0, .ref a5] [(a0, .inr (2, [.ref a1, .ref a2, .ref a3, .ref a4, .int x0_size])), (a1, .inl (cI, 10, .inl f1)), (a2, .inl (cI, 10, .inl f2)), (a3, .inl (cI, 10, .inl f3)), (a4, .inl (cI, 10, .inl f4)), (a5, .inr (2, [.ref a6, .ref a7, .ref a8, .ref a9, .int x5_size])), (a6, .inl (cI, 10, .inl f6)), (a7, .inl (cI, 10, .inl f7)), (a8, .inl (cI, 10, .inl f8)), (a9, .inl (cI, 10, .inl f9))] none (fun w => w = [(a0, .inr (2, [.ref a1, .ref a2, .ref a3, .ref a4, .int y0])), (a1, .inl (cI, 10, .inl y1)), (a2, .inl (cI, 10, .inl y2)), (a3, .inl (cI, 10, .inl y3)), (a4, .inl (cI, 10, .inl y4)), (a5, .inr (2, [.ref a6, .ref a7, .ref a8, .ref a9, .int x5_size])), (a6, .inl (cI, 10, .inl f6)), (a7, .inl (cI, 10, .inl f7)), (a8, .inl (cI, 10, .inl f8)), (a9, .inl (cI, 10, .inl f9))]) 0 0 := by
  refine g_entry (cc := cX2_addAll) (nL := 3) (rt := none) (by decide) rfl (Nat.le_of_ble_eq_true rfl) ?_
  intro p e s m args below meth c A (X : GC p s m args c cX2_addAll 3 RX2 wsX2_addAll D (tyS cI cS cL) A) hr hlk _ _
  have h := hc
  unfold f_X2_addAll at h
  refine g_lv (lv' := [(0, .ref a0), (1, .ref a5)]) [0, 1] rfl ?_
  refine g_iconst (v := 0) X dX2_addAll_0 (by decide) ?_
  refine g_istore_n (lv' := [(2, .int 0), (0, .ref a0), (1, .ref a5)]) X dX2_addAll_1 rfl (by decide) rfl ?_
  refine g_lv (lv' := [(0, .ref a0), (1, .ref a5), (2, .int 0)]) [1, 2, 0] rfl ?_
  refine wl_g1 h (u6 fun l2_1 w2 w3 w4 w5 w6 => [(a0, .inr (2, [.ref a1, .ref a2, .ref a3, .ref a4, .int w2])), (a1, .inl (cI, 10, .inl w3)), (a2, .inl (cI, 10, .inl w4)), (a3, .inl (cI, 10, .inl w5)), (a4, .inl (cI, 10, .inl w6)), (a5, .inr (2, [.ref a6, .ref a7, .ref a8, .ref a9, .int x5_size])), (a6, .inl (cI, 10, .inl f6)), (a7, .inl (cI, 10, .inl f7)), (a8, .inl (cI, 10, .inl f8)), (a9, .inl (cI, 10, .inl f9))]) (u6 fun l2_1 w2 w3 w4 w5 w6 => [(0, .ref a0), (1, .ref a5), (2, .int l2_1)]) rfl rfl (u5 fun w7 w8 w9 w10 w11 => [(a0, .inr (2, [.ref a1, .ref a2, .ref a3, .ref a4, .int w7])), (a1, .inl (cI, 10, .inl w8)), (a2, .inl (cI, 10, .inl w9)), (a3, .inl (cI, 10, .inl w10)), (a4, .inl (cI, 10, .inl w11)), (a5, .inr (2, [.ref a6, .ref a7, .ref a8, .ref a9, .int x5_size])), (a6, .inl (cI, 10, .inl f6)), (a7, .inl (cI, 10, .inl f7)), (a8, .inl (cI, 10, .inl f8)), (a9, .inl (cI, 10, .inl f9))]) (u5 fun w7 w8 w9 w10 w11 => []) 44 ?_ ?_
  · rintro ⟨w7, w8, w9, w10, w11⟩ h
    dsimp only [u5] at h ⊢
    have h := Option.some.inj h
    simp only [Prod.mk.injEq] at h
    obtain ⟨rfl, rfl, rfl, rfl, rfl⟩ := h
    exact g_vret X hr hlk dX2_addAll_44 rfl
  · rintro ⟨l2_1, w2, w3, w4, w5, w6⟩ o h hI hE
    dsimp only [u6] at h ⊢
    refine g_iload_n X (j := 2) dX2_addAll_2 rfl ?_
    refine g_aload_n X (j := 1) dX2_addAll_3 rfl ?_
    refine g_get (q0 := 5) (k := 4) (ci := 2) X in_X2_addAll_X2 fl_X2_addAll_24 rfl rfl (Nat.le_of_ble_eq_true rfl) rfl dX2_addAll_4 ?_
    refine g_icmp_ge (tgt := 44) X h dX2_addAll_7 (by decide) (fun h => ?_) (fun h => ?_)
    · refine g_lv (lv' := []) [] rfl ?_
      exact hE (w2, w3, w4, w5, w6) (Option.some.inj h).symm
    · refine g_aload_n X (j := 0) dX2_addAll_10 rfl ?_
      refine g_aload_n X (j := 1) dX2_addAll_11 rfl ?_
      refine g_get (q0 := 5) (k := 0) (ci := 2) X in_X2_addAll_X2 fl_X2_addAll_9 rfl rfl (Nat.le_of_ble_eq_true rfl) rfl dX2_addAll_12 ?_
      refine g_iload_n X (j := 2) dX2_addAll_15 rfl ?_
      refine g_iald (q0 := 6) (t0 := 0) X h rfl rfl dX2_addAll_16 (fun v12 h => ?_)
      refine g_aload_n X (j := 1) dX2_addAll_17 rfl ?_
      refine g_get (q0 := 5) (k := 1) (ci := 2) X in_X2_addAll_X2 fl_X2_addAll_15 rfl rfl (Nat.le_of_ble_eq_true rfl) rfl dX2_addAll_18 ?_
      refine g_iload_n X (j := 2) dX2_addAll_21 rfl ?_
      refine g_iald (q0 := 7) (t0 := 0) X h rfl rfl dX2_addAll_22 (fun v13 h => ?_)
      refine g_aload_n X (j := 1) dX2_addAll_23 rfl ?_
      refine g_get (q0 := 5) (k := 2) (ci := 2) X in_X2_addAll_X2 fl_X2_addAll_18 rfl rfl (Nat.le_of_ble_eq_true rfl) rfl dX2_addAll_24 ?_
      refine g_iload_n X (j := 2) dX2_addAll_27 rfl ?_
      refine g_iald (q0 := 8) (t0 := 0) X h rfl rfl dX2_addAll_28 (fun v14 h => ?_)
      refine g_aload_n X (j := 1) dX2_addAll_29 rfl ?_
      refine g_get (q0 := 5) (k := 3) (ci := 2) X in_X2_addAll_X2 fl_X2_addAll_21 rfl rfl (Nat.le_of_ble_eq_true rfl) rfl dX2_addAll_30 ?_
      refine g_iload_n X (j := 2) dX2_addAll_33 rfl ?_
      refine g_iald (q0 := 9) (t0 := 0) X h rfl rfl dX2_addAll_34 (fun v15 h => ?_)
      obtain ⟨o17, o18, o19, o20, o21, hc, h⟩ := bd5 h
      refine g_callV (q0 := 0) (ci := 2) (is := [0, 1, 2, 3, 4]) (As := [.int v12, .int v13, .int v14, .int v15]) (ws' := [(a0, .inr (2, [.ref a1, .ref a2, .ref a3, .ref a4, .int o17])), (a1, .inl (cI, 10, .inl o18)), (a2, .inl (cI, 10, .inl o19)), (a3, .inl (cI, 10, .inl o20)), (a4, .inl (cI, 10, .inl o21)), (a5, .inr (2, [.ref a6, .ref a7, .ref a8, .ref a9, .int x5_size])), (a6, .inl (cI, 10, .inl f6)), (a7, .inl (cI, 10, .inl f7)), (a8, .inl (cI, 10, .inl f8)), (a9, .inl (cI, 10, .inl f9))]) (st := []) X (c_X2_add l D cI cS cL a0 a1 a2 a3 a4 v12 v13 v14 v15 w2 w3 w4 w5 w6 o17 o18 o19 o20 o21 hc) gX2_addAll_X2_add rfl ⟨rfl, rfl⟩ hd_X2_add (by exact ⟨Nat.le_of_ble_eq_true rfl, Nat.le_of_ble_eq_true rfl⟩) ⟨Nat.zero_le _, Nat.zero_le _⟩ rfl rfl rfl rfl rfl rfl rfl (Nat.le_of_ble_eq_true rfl) rfl dX2_addAll_35 ?_
      refine g_iinc (j := 2) (lv' := [(2, .int (l2_1 + 1)), (0, .ref a0), (1, .ref a5)]) X (l2_1 + 1) dX2_addAll_38 rfl rfl (by decide) rfl ?_
      refine g_goto (tgt := 2) X dX2_addAll_41 (by decide) ?_
      refine g_lv (lv' := [(0, .ref a0), (1, .ref a5), (2, .int (l2_1 + 1))]) [1, 2, 0] rfl ?_
      exact hI ((l2_1 + 1), o17, o18, o19, o20, o21) (Option.some.inj h).symm
def f_X2_remove (p1 : Int32) (x0_size : Int32) (f1 : Nat → Int32) (f2 : Nat → Int32) (f3 : Nat → Int32) (f4 : Nat → Int32) : Option (Int32 × (Nat → Int32) × (Nat → Int32) × (Nat → Int32) × (Nat → Int32)) := (wl (u5 fun (l2_1 : Int32) (w2 : Nat → Int32) (w3 : Nat → Int32) (w4 : Nat → Int32) (w5 : Nat → Int32) => (if x0_size ≤ (l2_1 + 1) then some (Sum.inr (w2, w3, w4, w5)) else (rdA w2 10 (l2_1 + 1)).bind (fun v10 => (wrA w2 10 l2_1 v10).bind (fun g11 => (rdA w3 10 (l2_1 + 1)).bind (fun v12 => (wrA w3 10 l2_1 v12).bind (fun g13 => (rdA w4 10 (l2_1 + 1)).bind (fun v14 => (wrA w4 10 l2_1 v14).bind (fun g15 => (rdA w5 10 (l2_1 + 1)).bind (fun v16 => (wrA w5 10 l2_1 v16).bind (fun g17 => some (Sum.inl ((l2_1 + 1), g11, g13, g15, g17)))))))))))) 9999 (p1, f1, f2, f3, f4)).bind (u4 fun (w6 : Nat → Int32) (w7 : Nat → Int32) (w8 : Nat → Int32) (w9 : Nat → Int32) => some ((x0_size - 1), w6, w7, w8, w9))
theorem in_X2_remove_X2 : ∀ w ∈ wsX20, w ∈ wsX2_remove := by decide +kernel
theorem fl_X2_remove_24 : Cond.fieldLink RX2 24 "ColophonHunt$Shelf" "size" "I" ∈ wsX2_remove := by decide +kernel
theorem fl_X2_remove_9 : Cond.fieldLink RX2 9 "ColophonHunt$Shelf" "presses" "[I" ∈ wsX2_remove := by decide +kernel
theorem fl_X2_remove_15 : Cond.fieldLink RX2 15 "ColophonHunt$Shelf" "letters" "[I" ∈ wsX2_remove := by decide +kernel
theorem fl_X2_remove_18 : Cond.fieldLink RX2 18 "ColophonHunt$Shelf" "moulds" "[I" ∈ wsX2_remove := by decide +kernel
theorem fl_X2_remove_21 : Cond.fieldLink RX2 21 "ColophonHunt$Shelf" "years" "[I" ∈ wsX2_remove := by decide +kernel
theorem hd_X2_remove : yX2_remove.cls = RX2 ∧ yX2_remove.cls ≠ "java/lang/invoke/MethodHandle" ∧ yX2_remove.cls ≠ "java/lang/invoke/VarHandle" ∧ (parseMethodDescriptor yX2_remove.desc).map (fun d => d.parameters.length) = some 1 := by decide +kernel
set_option maxRecDepth 100000 in
set_option maxHeartbeats 4000000 in
theorem c_X2_remove (l : Launch) (D : va_G) (cI cS cL : ClassId) (a0 : Nat) (a1 : Nat) (a2 : Nat) (a3 : Nat) (a4 : Nat) (p1 : Int32) (x0_size : Int32) (f1 : Nat → Int32) (f2 : Nat → Int32) (f3 : Nat → Int32) (f4 : Nat → Int32) (y0 : Int32) (y1 : Nat → Int32) (y2 : Nat → Int32) (y3 : Nat → Int32) (y4 : Nat → Int32) (hc : f_X2_remove p1 x0_size f1 f2 f3 f4 = some (y0, y1, y2, y3, y4)) : KM l yX2_remove wsX2_remove { frames := 0, cells := 0, slots := 0, locals := 0 } D (tyS cI cS cL) [.ref a0, .int p1] [(a0, .inr (2, [.ref a1, .ref a2, .ref a3, .ref a4, .int x0_size])), (a1, .inl (cI, 10, .inl f1)), (a2, .inl (cI, 10, .inl f2)), (a3, .inl (cI, 10, .inl f3)), (a4, .inl (cI, 10, .inl f4))] none (fun w => w = [(a0, .inr (2, [.ref a1, .ref a2, .ref a3, .ref a4, .int y0])), (a1, .inl (cI, 10, .inl y1)), (a2, .inl (cI, 10, .inl y2)), (a3, .inl (cI, 10, .inl y3)), (a4, .inl (cI, 10, .inl y4))]) 0 0 := by
  refine g_entry (cc := cX2_remove) (nL := 3) (rt := none) (by decide) rfl (Nat.le_of_ble_eq_true rfl) ?_
  intro p e s m args below meth c A (X : GC p s m args c cX2_remove 3 RX2 wsX2_remove D (tyS cI cS cL) A) hr hlk _ _
  have h := hc
  unfold f_X2_remove at h
  refine g_lv (lv' := [(0, .ref a0), (1, .int p1)]) [0, 1] rfl ?_
  refine g_iload_n X (j := 1) dX2_remove_0 rfl ?_
  refine g_istore_n (lv' := [(2, .int p1), (0, .ref a0), (1, .int p1)]) X dX2_remove_1 rfl (by decide) rfl ?_
  refine g_lv (lv' := [(0, .ref a0), (2, .int p1)]) [1, 0] rfl ?_
  refine wl_g1 h (u5 fun l2_1 w2 w3 w4 w5 => [(a0, .inr (2, [.ref a1, .ref a2, .ref a3, .ref a4, .int x0_size])), (a1, .inl (cI, 10, .inl w2)), (a2, .inl (cI, 10, .inl w3)), (a3, .inl (cI, 10, .inl w4)), (a4, .inl (cI, 10, .inl w5))]) (u5 fun l2_1 w2 w3 w4 w5 => [(0, .ref a0), (2, .int l2_1)]) rfl rfl (u4 fun w6 w7 w8 w9 => [(a0, .inr (2, [.ref a1, .ref a2, .ref a3, .ref a4, .int x0_size])), (a1, .inl (cI, 10, .inl w6)), (a2, .inl (cI, 10, .inl w7)), (a3, .inl (cI, 10, .inl w8)), (a4, .inl (cI, 10, .inl w9))]) (u4 fun w6 w7 w8 w9 => [(0, .ref a0)]) 74 ?_ ?_
  · rintro ⟨w6, w7, w8, w9⟩ h
    dsimp only [u4] at h ⊢
    refine g_aload_n X (j := 0) dX2_remove_74 rfl ?_
    refine g_dup X dX2_remove_75 rfl ?_
    refine g_get (q0 := 0) (k := 4) (ci := 2) X in_X2_remove_X2 fl_X2_remove_24 rfl rfl (Nat.le_of_ble_eq_true rfl) rfl dX2_remove_76 ?_
    refine g_iconst (v := 1) X dX2_remove_79 (by decide) ?_
    refine g_isub X dX2_remove_80 ?_
    refine g_put (q0 := 0) (k := 4) (ci := 2) (ws' := [(a0, .inr (2, [.ref a1, .ref a2, .ref a3, .ref a4, .int (x0_size - 1)])), (a1, .inl (cI, 10, .inl w6)), (a2, .inl (cI, 10, .inl w7)), (a3, .inl (cI, 10, .inl w8)), (a4, .inl (cI, 10, .inl w9))]) X tyX2_ok nmX2 in_X2_remove_X2 fl_X2_remove_24 rfl rfl (Nat.le_of_ble_eq_true rfl) rfl rfl rfl (Nat.le_of_ble_eq_true rfl) dX2_remove_81 rfl ?_
    have h := Option.some.inj h
    simp only [Prod.mk.injEq] at h
    obtain ⟨rfl, rfl, rfl, rfl, rfl⟩ := h
    exact g_vret X hr hlk dX2_remove_84 rfl
  · rintro ⟨l2_1, w2, w3, w4, w5⟩ o h hI hE
    dsimp only [u5] at h ⊢
    refine g_iload_n X (j := 1) dX2_remove_2 rfl ?_
    refine g_iconst (v := 1) X dX2_remove_3 (by decide) ?_
    refine g_iadd X dX2_remove_4 ?_
    refine g_aload_n X (j := 0) dX2_remove_5 rfl ?_
    refine g_get (q0 := 0) (k := 4) (ci := 2) X in_X2_remove_X2 fl_X2_remove_24 rfl rfl (Nat.le_of_ble_eq_true rfl) rfl dX2_remove_6 ?_
    refine g_icmp_ge (tgt := 74) X h dX2_remove_9 (by decide) (fun h => ?_) (fun h => ?_)
    · refine g_lv (lv' := [(0, .ref a0)]) [0] rfl ?_
      exact hE (w2, w3, w4, w5) (Option.some.inj h).symm
    · refine g_aload_n X (j := 0) dX2_remove_12 rfl ?_
      refine g_get (q0 := 0) (k := 0) (ci := 2) X in_X2_remove_X2 fl_X2_remove_9 rfl rfl (Nat.le_of_ble_eq_true rfl) rfl dX2_remove_13 ?_
      refine g_iload_n X (j := 1) dX2_remove_16 rfl ?_
      refine g_aload_n X (j := 0) dX2_remove_17 rfl ?_
      refine g_get (q0 := 0) (k := 0) (ci := 2) X in_X2_remove_X2 fl_X2_remove_9 rfl rfl (Nat.le_of_ble_eq_true rfl) rfl dX2_remove_18 ?_
      refine g_iload_n X (j := 1) dX2_remove_21 rfl ?_
      refine g_iconst (v := 1) X dX2_remove_22 (by decide) ?_
      refine g_iadd X dX2_remove_23 ?_
      refine g_iald (q0 := 1) (t0 := 0) X h rfl rfl dX2_remove_24 (fun v10 h => ?_)
      refine g_iast (q0 := 1) (t0 := 0) (ws1 := fun g11 => [(a0, .inr (2, [.ref a1, .ref a2, .ref a3, .ref a4, .int x0_size])), (a1, .inl (cI, 10, .inl g11)), (a2, .inl (cI, 10, .inl w3)), (a3, .inl (cI, 10, .inl w4)), (a4, .inl (cI, 10, .inl w5))]) X h rfl rfl dX2_remove_25 (fun _ => rfl) (fun g11 h => ?_)
      refine g_aload_n X (j := 0) dX2_remove_26 rfl ?_
      refine g_get (q0 := 0) (k := 1) (ci := 2) X in_X2_remove_X2 fl_X2_remove_15 rfl rfl (Nat.le_of_ble_eq_true rfl) rfl dX2_remove_27 ?_
      refine g_iload_n X (j := 1) dX2_remove_30 rfl ?_
      refine g_aload_n X (j := 0) dX2_remove_31 rfl ?_
      refine g_get (q0 := 0) (k := 1) (ci := 2) X in_X2_remove_X2 fl_X2_remove_15 rfl rfl (Nat.le_of_ble_eq_true rfl) rfl dX2_remove_32 ?_
      refine g_iload_n X (j := 1) dX2_remove_35 rfl ?_
      refine g_iconst (v := 1) X dX2_remove_36 (by decide) ?_
      refine g_iadd X dX2_remove_37 ?_
      refine g_iald (q0 := 2) (t0 := 0) X h rfl rfl dX2_remove_38 (fun v12 h => ?_)
      refine g_iast (q0 := 2) (t0 := 0) (ws1 := fun g13 => [(a0, .inr (2, [.ref a1, .ref a2, .ref a3, .ref a4, .int x0_size])), (a1, .inl (cI, 10, .inl g11)), (a2, .inl (cI, 10, .inl g13)), (a3, .inl (cI, 10, .inl w4)), (a4, .inl (cI, 10, .inl w5))]) X h rfl rfl dX2_remove_39 (fun _ => rfl) (fun g13 h => ?_)
      refine g_aload_n X (j := 0) dX2_remove_40 rfl ?_
      refine g_get (q0 := 0) (k := 2) (ci := 2) X in_X2_remove_X2 fl_X2_remove_18 rfl rfl (Nat.le_of_ble_eq_true rfl) rfl dX2_remove_41 ?_
      refine g_iload_n X (j := 1) dX2_remove_44 rfl ?_
      refine g_aload_n X (j := 0) dX2_remove_45 rfl ?_
      refine g_get (q0 := 0) (k := 2) (ci := 2) X in_X2_remove_X2 fl_X2_remove_18 rfl rfl (Nat.le_of_ble_eq_true rfl) rfl dX2_remove_46 ?_
      refine g_iload_n X (j := 1) dX2_remove_49 rfl ?_
      refine g_iconst (v := 1) X dX2_remove_50 (by decide) ?_
      refine g_iadd X dX2_remove_51 ?_
      refine g_iald (q0 := 3) (t0 := 0) X h rfl rfl dX2_remove_52 (fun v14 h => ?_)
      refine g_iast (q0 := 3) (t0 := 0) (ws1 := fun g15 => [(a0, .inr (2, [.ref a1, .ref a2, .ref a3, .ref a4, .int x0_size])), (a1, .inl (cI, 10, .inl g11)), (a2, .inl (cI, 10, .inl g13)), (a3, .inl (cI, 10, .inl g15)), (a4, .inl (cI, 10, .inl w5))]) X h rfl rfl dX2_remove_53 (fun _ => rfl) (fun g15 h => ?_)
      refine g_aload_n X (j := 0) dX2_remove_54 rfl ?_
      refine g_get (q0 := 0) (k := 3) (ci := 2) X in_X2_remove_X2 fl_X2_remove_21 rfl rfl (Nat.le_of_ble_eq_true rfl) rfl dX2_remove_55 ?_
      refine g_iload_n X (j := 1) dX2_remove_58 rfl ?_
      refine g_aload_n X (j := 0) dX2_remove_59 rfl ?_
      refine g_get (q0 := 0) (k := 3) (ci := 2) X in_X2_remove_X2 fl_X2_remove_21 rfl rfl (Nat.le_of_ble_eq_true rfl) rfl dX2_remove_60 ?_
      refine g_iload_n X (j := 1) dX2_remove_63 rfl ?_
      refine g_iconst (v := 1) X dX2_remove_64 (by decide) ?_
      refine g_iadd X dX2_remove_65 ?_
      refine g_iald (q0 := 4) (t0 := 0) X h rfl rfl dX2_remove_66 (fun v16 h => ?_)
      refine g_iast (q0 := 4) (t0 := 0) (ws1 := fun g17 => [(a0, .inr (2, [.ref a1, .ref a2, .ref a3, .ref a4, .int x0_size])), (a1, .inl (cI, 10, .inl g11)), (a2, .inl (cI, 10, .inl g13)), (a3, .inl (cI, 10, .inl g15)), (a4, .inl (cI, 10, .inl g17))]) X h rfl rfl dX2_remove_67 (fun _ => rfl) (fun g17 h => ?_)
      refine g_iinc (j := 1) (lv' := [(2, .int (l2_1 + 1)), (0, .ref a0)]) X (l2_1 + 1) dX2_remove_68 rfl rfl (by decide) rfl ?_
      refine g_goto (tgt := 2) X dX2_remove_71 (by decide) ?_
      refine g_lv (lv' := [(0, .ref a0), (2, .int (l2_1 + 1))]) [1, 0] rfl ?_
      exact hI ((l2_1 + 1), g11, g13, g15, g17) (Option.some.inj h).symm
