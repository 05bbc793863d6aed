set_option maxRecDepth 20000 in
theorem ggX1_readPairs_X2_reasonsAhead : GoodIn wsX1_readPairs wsX2_reasonsAhead := goodIn_r _ [8, 9, 10, 11, 12, 23, 24, 25, 26, 27] (by decide +kernel) (by decide +kernel)
set_option maxRecDepth 20000 in
theorem gX1_readPairs_X2_reasonsAhead : GoodIn wsX1_readPairs (wsV RX1 57 RX2 yX2_reasonsAhead wsX2_reasonsAhead) := goodIn_app (goodIn_of _ (by decide +kernel)) ggX1_readPairs_X2_reasonsAhead
theorem dX1_readPairs_0 : decode cX1_readPairs 0 = .ok (.iconst 0, 1) := by decide +kernel
theorem dX1_readPairs_1 : decode cX1_readPairs 1 = .ok (.istore_n 2, 1) := by decide +kernel
theorem dX1_readPairs_2 : decode cX1_readPairs 2 = .ok (.iload_n 2, 1) := by decide +kernel
theorem dX1_readPairs_3 : decode cX1_readPairs 3 = .ok (.aload_n 0, 1) := by decide +kernel
theorem dX1_readPairs_4 : decode cX1_readPairs 4 = .ok (.getfield 40, 3) := by decide +kernel
theorem dX1_readPairs_7 : decode cX1_readPairs 7 = .ok (.if_icmp .ge 91, 3) := by decide +kernel
theorem dX1_readPairs_10 : decode cX1_readPairs 10 = .ok (.aload_n 0, 1) := by decide +kernel
theorem dX1_readPairs_11 : decode cX1_readPairs 11 = .ok (.getfield 9, 3) := by decide +kernel
theorem dX1_readPairs_14 : decode cX1_readPairs 14 = .ok (.iload_n 2, 1) := by decide +kernel
theorem dX1_readPairs_15 : decode cX1_readPairs 15 = .ok (.iconst 0, 1) := by decide +kernel
theorem dX1_readPairs_16 : decode cX1_readPairs 16 = .ok (.iastore, 1) := by decide +kernel
theorem dX1_readPairs_17 : decode cX1_readPairs 17 = .ok (.aload_n 0, 1) := by decide +kernel
theorem dX1_readPairs_18 : decode cX1_readPairs 18 = .ok (.getfield 15, 3) := by decide +kernel
theorem dX1_readPairs_21 : decode cX1_readPairs 21 = .ok (.iload_n 2, 1) := by decide +kernel
theorem dX1_readPairs_22 : decode cX1_readPairs 22 = .ok (.iconst 0, 1) := by decide +kernel
theorem dX1_readPairs_23 : decode cX1_readPairs 23 = .ok (.iastore, 1) := by decide +kernel
theorem dX1_readPairs_24 : decode cX1_readPairs 24 = .ok (.iconst 0, 1) := by decide +kernel
theorem dX1_readPairs_25 : decode cX1_readPairs 25 = .ok (.istore_n 3, 1) := by decide +kernel
theorem dX1_readPairs_26 : decode cX1_readPairs 26 = .ok (.iload_n 3, 1) := by decide +kernel
theorem dX1_readPairs_27 : decode cX1_readPairs 27 = .ok (.aload_n 0, 1) := by decide +kernel
theorem dX1_readPairs_28 : decode cX1_readPairs 28 = .ok (.getfield 40, 3) := by decide +kernel
theorem dX1_readPairs_31 : decode cX1_readPairs 31 = .ok (.if_icmp .ge 61, 3) := by decide +kernel
theorem dX1_readPairs_34 : decode cX1_readPairs 34 = .ok (.iload_n 3, 1) := by decide +kernel
theorem dX1_readPairs_35 : decode cX1_readPairs 35 = .ok (.iload_n 2, 1) := by decide +kernel
theorem dX1_readPairs_36 : decode cX1_readPairs 36 = .ok (.if_icmp .eq 24, 3) := by decide +kernel
theorem dX1_readPairs_39 : decode cX1_readPairs 39 = .ok (.aload_n 1, 1) := by decide +kernel
theorem dX1_readPairs_40 : decode cX1_readPairs 40 = .ok (.iload_n 3, 1) := by decide +kernel
theorem dX1_readPairs_41 : decode cX1_readPairs 41 = .ok (.iload_n 2, 1) := by decide +kernel
theorem dX1_readPairs_42 : decode cX1_readPairs 42 = .ok (.invokevirtual 57, 3) := by decide +kernel
theorem dX1_readPairs_45 : decode cX1_readPairs 45 = .ok (.ifCond .eq 15, 3) := by decide +kernel
theorem dX1_readPairs_48 : decode cX1_readPairs 48 = .ok (.aload_n 0, 1) := by decide +kernel
theorem dX1_readPairs_49 : decode cX1_readPairs 49 = .ok (.getfield 9, 3) := by decide +kernel
theorem dX1_readPairs_52 : decode cX1_readPairs 52 = .ok (.iload_n 2, 1) := by decide +kernel
theorem dX1_readPairs_53 : decode cX1_readPairs 53 = .ok (.dup2, 1) := by decide +kernel
theorem dX1_readPairs_54 : decode cX1_readPairs 54 = .ok (.iaload, 1) := by decide +kernel
theorem dX1_readPairs_55 : decode cX1_readPairs 55 = .ok (.iconst 1, 1) := by decide +kernel
theorem dX1_readPairs_56 : decode cX1_readPairs 56 = .ok (.iload_n 3, 1) := by decide +kernel
theorem dX1_readPairs_57 : decode cX1_readPairs 57 = .ok (.ishl, 1) := by decide +kernel
theorem dX1_readPairs_58 : decode cX1_readPairs 58 = .ok (.ior, 1) := by decide +kernel
theorem dX1_readPairs_59 : decode cX1_readPairs 59 = .ok (.iastore, 1) := by decide +kernel
theorem dX1_readPairs_60 : decode cX1_readPairs 60 = .ok (.iload_n 3, 1) := by decide +kernel
theorem dX1_readPairs_61 : decode cX1_readPairs 61 = .ok (.iload_n 2, 1) := by decide +kernel
theorem dX1_readPairs_62 : decode cX1_readPairs 62 = .ok (.if_icmp .eq 24, 3) := by decide +kernel
theorem dX1_readPairs_65 : decode cX1_readPairs 65 = .ok (.aload_n 1, 1) := by decide +kernel
theorem dX1_readPairs_66 : decode cX1_readPairs 66 = .ok (.iload_n 2, 1) := by decide +kernel
theorem dX1_readPairs_67 : decode cX1_readPairs 67 = .ok (.iload_n 3, 1) := by decide +kernel
theorem dX1_readPairs_68 : decode cX1_readPairs 68 = .ok (.invokevirtual 57, 3) := by decide +kernel
theorem dX1_readPairs_71 : decode cX1_readPairs 71 = .ok (.ifCond .eq 15, 3) := by decide +kernel
theorem dX1_readPairs_74 : decode cX1_readPairs 74 = .ok (.aload_n 0, 1) := by decide +kernel
theorem dX1_readPairs_75 : decode cX1_readPairs 75 = .ok (.getfield 15, 3) := by decide +kernel
theorem dX1_readPairs_78 : decode cX1_readPairs 78 = .ok (.iload_n 2, 1) := by decide +kernel
theorem dX1_readPairs_79 : decode cX1_readPairs 79 = .ok (.dup2, 1) := by decide +kernel
theorem dX1_readPairs_80 : decode cX1_readPairs 80 = .ok (.iaload, 1) := by decide +kernel
theorem dX1_readPairs_81 : decode cX1_readPairs 81 = .ok (.iconst 1, 1) := by decide +kernel
theorem dX1_readPairs_82 : decode cX1_readPairs 82 = .ok (.iload_n 3, 1) := by decide +kernel
theorem dX1_readPairs_83 : decode cX1_readPairs 83 = .ok (.ishl, 1) := by decide +kernel
theorem dX1_readPairs_84 : decode cX1_readPairs 84 = .ok (.ior, 1) := by decide +kernel
theorem dX1_readPairs_85 : decode cX1_readPairs 85 = .ok (.iastore, 1) := by decide +kernel
theorem dX1_readPairs_86 : decode cX1_readPairs 86 = .ok (.iinc 3 1, 3) := by decide +kernel
theorem dX1_readPairs_89 : decode cX1_readPairs 89 = .ok (.goto (-63), 3) := by decide +kernel
theorem dX1_readPairs_92 : decode cX1_readPairs 92 = .ok (.iinc 2 1, 3) := by decide +kernel
theorem dX1_readPairs_95 : decode cX1_readPairs 95 = .ok (.goto (-93), 3) := by decide +kernel
theorem dX1_readPairs_98 : decode cX1_readPairs 98 = .ok (.return_, 1) := by decide +kernel
set_option maxRecDepth 20000 in
theorem ggX1_followPairs_X1_has : GoodIn wsX1_followPairs wsX1_has := goodIn_r _ [10] (by decide +kernel) (by decide +kernel)
set_option maxRecDepth 20000 in
theorem gX1_followPairs_X1_has : GoodIn wsX1_followPairs (va_wsS RX1 61 yX1_has wsX1_has) := goodIn_app (goodIn_of _ (by decide +kernel)) ggX1_followPairs_X1_has
theorem dX1_followPairs_0 : decode cX1_followPairs 0 = .ok (.iconst 0, 1) := by decide +kernel
theorem dX1_followPairs_1 : decode cX1_followPairs 1 = .ok (.istore_n 1, 1) := by decide +kernel
theorem dX1_followPairs_2 : decode cX1_followPairs 2 = .ok (.iload_n 1, 1) := by decide +kernel
theorem dX1_followPairs_3 : decode cX1_followPairs 3 = .ok (.aload_n 0, 1) := by decide +kernel
theorem dX1_followPairs_4 : decode cX1_followPairs 4 = .ok (.getfield 40, 3) := by decide +kernel
theorem dX1_followPairs_7 : decode cX1_followPairs 7 = .ok (.if_icmp .ge 33, 3) := by decide +kernel
theorem dX1_followPairs_10 : decode cX1_followPairs 10 = .ok (.aload_n 0, 1) := by decide +kernel
theorem dX1_followPairs_11 : decode cX1_followPairs 11 = .ok (.getfield 24, 3) := by decide +kernel
theorem dX1_followPairs_14 : decode cX1_followPairs 14 = .ok (.iload_n 1, 1) := by decide +kernel
theorem dX1_followPairs_15 : decode cX1_followPairs 15 = .ok (.aload_n 0, 1) := by decide +kernel
theorem dX1_followPairs_16 : decode cX1_followPairs 16 = .ok (.getfield 9, 3) := by decide +kernel
theorem dX1_followPairs_19 : decode cX1_followPairs 19 = .ok (.iload_n 1, 1) := by decide +kernel
theorem dX1_followPairs_20 : decode cX1_followPairs 20 = .ok (.iaload, 1) := by decide +kernel
theorem dX1_followPairs_21 : decode cX1_followPairs 21 = .ok (.iastore, 1) := by decide +kernel
theorem dX1_followPairs_22 : decode cX1_followPairs 22 = .ok (.aload_n 0, 1) := by decide +kernel
theorem dX1_followPairs_23 : decode cX1_followPairs 23 = .ok (.getfield 27, 3) := by decide +kernel
theorem dX1_followPairs_26 : decode cX1_followPairs 26 = .ok (.iload_n 1, 1) := by decide +kernel
theorem dX1_followPairs_27 : decode cX1_followPairs 27 = .ok (.aload_n 0, 1) := by decide +kernel
theorem dX1_followPairs_28 : decode cX1_followPairs 28 = .ok (.getfield 15, 3) := by decide +kernel
theorem dX1_followPairs_31 : decode cX1_followPairs 31 = .ok (.iload_n 1, 1) := by decide +kernel
theorem dX1_followPairs_32 : decode cX1_followPairs 32 = .ok (.iaload, 1) := by decide +kernel
theorem dX1_followPairs_33 : decode cX1_followPairs 33 = .ok (.iastore, 1) := by decide +kernel
theorem dX1_followPairs_34 : decode cX1_followPairs 34 = .ok (.iinc 1 1, 3) := by decide +kernel
theorem dX1_followPairs_37 : decode cX1_followPairs 37 = .ok (.goto (-35), 3) := by decide +kernel
theorem dX1_followPairs_40 : decode cX1_followPairs 40 = .ok (.iconst 0, 1) := by decide +kernel
theorem dX1_followPairs_41 : decode cX1_followPairs 41 = .ok (.istore_n 1, 1) := by decide +kernel
theorem dX1_followPairs_42 : decode cX1_followPairs 42 = .ok (.iload_n 1, 1) := by decide +kernel
theorem dX1_followPairs_43 : decode cX1_followPairs 43 = .ok (.aload_n 0, 1) := by decide +kernel
theorem dX1_followPairs_44 : decode cX1_followPairs 44 = .ok (.getfield 40, 3) := by decide +kernel
theorem dX1_followPairs_47 : decode cX1_followPairs 47 = .ok (.if_icmp .ge 81, 3) := by decide +kernel
theorem dX1_followPairs_50 : decode cX1_followPairs 50 = .ok (.iconst 0, 1) := by decide +kernel
theorem dX1_followPairs_51 : decode cX1_followPairs 51 = .ok (.istore_n 2, 1) := by decide +kernel
theorem dX1_followPairs_52 : decode cX1_followPairs 52 = .ok (.iload_n 2, 1) := by decide +kernel
theorem dX1_followPairs_53 : decode cX1_followPairs 53 = .ok (.aload_n 0, 1) := by decide +kernel
theorem dX1_followPairs_54 : decode cX1_followPairs 54 = .ok (.getfield 40, 3) := by decide +kernel
theorem dX1_followPairs_57 : decode cX1_followPairs 57 = .ok (.if_icmp .ge 65, 3) := by decide +kernel
theorem dX1_followPairs_60 : decode cX1_followPairs 60 = .ok (.aload_n 0, 1) := by decide +kernel
theorem dX1_followPairs_61 : decode cX1_followPairs 61 = .ok (.getfield 24, 3) := by decide +kernel
theorem dX1_followPairs_64 : decode cX1_followPairs 64 = .ok (.iload_n 2, 1) := by decide +kernel
theorem dX1_followPairs_65 : decode cX1_followPairs 65 = .ok (.iaload, 1) := by decide +kernel
theorem dX1_followPairs_66 : decode cX1_followPairs 66 = .ok (.iload_n 1, 1) := by decide +kernel
theorem dX1_followPairs_67 : decode cX1_followPairs 67 = .ok (.invokestatic 61, 3) := by decide +kernel
theorem dX1_followPairs_70 : decode cX1_followPairs 70 = .ok (.ifCond .eq 18, 3) := by decide +kernel
theorem dX1_followPairs_73 : decode cX1_followPairs 73 = .ok (.aload_n 0, 1) := by decide +kernel
theorem dX1_followPairs_74 : decode cX1_followPairs 74 = .ok (.getfield 24, 3) := by decide +kernel
theorem dX1_followPairs_77 : decode cX1_followPairs 77 = .ok (.iload_n 2, 1) := by decide +kernel
theorem dX1_followPairs_78 : decode cX1_followPairs 78 = .ok (.dup2, 1) := by decide +kernel
theorem dX1_followPairs_79 : decode cX1_followPairs 79 = .ok (.iaload, 1) := by decide +kernel
theorem dX1_followPairs_80 : decode cX1_followPairs 80 = .ok (.aload_n 0, 1) := by decide +kernel
theorem dX1_followPairs_81 : decode cX1_followPairs 81 = .ok (.getfield 24, 3) := by decide +kernel
theorem dX1_followPairs_84 : decode cX1_followPairs 84 = .ok (.iload_n 1, 1) := by decide +kernel
theorem dX1_followPairs_85 : decode cX1_followPairs 85 = .ok (.iaload, 1) := by decide +kernel
theorem dX1_followPairs_86 : decode cX1_followPairs 86 = .ok (.ior, 1) := by decide +kernel
theorem dX1_followPairs_87 : decode cX1_followPairs 87 = .ok (.iastore, 1) := by decide +kernel
theorem dX1_followPairs_88 : decode cX1_followPairs 88 = .ok (.aload_n 0, 1) := by decide +kernel
theorem dX1_followPairs_89 : decode cX1_followPairs 89 = .ok (.getfield 27, 3) := by decide +kernel
theorem dX1_followPairs_92 : decode cX1_followPairs 92 = .ok (.iload_n 2, 1) := by decide +kernel
theorem dX1_followPairs_93 : decode cX1_followPairs 93 = .ok (.iaload, 1) := by decide +kernel
theorem dX1_followPairs_94 : decode cX1_followPairs 94 = .ok (.iload_n 1, 1) := by decide +kernel
theorem dX1_followPairs_95 : decode cX1_followPairs 95 = .ok (.invokestatic 61, 3) := by decide +kernel
theorem dX1_followPairs_98 : decode cX1_followPairs 98 = .ok (.ifCond .eq 18, 3) := by decide +kernel
theorem dX1_followPairs_101 : decode cX1_followPairs 101 = .ok (.aload_n 0, 1) := by decide +kernel
theorem dX1_followPairs_102 : decode cX1_followPairs 102 = .ok (.getfield 27, 3) := by decide +kernel
theorem dX1_followPairs_105 : decode cX1_followPairs 105 = .ok (.iload_n 2, 1) := by decide +kernel
theorem dX1_followPairs_106 : decode cX1_followPairs 106 = .ok (.dup2, 1) := by decide +kernel
theorem dX1_followPairs_107 : decode cX1_followPairs 107 = .ok (.iaload, 1) := by decide +kernel
theorem dX1_followPairs_108 : decode cX1_followPairs 108 = .ok (.aload_n 0, 1) := by decide +kernel
theorem dX1_followPairs_109 : decode cX1_followPairs 109 = .ok (.getfield 27, 3) := by decide +kernel
theorem dX1_followPairs_112 : decode cX1_followPairs 112 = .ok (.iload_n 1, 1) := by decide +kernel
theorem dX1_followPairs_113 : decode cX1_followPairs 113 = .ok (.iaload, 1) := by decide +kernel
theorem dX1_followPairs_114 : decode cX1_followPairs 114 = .ok (.ior, 1) := by decide +kernel
theorem dX1_followPairs_115 : decode cX1_followPairs 115 = .ok (.iastore, 1) := by decide +kernel
theorem dX1_followPairs_116 : decode cX1_followPairs 116 = .ok (.iinc 2 1, 3) := by decide +kernel
theorem dX1_followPairs_119 : decode cX1_followPairs 119 = .ok (.goto (-67), 3) := by decide +kernel
theorem dX1_followPairs_122 : decode cX1_followPairs 122 = .ok (.iinc 1 1, 3) := by decide +kernel
theorem dX1_followPairs_125 : decode cX1_followPairs 125 = .ok (.goto (-83), 3) := by decide +kernel
theorem dX1_followPairs_128 : decode cX1_followPairs 128 = .ok (.aload_n 0, 1) := by decide +kernel
theorem dX1_followPairs_129 : decode cX1_followPairs 129 = .ok (.iconst 1, 1) := by decide +kernel
theorem dX1_followPairs_130 : decode cX1_followPairs 130 = .ok (.putfield 37, 3) := by decide +kernel
theorem dX1_followPairs_133 : decode cX1_followPairs 133 = .ok (.iconst 0, 1) := by decide +kernel
theorem dX1_followPairs_134 : decode cX1_followPairs 134 = .ok (.istore_n 1, 1) := by decide +kernel
theorem dX1_followPairs_135 : decode cX1_followPairs 135 = .ok (.iload_n 1, 1) := by decide +kernel
theorem dX1_followPairs_136 : decode cX1_followPairs 136 = .ok (.aload_n 0, 1) := by decide +kernel
theorem dX1_followPairs_137 : decode cX1_followPairs 137 = .ok (.getfield 40, 3) := by decide +kernel
theorem dX1_followPairs_140 : decode cX1_followPairs 140 = .ok (.if_icmp .ge 27, 3) := by decide +kernel
theorem dX1_followPairs_143 : decode cX1_followPairs 143 = .ok (.aload_n 0, 1) := by decide +kernel
theorem dX1_followPairs_144 : decode cX1_followPairs 144 = .ok (.getfield 24, 3) := by decide +kernel
theorem dX1_followPairs_147 : decode cX1_followPairs 147 = .ok (.iload_n 1, 1) := by decide +kernel
theorem dX1_followPairs_148 : decode cX1_followPairs 148 = .ok (.iaload, 1) := by decide +kernel
theorem dX1_followPairs_149 : decode cX1_followPairs 149 = .ok (.iload_n 1, 1) := by decide +kernel
theorem dX1_followPairs_150 : decode cX1_followPairs 150 = .ok (.invokestatic 61, 3) := by decide +kernel
theorem dX1_followPairs_153 : decode cX1_followPairs 153 = .ok (.ifCond .eq 8, 3) := by decide +kernel
theorem dX1_followPairs_156 : decode cX1_followPairs 156 = .ok (.aload_n 0, 1) := by decide +kernel
theorem dX1_followPairs_157 : decode cX1_followPairs 157 = .ok (.iconst 0, 1) := by decide +kernel
theorem dX1_followPairs_158 : decode cX1_followPairs 158 = .ok (.putfield 37, 3) := by decide +kernel
theorem dX1_followPairs_161 : decode cX1_followPairs 161 = .ok (.iinc 1 1, 3) := by decide +kernel
theorem dX1_followPairs_164 : decode cX1_followPairs 164 = .ok (.goto (-29), 3) := by decide +kernel
theorem dX1_followPairs_167 : decode cX1_followPairs 167 = .ok (.return_, 1) := by decide +kernel
theorem dX1_has_0 : decode cX1_has 0 = .ok (.iload_n 0, 1) := by decide +kernel
theorem dX1_has_1 : decode cX1_has 1 = .ok (.iload_n 1, 1) := by decide +kernel
theorem dX1_has_2 : decode cX1_has 2 = .ok (.ishr, 1) := by decide +kernel
theorem dX1_has_3 : decode cX1_has 3 = .ok (.iconst 1, 1) := by decide +kernel
theorem dX1_has_4 : decode cX1_has 4 = .ok (.iand, 1) := by decide +kernel
theorem dX1_has_5 : decode cX1_has 5 = .ok (.ifCond .eq 7, 3) := by decide +kernel
theorem dX1_has_8 : decode cX1_has 8 = .ok (.iconst 1, 1) := by decide +kernel
theorem dX1_has_9 : decode cX1_has 9 = .ok (.goto 4, 3) := by decide +kernel
theorem dX1_has_12 : decode cX1_has 12 = .ok (.iconst 0, 1) := by decide +kernel
theorem dX1_has_13 : decode cX1_has 13 = .ok (.ireturn, 1) := by decide +kernel
def f_X1_readPairs (x0_size : Int32) (f1 : Nat → Int32) (f2 : Nat → Int32) (f4 : Nat → Int32) (f5 : Nat → Int32) (f6 : Nat → Int32) (f7 : Nat → Int32) : Option ((Nat → Int32) × (Nat → Int32)) := (wl (u3 fun (l2_1 : Int32) (w2 : Nat → Int32) (w3 : Nat → Int32) => (if x0_size ≤ l2_1 then some (Sum.inr (w2, w3)) else (wrA w2 10 l2_1 0).bind (fun g6 => (wrA w3 10 l2_1 0).bind (fun g7 => (wl (u3 fun (l3_8 : Int32) (w9 : Nat → Int32) (w10 : Nat → Int32) => (if x0_size ≤ l3_8 then some (Sum.inr (w9, w10)) else (jn (u1 fun (w13 : Nat → Int32) => (jn (u1 fun (w15 : Nat → Int32) => some (Sum.inl ((l3_8 + 1), w13, w15))) (fun K16 => (if l3_8 = l2_1 then K16 w10 else (f_X2_reasonsAhead l2_1 l3_8 f4 f5 f6 f7).bind (u1 fun (r17 : Int32) => (if r17 = 0 then K16 w10 else (rdA w10 10 l2_1).bind (fun v18 => (wrA w10 10 l2_1 (v18 ||| ((1 : Int32) <<< (l3_8 &&& 31)))).bind (fun g19 => K16 g19)))))))) (fun K14 => (if l3_8 = l2_1 then K14 w9 else (f_X2_reasonsAhead l3_8 l2_1 f4 f5 f6 f7).bind (u1 fun (r20 : Int32) => (if r20 = 0 then K14 w9 else (rdA w9 10 l2_1).bind (fun v21 => (wrA w9 10 l2_1 (v21 ||| ((1 : Int32) <<< (l3_8 &&& 31)))).bind (fun g22 => K14 g22))))))))) 9999 (0, g6, g7)).bind (u2 fun (w11 : Nat → Int32) (w12 : Nat → Int32) => some (Sum.inl ((l2_1 + 1), w11, w12))))))) 9999 (0, f1, f2)).bind (u2 fun (w4 : Nat → Int32) (w5 : Nat → Int32) => some (w4, w5))
theorem in_X1_readPairs_X1 : ∀ w ∈ wsX10, w ∈ wsX1_readPairs := by decide +kernel
theorem fl_X1_readPairs_40 : Cond.fieldLink RX1 40 "ColophonHunt$Reading" "size" "I" ∈ wsX1_readPairs := by decide +kernel
theorem fl_X1_readPairs_9 : Cond.fieldLink RX1 9 "ColophonHunt$Reading" "before" "[I" ∈ wsX1_readPairs := by decide +kernel
theorem fl_X1_readPairs_15 : Cond.fieldLink RX1 15 "ColophonHunt$Reading" "behind" "[I" ∈ wsX1_readPairs := by decide +kernel
theorem hd_X1_readPairs : yX1_readPairs.cls = RX1 ∧ yX1_readPairs.cls ≠ "java/lang/invoke/MethodHandle" ∧ yX1_readPairs.cls ≠ "java/lang/invoke/VarHandle" ∧ (parseMethodDescriptor yX1_readPairs.desc).map (fun d => d.parameters.length) = some 1 := by decide +kernel
set_option maxRecDepth 100000 in
set_option maxHeartbeats 4000000 in
theorem c_X1_readPairs (l : Launch) (D : va_G) (cI cS cL : ClassId) (a0 : Nat) (a1 : Nat) (a2 : Nat) (a3 : Nat) (a4 : Nat) (a5 : Nat) (a6 : Nat) (a7 : Nat) (b0_2 : Nat) (b0_3 : Nat) (b0_4 : Nat) (b0_5 : Nat) (b0_6 : Nat) (x0_areOrdersCounted : Int32) (x0_isAnyOrder : Int32) (x0_size : Int32) (f1 : Nat → Int32) (f2 : Nat → Int32) (x3_size : Int32) (f4 : Nat → Int32) (f5 : Nat → Int32) (f6 : Nat → Int32) (f7 : Nat → Int32) (y0 : Nat → Int32) (y1 : Nat → Int32) (hc : f_X1_readPairs x0_size f1 f2 f4 f5 f6 f7 = some (y0, y1)) : KM l yX1_readPairs wsX1_readPairs { frames := 1, cells := 0, slots := 0, locals := 23 } D (tyS cI cS cL) [.ref a0, .ref a3] [(a0, .inr (1, [.ref a1, .ref a2, .ref b0_2, .ref b0_3, .ref b0_4, .ref b0_5, .ref b0_6, .int x0_areOrdersCounted, .int x0_isAnyOrder, .int x0_size])), (a1, .inl (cI, 10, .inl f1)), (a2, .inl (cI, 10, .inl f2)), (a3, .inr (2, [.ref a4, .ref a5, .ref a6, .ref a7, .int x3_size])), (a4, .inl (cI, 10, .inl f4)), (a5, .inl (cI, 10, .inl f5)), (a6, .inl (cI, 10, .inl f6)), (a7, .inl (cI, 10, .inl f7))] none (fun w => w = [(a0, .inr (1, [.ref a1, .ref a2, .ref b0_2, .ref b0_3, .ref b0_4, .ref b0_5, .ref b0_6, .int x0_areOrdersCounted, .int x0_isAnyOrder, .int x0_size])), (a1, .inl (cI, 10, .inl y0)), (a2, .inl (cI, 10, .inl y1)), (a3, .inr (2, [.ref a4, .ref a5, .ref a6, .ref a7, .int x3_size])), (a4, .inl (cI, 10, .inl f4)), (a5, .inl (cI, 10, .inl f5)), (a6, .inl (cI, 10, .inl f6)), (a7, .inl (cI, 10, .inl f7))]) 0 0 := by
  refine g_entry (cc := cX1_readPairs) (nL := 4) (rt := none) (by decide) rfl (Nat.le_of_ble_eq_true rfl) ?_
  intro p e s m args below meth c A (X : GC p s m args c cX1_readPairs 4 RX1 wsX1_readPairs D (tyS cI cS cL) A) hr hlk _ _
  have h := hc
  unfold f_X1_readPairs at h
  refine g_lv (lv' := [(0, .ref a0), (1, .ref a3)]) [0, 1] rfl ?_
  refine g_iconst (v := 0) X dX1_readPairs_0 (by decide) ?_
  refine g_istore_n (lv' := [(2, .int 0), (0, .ref a0), (1, .ref a3)]) X dX1_readPairs_1 rfl (by decide) rfl ?_
  refine g_lv (lv' := [(0, .ref a0), (1, .ref a3), (2, .int 0)]) [1, 2, 0] rfl ?_
  refine wl_g1 h (u3 fun l2_1 w2 w3 => [(a0, .inr (1, [.ref a1, .ref a2, .ref b0_2, .ref b0_3, .ref b0_4, .ref b0_5, .ref b0_6, .int x0_areOrdersCounted, .int x0_isAnyOrder, .int x0_size])), (a1, .inl (cI, 10, .inl w2)), (a2, .inl (cI, 10, .inl w3)), (a3, .inr (2, [.ref a4, .ref a5, .ref a6, .ref a7, .int x3_size])), (a4, .inl (cI, 10, .inl f4)), (a5, .inl (cI, 10, .inl f5)), (a6, .inl (cI, 10, .inl f6)), (a7, .inl (cI, 10, .inl f7))]) (u3 fun l2_1 w2 w3 => [(0, .ref a0), (1, .ref a3), (2, .int l2_1)]) rfl rfl (u2 fun w4 w5 => [(a0, .inr (1, [.ref a1, .ref a2, .ref b0_2, .ref b0_3, .ref b0_4, .ref b0_5, .ref b0_6, .int x0_areOrdersCounted, .int x0_isAnyOrder, .int x0_size])), (a1, .inl (cI, 10, .inl w4)), (a2, .inl (cI, 10, .inl w5)), (a3, .inr (2, [.ref a4, .ref a5, .ref a6, .ref a7, .int x3_size])), (a4, .inl (cI, 10, .inl f4)), (a5, .inl (cI, 10, .inl f5)), (a6, .inl (cI, 10, .inl f6)), (a7, .inl (cI, 10, .inl f7))]) (u2 fun w4 w5 => []) 98 ?_ ?_
  · rintro ⟨w4, w5⟩ h
    dsimp only [u2] at h ⊢
    have h := Option.some.inj h
    simp only [Prod.mk.injEq] at h
    obtain ⟨rfl, rfl⟩ := h
    exact g_vret X hr hlk dX1_readPairs_98 rfl
  · rintro ⟨l2_1, w2, w3⟩ o h hI hE
    dsimp only [u3] at h ⊢
    refine g_iload_n X (j := 2) dX1_readPairs_2 rfl ?_
    refine g_aload_n X (j := 0) dX1_readPairs_3 rfl ?_
    refine g_get (q0 := 0) (k := 9) (ci := 1) X in_X1_readPairs_X1 fl_X1_readPairs_40 rfl rfl (Nat.le_of_ble_eq_true rfl) rfl dX1_readPairs_4 ?_
    refine g_icmp_ge (tgt := 98) X h dX1_readPairs_7 (by decide) (fun h => ?_) (fun h => ?_)
    · refine g_lv (lv' := []) [] rfl ?_
      exact hE (w2, w3) (Option.some.inj h).symm
    · refine g_aload_n X (j := 0) dX1_readPairs_10 rfl ?_
      refine g_get (q0 := 0) (k := 0) (ci := 1) X in_X1_readPairs_X1 fl_X1_readPairs_9 rfl rfl (Nat.le_of_ble_eq_true rfl) rfl dX1_readPairs_11 ?_
      refine g_iload_n X (j := 2) dX1_readPairs_14 rfl ?_
      refine g_iconst (v := 0) X dX1_readPairs_15 (by decide) ?_
      refine g_iast (q0 := 1) (t0 := 0) (ws1 := fun g6 => [(a0, .inr (1, [.ref a1, .ref a2, .ref b0_2, .ref b0_3, .ref b0_4, .ref b0_5, .ref b0_6, .int x0_areOrdersCounted, .int x0_isAnyOrder, .int x0_size])), (a1, .inl (cI, 10, .inl g6)), (a2, .inl (cI, 10, .inl w3)), (a3, .inr (2, [.ref a4, .ref a5, .ref a6, .ref a7, .int x3_size])), (a4, .inl (cI, 10, .inl f4)), (a5, .inl (cI, 10, .inl f5)), (a6, .inl (cI, 10, .inl f6)), (a7, .inl (cI, 10, .inl f7))]) X h rfl rfl dX1_readPairs_16 (fun _ => rfl) (fun g6 h => ?_)
      refine g_aload_n X (j := 0) dX1_readPairs_17 rfl ?_
      refine g_get (q0 := 0) (k := 1) (ci := 1) X in_X1_readPairs_X1 fl_X1_readPairs_15 rfl rfl (Nat.le_of_ble_eq_true rfl) rfl dX1_readPairs_18 ?_
      refine g_iload_n X (j := 2) dX1_readPairs_21 rfl ?_
      refine g_iconst (v := 0) X dX1_readPairs_22 (by decide) ?_
      refine g_iast (q0 := 2) (t0 := 0) (ws1 := fun g7 => [(a0, .inr (1, [.ref a1, .ref a2, .ref b0_2, .ref b0_3, .ref b0_4, .ref b0_5, .ref b0_6, .int x0_areOrdersCounted, .int x0_isAnyOrder, .int x0_size])), (a1, .inl (cI, 10, .inl g6)), (a2, .inl (cI, 10, .inl g7)), (a3, .inr (2, [.ref a4, .ref a5, .ref a6, .ref a7, .int x3_size])), (a4, .inl (cI, 10, .inl f4)), (a5, .inl (cI, 10, .inl f5)), (a6, .inl (cI, 10, .inl f6)), (a7, .inl (cI, 10, .inl f7))]) X h rfl rfl dX1_readPairs_23 (fun _ => rfl) (fun g7 h => ?_)
      refine g_iconst (v := 0) X dX1_readPairs_24 (by decide) ?_
      refine g_istore_n (lv' := [(3, .int 0), (0, .ref a0), (1, .ref a3), (2, .int l2_1)]) X dX1_readPairs_25 rfl (by decide) rfl ?_
      refine g_lv (lv' := [(0, .ref a0), (1, .ref a3), (2, .int l2_1), (3, .int 0)]) [1, 2, 3, 0] rfl ?_
      refine wl_g1 h (u3 fun l3_8 w9 w10 => [(a0, .inr (1, [.ref a1, .ref a2, .ref b0_2, .ref b0_3, .ref b0_4, .ref b0_5, .ref b0_6, .int x0_areOrdersCounted, .int x0_isAnyOrder, .int x0_size])), (a1, .inl (cI, 10, .inl w9)), (a2, .inl (cI, 10, .inl w10)), (a3, .inr (2, [.ref a4, .ref a5, .ref a6, .ref a7, .int x3_size])), (a4, .inl (cI, 10, .inl f4)), (a5, .inl (cI, 10, .inl f5)), (a6, .inl (cI, 10, .inl f6)), (a7, .inl (cI, 10, .inl f7))]) (u3 fun l3_8 w9 w10 => [(0, .ref a0), (1, .ref a3), (2, .int l2_1), (3, .int l3_8)]) rfl rfl (u2 fun w11 w12 => [(a0, .inr (1, [.ref a1, .ref a2, .ref b0_2, .ref b0_3, .ref b0_4, .ref b0_5, .ref b0_6, .int x0_areOrdersCounted, .int x0_isAnyOrder, .int x0_size])), (a1, .inl (cI, 10, .inl w11)), (a2, .inl (cI, 10, .inl w12)), (a3, .inr (2, [.ref a4, .ref a5, .ref a6, .ref a7, .int x3_size])), (a4, .inl (cI, 10, .inl f4)), (a5, .inl (cI, 10, .inl f5)), (a6, .inl (cI, 10, .inl f6)), (a7, .inl (cI, 10, .inl f7))]) (u2 fun w11 w12 => [(0, .ref a0), (1, .ref a3), (2, .int l2_1)]) 92 ?_ ?_
      · rintro ⟨w11, w12⟩ h
        dsimp only [u2] at h ⊢
        refine g_iinc (j := 2) (lv' := [(2, .int (l2_1 + 1)), (0, .ref a0), (1, .ref a3)]) X (l2_1 + 1) dX1_readPairs_92 rfl rfl (by decide) rfl ?_
        refine g_goto (tgt := 2) X dX1_readPairs_95 (by decide) ?_
        refine g_lv (lv' := [(0, .ref a0), (1, .ref a3), (2, .int (l2_1 + 1))]) [1, 2, 0] rfl ?_
        exact hI ((l2_1 + 1), w11, w12) (Option.some.inj h).symm
      · rintro ⟨l3_8, w9, w10⟩ o h hI hE
        dsimp only [u3] at h ⊢
        refine g_iload_n X (j := 3) dX1_readPairs_26 rfl ?_
        refine g_aload_n X (j := 0) dX1_readPairs_27 rfl ?_
        refine g_get (q0 := 0) (k := 9) (ci := 1) X in_X1_readPairs_X1 fl_X1_readPairs_40 rfl rfl (Nat.le_of_ble_eq_true rfl) rfl dX1_readPairs_28 ?_
        refine g_icmp_ge (tgt := 92) X h dX1_readPairs_31 (by decide) (fun h => ?_) (fun h => ?_)
        · refine g_lv (lv' := [(0, .ref a0), (1, .ref a3), (2, .int l2_1)]) [0, 1, 2] rfl ?_
          exact hE (w9, w10) (Option.some.inj h).symm
        · refine g_iload_n X (j := 3) dX1_readPairs_34 rfl ?_
          refine g_iload_n X (j := 2) dX1_readPairs_35 rfl ?_
          refine jn_g h (u1 fun w13 => [(a0, .inr (1, [.ref a1, .ref a2, .ref b0_2, .ref b0_3, .ref b0_4, .ref b0_5, .ref b0_6, .int x0_areOrdersCounted, .int x0_isAnyOrder, .int x0_size])), (a1, .inl (cI, 10, .inl w13)), (a2, .inl (cI, 10, .inl w10)), (a3, .inr (2, [.ref a4, .ref a5, .ref a6, .ref a7, .int x3_size])), (a4, .inl (cI, 10, .inl f4)), (a5, .inl (cI, 10, .inl f5)), (a6, .inl (cI, 10, .inl f6)), (a7, .inl (cI, 10, .inl f7))]) (u1 fun w13 => [(0, .ref a0), (1, .ref a3), (2, .int l2_1), (3, .int l3_8)]) (u1 fun w13 => []) 60 ?_ ?_
          · rintro w13 h
            dsimp only [u1] at h ⊢
            refine g_iload_n X (j := 3) dX1_readPairs_60 rfl ?_
            refine g_iload_n X (j := 2) dX1_readPairs_61 rfl ?_
            refine jn_g h (u1 fun w15 => [(a0, .inr (1, [.ref a1, .ref a2, .ref b0_2, .ref b0_3, .ref b0_4, .ref b0_5, .ref b0_6, .int x0_areOrdersCounted, .int x0_isAnyOrder, .int x0_size])), (a1, .inl (cI, 10, .inl w13)), (a2, .inl (cI, 10, .inl w15)), (a3, .inr (2, [.ref a4, .ref a5, .ref a6, .ref a7, .int x3_size])), (a4, .inl (cI, 10, .inl f4)), (a5, .inl (cI, 10, .inl f5)), (a6, .inl (cI, 10, .inl f6)), (a7, .inl (cI, 10, .inl f7))]) (u1 fun w15 => [(0, .ref a0), (1, .ref a3), (2, .int l2_1), (3, .int l3_8)]) (u1 fun w15 => []) 86 ?_ ?_
            · rintro w15 h
              dsimp only [u1] at h ⊢
              refine g_iinc (j := 3) (lv' := [(3, .int (l3_8 + 1)), (0, .ref a0), (1, .ref a3), (2, .int l2_1)]) X (l3_8 + 1) dX1_readPairs_86 rfl rfl (by decide) rfl ?_
              refine g_goto (tgt := 26) X dX1_readPairs_89 (by decide) ?_
              refine g_lv (lv' := [(0, .ref a0), (1, .ref a3), (2, .int l2_1), (3, .int (l3_8 + 1))]) [1, 2, 3, 0] rfl ?_
              exact hI ((l3_8 + 1), w13, w15) (Option.some.inj h).symm
            · intro K16 hK16 h
              refine g_icmp_eq (tgt := 86) X h dX1_readPairs_62 (by decide) (fun h => ?_) (fun h => ?_)
              · exact hK16 w10 h
              · refine g_aload_n X (j := 1) dX1_readPairs_65 rfl ?_
                refine g_iload_n X (j := 2) dX1_readPairs_66 rfl ?_
                refine g_iload_n X (j := 3) dX1_readPairs_67 rfl ?_
                obtain ⟨r17, hc, h⟩ := bd1 h
                refine g_callV (q0 := 3) (ci := 2) (is := [3, 4, 5, 6, 7]) (As := [.int l2_1, .int l3_8]) (ws' := [(a0, .inr (1, [.ref a1, .ref a2, .ref b0_2, .ref b0_3, .ref b0_4, .ref b0_5, .ref b0_6, .int x0_areOrdersCounted, .int x0_isAnyOrder, .int x0_size])), (a1, .inl (cI, 10, .inl w13)), (a2, .inl (cI, 10, .inl w10)), (a3, .inr (2, [.ref a4, .ref a5, .ref a6, .ref a7, .int x3_size])), (a4, .inl (cI, 10, .inl f4)), (a5, .inl (cI, 10, .inl f5)), (a6, .inl (cI, 10, .inl f6)), (a7, .inl (cI, 10, .inl f7))]) (st := []) X (c_X2_reasonsAhead l D cI cS cL a3 a4 a5 a6 a7 l2_1 l3_8 x3_size f4 f5 f6 f7 r17 hc) gX1_readPairs_X2_reasonsAhead rfl ⟨rfl, rfl⟩ hd_X2_reasonsAhead (by exact ⟨Nat.le_of_ble_eq_true rfl, Nat.le_of_ble_eq_true rfl⟩) ⟨Nat.zero_le _, Nat.zero_le _⟩ rfl rfl rfl rfl rfl rfl rfl (Nat.le_of_ble_eq_true rfl) rfl dX1_readPairs_68 ?_
                refine g_if_eq (tgt := 86) X h dX1_readPairs_71 (by decide) (fun h => ?_) (fun h => ?_)
                · exact hK16 w10 h
                · refine g_aload_n X (j := 0) dX1_readPairs_74 rfl ?_
                  refine g_get (q0 := 0) (k := 1) (ci := 1) X in_X1_readPairs_X1 fl_X1_readPairs_15 rfl rfl (Nat.le_of_ble_eq_true rfl) rfl dX1_readPairs_75 ?_
                  refine g_iload_n X (j := 2) dX1_readPairs_78 rfl ?_
                  refine g_dup2 X dX1_readPairs_79 rfl rfl ?_
                  refine g_iald (q0 := 2) (t0 := 0) X h rfl rfl dX1_readPairs_80 (fun v18 h => ?_)
                  refine g_iconst (v := 1) X dX1_readPairs_81 (by decide) ?_
                  refine g_iload_n X (j := 3) dX1_readPairs_82 rfl ?_
                  refine g_ishl X dX1_readPairs_83 ?_
                  refine g_ior X dX1_readPairs_84 ?_
                  refine g_iast (q0 := 2) (t0 := 0) (ws1 := fun g19 => [(a0, .inr (1, [.ref a1, .ref a2, .ref b0_2, .ref b0_3, .ref b0_4, .ref b0_5, .ref b0_6, .int x0_areOrdersCounted, .int x0_isAnyOrder, .int x0_size])), (a1, .inl (cI, 10, .inl w13)), (a2, .inl (cI, 10, .inl g19)), (a3, .inr (2, [.ref a4, .ref a5, .ref a6, .ref a7, .int x3_size])), (a4, .inl (cI, 10, .inl f4)), (a5, .inl (cI, 10, .inl f5)), (a6, .inl (cI, 10, .inl f6)), (a7, .inl (cI, 10, .inl f7))]) X h rfl rfl dX1_readPairs_85 (fun _ => rfl) (fun g19 h => ?_)
                  exact hK16 g19 h
          · intro K14 hK14 h
            refine g_icmp_eq (tgt := 60) X h dX1_readPairs_36 (by decide) (fun h => ?_) (fun h => ?_)
            · exact hK14 w9 h
            · refine g_aload_n X (j := 1) dX1_readPairs_39 rfl ?_
              refine g_iload_n X (j := 3) dX1_readPairs_40 rfl ?_
              refine g_iload_n X (j := 2) dX1_readPairs_41 rfl ?_
              obtain ⟨r20, hc, h⟩ := bd1 h
              refine g_callV (q0 := 3) (ci := 2) (is := [3, 4, 5, 6, 7]) (As := [.int l3_8, .int l2_1]) (ws' := [(a0, .inr (1, [.ref a1, .ref a2, .ref b0_2, .ref b0_3, .ref b0_4, .ref b0_5, .ref b0_6, .int x0_areOrdersCounted, .int x0_isAnyOrder, .int x0_size])), (a1, .inl (cI, 10, .inl w9)), (a2, .inl (cI, 10, .inl w10)), (a3, .inr (2, [.ref a4, .ref a5, .ref a6, .ref a7, .int x3_size])), (a4, .inl (cI, 10, .inl f4)), (a5, .inl (cI, 10, .inl f5)), (a6, .inl (cI, 10, .inl f6)), (a7, .inl (cI, 10, .inl f7))]) (st := []) X (c_X2_reasonsAhead l D cI cS cL a3 a4 a5 a6 a7 l3_8 l2_1 x3_size f4 f5 f6 f7 r20 hc) gX1_readPairs_X2_reasonsAhead rfl ⟨rfl, rfl⟩ hd_X2_reasonsAhead (by exact ⟨Nat.le_of_ble_eq_true rfl, Nat.le_of_ble_eq_true rfl⟩) ⟨Nat.zero_le _, Nat.zero_le _⟩ rfl rfl rfl rfl rfl rfl rfl (Nat.le_of_ble_eq_true rfl) rfl dX1_readPairs_42 ?_
              refine g_if_eq (tgt := 60) X h dX1_readPairs_45 (by decide) (fun h => ?_) (fun h => ?_)
              · exact hK14 w9 h
              · refine g_aload_n X (j := 0) dX1_readPairs_48 rfl ?_
                refine g_get (q0 := 0) (k := 0) (ci := 1) X in_X1_readPairs_X1 fl_X1_readPairs_9 rfl rfl (Nat.le_of_ble_eq_true rfl) rfl dX1_readPairs_49 ?_
                refine g_iload_n X (j := 2) dX1_readPairs_52 rfl ?_
                refine g_dup2 X dX1_readPairs_53 rfl rfl ?_
                refine g_iald (q0 := 1) (t0 := 0) X h rfl rfl dX1_readPairs_54 (fun v21 h => ?_)
                refine g_iconst (v := 1) X dX1_readPairs_55 (by decide) ?_
                refine g_iload_n X (j := 3) dX1_readPairs_56 rfl ?_
                refine g_ishl X dX1_readPairs_57 ?_
                refine g_ior X dX1_readPairs_58 ?_
                refine g_iast (q0 := 1) (t0 := 0) (ws1 := fun g22 => [(a0, .inr (1, [.ref a1, .ref a2, .ref b0_2, .ref b0_3, .ref b0_4, .ref b0_5, .ref b0_6, .int x0_areOrdersCounted, .int x0_isAnyOrder, .int x0_size])), (a1, .inl (cI, 10, .inl g22)), (a2, .inl (cI, 10, .inl w10)), (a3, .inr (2, [.ref a4, .ref a5, .ref a6, .ref a7, .int x3_size])), (a4, .inl (cI, 10, .inl f4)), (a5, .inl (cI, 10, .inl f5)), (a6, .inl (cI, 10, .inl f6)), (a7, .inl (cI, 10, .inl f7))]) X h rfl rfl dX1_readPairs_59 (fun _ => rfl) (fun g22 h => ?_)
                exact hK14 g22 h
def f_X1_has (p0 : Int32) (p1 : Int32) : Option (Int32) := (jn (u1 fun (s1 : Int32) => gB s1 (some s1)) (fun K2 => (if ((p0 >>> (p1 &&& 31)) &&& 1) = 0 then K2 0 else K2 1)))
theorem hd_X1_has : yX1_has.cls = RX1 ∧ yX1_has.cls ≠ "java/lang/invoke/MethodHandle" ∧ yX1_has.cls ≠ "java/lang/invoke/VarHandle" ∧ (parseMethodDescriptor yX1_has.desc).map (fun d => d.parameters.length) = some 2 := by decide +kernel
set_option maxRecDepth 100000 in
set_option maxHeartbeats 4000000 in
theorem c_X1_has (l : Launch) (D : va_G) (cI cS cL : ClassId) (p0 : Int32) (p1 : Int32) (rr : Int32) (hc : f_X1_has p0 p1 = some rr) : KM l yX1_has wsX1_has { frames := 0, cells := 0, slots := 0, locals := 0 } D (tyS cI cS cL) [.int p0, .int p1] [] (some (.int rr)) (fun w => w = []) 0 0 := by
  refine g_entry (cc := cX1_has) (nL := 2) (rt := (some .boolean)) (by decide) rfl (Nat.le_of_ble_eq_true rfl) ?_
  intro p e s m args below meth c A (X : GC p s m args c cX1_has 2 RX1 wsX1_has D (tyS cI cS cL) A) hr hlk _ _
  have h := hc
  unfold f_X1_has at h
  refine g_lv (lv' := [(0, .int p0), (1, .int p1)]) [0, 1] rfl ?_
  refine g_iload_n X (j := 0) dX1_has_0 rfl ?_
  refine g_iload_n X (j := 1) dX1_has_1 rfl ?_
  refine g_ishr X dX1_has_2 ?_
  refine g_iconst (v := 1) X dX1_has_3 (by decide) ?_
  refine g_iand X dX1_has_4 ?_
  refine jn_g h (u1 fun s1 => []) (u1 fun s1 => []) (u1 fun s1 => [.int s1]) 13 ?_ ?_
  · rintro s1 h
    dsimp only [u1] at h ⊢
    obtain ⟨hz, h⟩ := gB_e h
    have h := Option.some.inj h
    subst h
    exact g_zret X hr hlk hz dX1_has_13 rfl rfl
  · intro K2 hK2 h
    refine g_if_eq (tgt := 12) X h dX1_has_5 (by decide) (fun h => ?_) (fun h => ?_)
    · refine g_iconst (v := 0) X dX1_has_12 (by decide) ?_
      refine g_lv (lv' := []) [] rfl ?_
      exact hK2 0 h
    · refine g_iconst (v := 1) X dX1_has_8 (by decide) ?_
      refine g_goto (tgt := 13) X dX1_has_9 (by decide) ?_
      refine g_lv (lv' := []) [] rfl ?_
      exact hK2 1 h
def f_X1_followPairs (x0_isAnyOrder : Int32) (x0_size : Int32) (f1 : Nat → Int32) (f2 : Nat → Int32) (f3 : Nat → Int32) (f4 : Nat → Int32) : Option (Int32 × (Nat → Int32) × (Nat → Int32)) := (wl (u3 fun (l1_1 : Int32) (w2 : Nat → Int32) (w3 : Nat → Int32) => (if x0_size ≤ l1_1 then some (Sum.inr (w2, w3)) else (rdA f1 10 l1_1).bind (fun v6 => (wrA w2 10 l1_1 v6).bind (fun g7 => (rdA f2 10 l1_1).bind (fun v8 => (wrA w3 10 l1_1 v8).bind (fun g9 => some (Sum.inl ((l1_1 + 1), g7, g9)))))))) 9999 (0, f3, f4)).bind (u2 fun (w4 : Nat → Int32) (w5 : Nat → Int32) => (wl (u3 fun (l1_10 : Int32) (w11 : Nat → Int32) (w12 : Nat → Int32) => (if x0_size ≤ l1_10 then some (Sum.inr (w11, w12)) else (wl (u3 fun (l2_15 : Int32) (w16 : Nat → Int32) (w17 : Nat → Int32) => (if x0_size ≤ l2_15 then some (Sum.inr (w16, w17)) else (rdA w16 10 l2_15).bind (fun v20 => (f_X1_has v20 l1_10).bind (u1 fun (r21 : Int32) => (jn (u1 fun (w22 : Nat → Int32) => (rdA w17 10 l2_15).bind (fun v24 => (f_X1_has v24 l1_10).bind (u1 fun (r25 : Int32) => (jn (u1 fun (w26 : Nat → Int32) => some (Sum.inl ((l2_15 + 1), w22, w26))) (fun K27 => (if r25 = 0 then K27 w17 else (rdA w17 10 l2_15).bind (fun v28 => (rdA w17 10 l1_10).bind (fun v29 => (wrA w17 10 l2_15 (v28 ||| v29)).bind (fun g30 => K27 g30))))))))) (fun K23 => (if r21 = 0 then K23 w16 else (rdA w16 10 l2_15).bind (fun v31 => (rdA w16 10 l1_10).bind (fun v32 => (wrA w16 10 l2_15 (v31 ||| v32)).bind (fun g33 => K23 g33)))))))))) 9999 (0, w11, w12)).bind (u2 fun (w18 : Nat → Int32) (w19 : Nat → Int32) => some (Sum.inl ((l1_10 + 1), w18, w19))))) 9999 (0, w4, w5)).bind (u2 fun (w13 : Nat → Int32) (w14 : Nat → Int32) => (wl (u2 fun (l1_34 : Int32) (w35 : Int32) => (if x0_size ≤ l1_34 then some (Sum.inr w35) else (rdA w13 10 l1_34).bind (fun v37 => (f_X1_has v37 l1_34).bind (u1 fun (r38 : Int32) => (jn (u1 fun (w39 : Int32) => some (Sum.inl ((l1_34 + 1), w39))) (fun K40 => (if r38 = 0 then K40 w35 else K40 0))))))) 9999 (0, 1)).bind (u1 fun (w36 : Int32) => some (w36, w13, w14))))
theorem in_X1_followPairs_X1 : ∀ w ∈ wsX10, w ∈ wsX1_followPairs := by decide +kernel
theorem fl_X1_followPairs_40 : Cond.fieldLink RX1 40 "ColophonHunt$Reading" "size" "I" ∈ wsX1_followPairs := by decide +kernel
theorem fl_X1_followPairs_24 : Cond.fieldLink RX1 24 "ColophonHunt$Reading" "allBefore" "[I" ∈ wsX1_followPairs := by decide +kernel
theorem fl_X1_followPairs_9 : Cond.fieldLink RX1 9 "ColophonHunt$Reading" "before" "[I" ∈ wsX1_followPairs := by decide +kernel
theorem fl_X1_followPairs_27 : Cond.fieldLink RX1 27 "ColophonHunt$Reading" "allBehind" "[I" ∈ wsX1_followPairs := by decide +kernel
theorem fl_X1_followPairs_15 : Cond.fieldLink RX1 15 "ColophonHunt$Reading" "behind" "[I" ∈ wsX1_followPairs := by decide +kernel
theorem fl_X1_followPairs_37 : Cond.fieldLink RX1 37 "ColophonHunt$Reading" "isAnyOrder" "Z" ∈ wsX1_followPairs := by decide +kernel
theorem hd_X1_followPairs : yX1_followPairs.cls = RX1 ∧ yX1_followPairs.cls ≠ "java/lang/invoke/MethodHandle" ∧ yX1_followPairs.cls ≠ "java/lang/invoke/VarHandle" ∧ (parseMethodDescriptor yX1_followPairs.desc).map (fun d => d.parameters.length) = some 0 := by decide +kernel
set_option maxRecDepth 100000 in
set_option maxHeartbeats 4000000 in
theorem c_X1_followPairs (l : Launch) (D : va_G) (cI cS cL : ClassId) (a0 : Nat) (a1 : Nat) (a2 : Nat) (a3 : Nat) (a4 : Nat) (b0_2 : Nat) (b0_3 : Nat) (b0_6 : Nat) (x0_areOrdersCounted : Int32) (x0_isAnyOrder : Int32) (x0_size : Int32) (f1 : Nat → Int32) (f2 : Nat → Int32) (f3 : Nat → Int32) (f4 : Nat → Int32) (y0 : Int32) (y1 : Nat → Int32) (y2 : Nat → Int32) (hc : f_X1_followPairs x0_isAnyOrder x0_size f1 f2 f3 f4 = some (y0, y1, y2)) : KM l yX1_followPairs wsX1_followPairs { frames := 1, cells := 0, slots := 0, locals := 21 } D (tyS cI cS cL) [.ref a0] [(a0, .inr (1, [.ref a1, .ref a2, .ref b0_2, .ref b0_3, .ref a3, .ref a4, .ref b0_6, .int x0_areOrdersCounted, .int x0_isAnyOrder, .int x0_size])), (a1, .inl (cI, 10, .inl f1)), (a2, .inl (cI, 10, .inl f2)), (a3, .inl (cI, 10, .inl f3)), (a4, .inl (cI, 10, .inl f4))] none (fun w => w = [(a0, .inr (1, [.ref a1, .ref a2, .ref b0_2, .ref b0_3, .ref a3, .ref a4, .ref b0_6, .int x0_areOrdersCounted, .int y0, .int x0_size])), (a1, .inl (cI, 10, .inl f1)), (a2, .inl (cI, 10, .inl f2)), (a3, .inl (cI, 10, .inl y1)), (a4, .inl (cI, 10, .inl y2))]) 0 0 := by
  refine g_entry (cc := cX1_followPairs) (nL := 3) (rt := none) (by decide) rfl (Nat.le_of_ble_eq_true rfl) ?_
  intro p e s m args below meth c A (X : GC p s m args c cX1_followPairs 3 RX1 wsX1_followPairs D (tyS cI cS cL) A) hr hlk _ _
  have h := hc
  unfold f_X1_followPairs at h
  refine g_lv (lv' := [(0, .ref a0)]) [0] rfl ?_
  refine g_iconst (v := 0) X dX1_followPairs_0 (by decide) ?_
  refine g_istore_n (lv' := [(1, .int 0), (0, .ref a0)]) X dX1_followPairs_1 rfl (by decide) rfl ?_
  refine g_lv (lv' := [(0, .ref a0), (1, .int 0)]) [1, 0] rfl ?_
  refine wl_g1 h (u3 fun l1_1 w2 w3 => [(a0, .inr (1, [.ref a1, .ref a2, .ref b0_2, .ref b0_3, .ref a3, .ref a4, .ref b0_6, .int x0_areOrdersCounted, .int x0_isAnyOrder, .int x0_size])), (a1, .inl (cI, 10, .inl f1)), (a2, .inl (cI, 10, .inl f2)), (a3, .inl (cI, 10, .inl w2)), (a4, .inl (cI, 10, .inl w3))]) (u3 fun l1_1 w2 w3 => [(0, .ref a0), (1, .int l1_1)]) rfl rfl (u2 fun w4 w5 => [(a0, .inr (1, [.ref a1, .ref a2, .ref b0_2, .ref b0_3, .ref a3, .ref a4, .ref b0_6, .int x0_areOrdersCounted, .int x0_isAnyOrder, .int x0_size])), (a1, .inl (cI, 10, .inl f1)), (a2, .inl (cI, 10, .inl f2)), (a3, .inl (cI, 10, .inl w4)), (a4, .inl (cI, 10, .inl w5))]) (u2 fun w4 w5 => [(0, .ref a0)]) 40 ?_ ?_
  · rintro ⟨w4, w5⟩ h
    dsimp only [u2] at h ⊢
    refine g_iconst (v := 0) X dX1_followPairs_40 (by decide) ?_
    refine g_istore_n (lv' := [(1, .int 0), (0, .ref a0)]) X dX1_followPairs_41 rfl (by decide) rfl ?_
    refine g_lv (lv' := [(0, .ref a0), (1, .int 0)]) [1, 0] rfl ?_
    refine wl_g1 h (u3 fun l1_10 w11 w12 => [(a0, .inr (1, [.ref a1, .ref a2, .ref b0_2, .ref b0_3, .ref a3, .ref a4, .ref b0_6, .int x0_areOrdersCounted, .int x0_isAnyOrder, .int x0_size])), (a1, .inl (cI, 10, .inl f1)), (a2, .inl (cI, 10, .inl f2)), (a3, .inl (cI, 10, .inl w11)), (a4, .inl (cI, 10, .inl w12))]) (u3 fun l1_10 w11 w12 => [(0, .ref a0), (1, .int l1_10)]) rfl rfl (u2 fun w13 w14 => [(a0, .inr (1, [.ref a1, .ref a2, .ref b0_2, .ref b0_3, .ref a3, .ref a4, .ref b0_6, .int x0_areOrdersCounted, .int x0_isAnyOrder, .int x0_size])), (a1, .inl (cI, 10, .inl f1)), (a2, .inl (cI, 10, .inl f2)), (a3, .inl (cI, 10, .inl w13)), (a4, .inl (cI, 10, .inl w14))]) (u2 fun w13 w14 => [(0, .ref a0)]) 128 ?_ ?_
    · rintro ⟨w13, w14⟩ h
      dsimp only [u2] at h ⊢
      refine g_aload_n X (j := 0) dX1_followPairs_128 rfl ?_
      refine g_iconst (v := 1) X dX1_followPairs_129 (by decide) ?_
      refine g_put (q0 := 0) (k := 8) (ci := 1) (ws' := [(a0, .inr (1, [.ref a1, .ref a2, .ref b0_2, .ref b0_3, .ref a3, .ref a4, .ref b0_6, .int x0_areOrdersCounted, .int 1, .int x0_size])), (a1, .inl (cI, 10, .inl f1)), (a2, .inl (cI, 10, .inl f2)), (a3, .inl (cI, 10, .inl w13)), (a4, .inl (cI, 10, .inl w14))]) X tyX1_ok nmX1 in_X1_followPairs_X1 fl_X1_followPairs_37 rfl rfl (Nat.le_of_ble_eq_true rfl) rfl rfl rfl (Nat.le_of_ble_eq_true rfl) dX1_followPairs_130 rfl ?_
      refine g_iconst (v := 0) X dX1_followPairs_133 (by decide) ?_
      refine g_istore_n (lv' := [(1, .int 0), (0, .ref a0)]) X dX1_followPairs_134 rfl (by decide) rfl ?_
      refine g_lv (lv' := [(0, .ref a0), (1, .int 0)]) [1, 0] rfl ?_
      refine wl_g1 h (u2 fun l1_34 w35 => [(a0, .inr (1, [.ref a1, .ref a2, .ref b0_2, .ref b0_3, .ref a3, .ref a4, .ref b0_6, .int x0_areOrdersCounted, .int w35, .int x0_size])), (a1, .inl (cI, 10, .inl f1)), (a2, .inl (cI, 10, .inl f2)), (a3, .inl (cI, 10, .inl w13)), (a4, .inl (cI, 10, .inl w14))]) (u2 fun l1_34 w35 => [(0, .ref a0), (1, .int l1_34)]) rfl rfl (u1 fun w36 => [(a0, .inr (1, [.ref a1, .ref a2, .ref b0_2, .ref b0_3, .ref a3, .ref a4, .ref b0_6, .int x0_areOrdersCounted, .int w36, .int x0_size])), (a1, .inl (cI, 10, .inl f1)), (a2, .inl (cI, 10, .inl f2)), (a3, .inl (cI, 10, .inl w13)), (a4, .inl (cI, 10, .inl w14))]) (u1 fun w36 => []) 167 ?_ ?_
      · rintro w36 h
        dsimp only [u1] at h ⊢
        have h := Option.some.inj h
        simp only [Prod.mk.injEq] at h
        obtain ⟨rfl, rfl, rfl⟩ := h
        exact g_vret X hr hlk dX1_followPairs_167 rfl
      · rintro ⟨l1_34, w35⟩ o h hI hE
        dsimp only [u2] at h ⊢
        refine g_iload_n X (j := 1) dX1_followPairs_135 rfl ?_
        refine g_aload_n X (j := 0) dX1_followPairs_136 rfl ?_
        refine g_get (q0 := 0) (k := 9) (ci := 1) X in_X1_followPairs_X1 fl_X1_followPairs_40 rfl rfl (Nat.le_of_ble_eq_true rfl) rfl dX1_followPairs_137 ?_
        refine g_icmp_ge (tgt := 167) X h dX1_followPairs_140 (by decide) (fun h => ?_) (fun h => ?_)
        · refine g_lv (lv' := []) [] rfl ?_
          exact hE w35 (Option.some.inj h).symm
        · refine g_aload_n X (j := 0) dX1_followPairs_143 rfl ?_
          refine g_get (q0 := 0) (k := 4) (ci := 1) X in_X1_followPairs_X1 fl_X1_followPairs_24 rfl rfl (Nat.le_of_ble_eq_true rfl) rfl dX1_followPairs_144 ?_
          refine g_iload_n X (j := 1) dX1_followPairs_147 rfl ?_
          refine g_iald (q0 := 3) (t0 := 0) X h rfl rfl dX1_followPairs_148 (fun v37 h => ?_)
          refine g_iload_n X (j := 1) dX1_followPairs_149 rfl ?_
          obtain ⟨r38, hc, h⟩ := bd1 h
          refine g_callS0 (As := [.int v37, .int l1_34]) (st := []) X (c_X1_has l D cI cS cL v37 l1_34 r38 hc) gX1_followPairs_X1_has rfl ⟨rfl, rfl⟩ hd_X1_has.2 ⟨Nat.le_of_ble_eq_true rfl, Nat.le_of_ble_eq_true rfl⟩ ⟨Nat.zero_le _, Nat.zero_le _⟩ rfl (Nat.le_of_ble_eq_true rfl) rfl dX1_followPairs_150 ?_
          refine jn_g h (u1 fun w39 => [(a0, .inr (1, [.ref a1, .ref a2, .ref b0_2, .ref b0_3, .ref a3, .ref a4, .ref b0_6, .int x0_areOrdersCounted, .int w39, .int x0_size])), (a1, .inl (cI, 10, .inl f1)), (a2, .inl (cI, 10, .inl f2)), (a3, .inl (cI, 10, .inl w13)), (a4, .inl (cI, 10, .inl w14))]) (u1 fun w39 => [(0, .ref a0), (1, .int l1_34)]) (u1 fun w39 => []) 161 ?_ ?_
          · rintro w39 h
            dsimp only [u1] at h ⊢
            refine g_iinc (j := 1) (lv' := [(1, .int (l1_34 + 1)), (0, .ref a0)]) X (l1_34 + 1) dX1_followPairs_161 rfl rfl (by decide) rfl ?_
            refine g_goto (tgt := 135) X dX1_followPairs_164 (by decide) ?_
            refine g_lv (lv' := [(0, .ref a0), (1, .int (l1_34 + 1))]) [1, 0] rfl ?_
            exact hI ((l1_34 + 1), w39) (Option.some.inj h).symm
          · intro K40 hK40 h
            refine g_if_eq (tgt := 161) X h dX1_followPairs_153 (by decide) (fun h => ?_) (fun h => ?_)
            · exact hK40 w35 h
            · refine g_aload_n X (j := 0) dX1_followPairs_156 rfl ?_
              refine g_iconst (v := 0) X dX1_followPairs_157 (by decide) ?_
              refine g_put (q0 := 0) (k := 8) (ci := 1) (ws' := [(a0, .inr (1, [.ref a1, .ref a2, .ref b0_2, .ref b0_3, .ref a3, .ref a4, .ref b0_6, .int x0_areOrdersCounted, .int 0, .int x0_size])), (a1, .inl (cI, 10, .inl f1)), (a2, .inl (cI, 10, .inl f2)), (a3, .inl (cI, 10, .inl w13)), (a4, .inl (cI, 10, .inl w14))]) X tyX1_ok nmX1 in_X1_followPairs_X1 fl_X1_followPairs_37 rfl rfl (Nat.le_of_ble_eq_true rfl) rfl rfl rfl (Nat.le_of_ble_eq_true rfl) dX1_followPairs_158 rfl ?_
              exact hK40 0 h
    · rintro ⟨l1_10, w11, w12⟩ o h hI hE
      dsimp only [u3] at h ⊢
      refine g_iload_n X (j := 1) dX1_followPairs_42 rfl ?_
      refine g_aload_n X (j := 0) dX1_followPairs_43 rfl ?_
      refine g_get (q0 := 0) (k := 9) (ci := 1) X in_X1_followPairs_X1 fl_X1_followPairs_40 rfl rfl (Nat.le_of_ble_eq_true rfl) rfl dX1_followPairs_44 ?_
      refine g_icmp_ge (tgt := 128) X h dX1_followPairs_47 (by decide) (fun h => ?_) (fun h => ?_)
      · refine g_lv (lv' := [(0, .ref a0)]) [0] rfl ?_
        exact hE (w11, w12) (Option.some.inj h).symm
      · refine g_iconst (v := 0) X dX1_followPairs_50 (by decide) ?_
        refine g_istore_n (lv' := [(2, .int 0), (0, .ref a0), (1, .int l1_10)]) X dX1_followPairs_51 rfl (by decide) rfl ?_
        refine g_lv (lv' := [(0, .ref a0), (1, .int l1_10), (2, .int 0)]) [1, 2, 0] rfl ?_
        refine wl_g1 h (u3 fun l2_15 w16 w17 => [(a0, .inr (1, [.ref a1, .ref a2, .ref b0_2, .ref b0_3, .ref a3, .ref a4, .ref b0_6, .int x0_areOrdersCounted, .int x0_isAnyOrder, .int x0_size])), (a1, .inl (cI, 10, .inl f1)), (a2, .inl (cI, 10, .inl f2)), (a3, .inl (cI, 10, .inl w16)), (a4, .inl (cI, 10, .inl w17))]) (u3 fun l2_15 w16 w17 => [(0, .ref a0), (1, .int l1_10), (2, .int l2_15)]) rfl rfl (u2 fun w18 w19 => [(a0, .inr (1, [.ref a1, .ref a2, .ref b0_2, .ref b0_3, .ref a3, .ref a4, .ref b0_6, .int x0_areOrdersCounted, .int x0_isAnyOrder, .int x0_size])), (a1, .inl (cI, 10, .inl f1)), (a2, .inl (cI, 10, .inl f2)), (a3, .inl (cI, 10, .inl w18)), (a4, .inl (cI, 10, .inl w19))]) (u2 fun w18 w19 => [(0, .ref a0), (1, .int l1_10)]) 122 ?_ ?_
        · rintro ⟨w18, w19⟩ h
          dsimp only [u2] at h ⊢
          refine g_iinc (j := 1) (lv' := [(1, .int (l1_10 + 1)), (0, .ref a0)]) X (l1_10 + 1) dX1_followPairs_122 rfl rfl (by decide) rfl ?_
          refine g_goto (tgt := 42) X dX1_followPairs_125 (by decide) ?_
          refine g_lv (lv' := [(0, .ref a0), (1, .int (l1_10 + 1))]) [1, 0] rfl ?_
          exact hI ((l1_10 + 1), w18, w19) (Option.some.inj h).symm
        · rintro ⟨l2_15, w16, w17⟩ o h hI hE
          dsimp only [u3] at h ⊢
          refine g_iload_n X (j := 2) dX1_followPairs_52 rfl ?_
          refine g_aload_n X (j := 0) dX1_followPairs_53 rfl ?_
          refine g_get (q0 := 0) (k := 9) (ci := 1) X in_X1_followPairs_X1 fl_X1_followPairs_40 rfl rfl (Nat.le_of_ble_eq_true rfl) rfl dX1_followPairs_54 ?_
          refine g_icmp_ge (tgt := 122) X h dX1_followPairs_57 (by decide) (fun h => ?_) (fun h => ?_)
          · refine g_lv (lv' := [(0, .ref a0), (1, .int l1_10)]) [0, 1] rfl ?_
            exact hE (w16, w17) (Option.some.inj h).symm
          · refine g_aload_n X (j := 0) dX1_followPairs_60 rfl ?_
            refine g_get (q0 := 0) (k := 4) (ci := 1) X in_X1_followPairs_X1 fl_X1_followPairs_24 rfl rfl (Nat.le_of_ble_eq_true rfl) rfl dX1_followPairs_61 ?_
            refine g_iload_n X (j := 2) dX1_followPairs_64 rfl ?_
            refine g_iald (q0 := 3) (t0 := 0) X h rfl rfl dX1_followPairs_65 (fun v20 h => ?_)
            refine g_iload_n X (j := 1) dX1_followPairs_66 rfl ?_
            obtain ⟨r21, hc, h⟩ := bd1 h
            refine g_callS0 (As := [.int v20, .int l1_10]) (st := []) X (c_X1_has l D cI cS cL v20 l1_10 r21 hc) gX1_followPairs_X1_has rfl ⟨rfl, rfl⟩ hd_X1_has.2 ⟨Nat.le_of_ble_eq_true rfl, Nat.le_of_ble_eq_true rfl⟩ ⟨Nat.zero_le _, Nat.zero_le _⟩ rfl (Nat.le_of_ble_eq_true rfl) rfl dX1_followPairs_67 ?_
            refine jn_g h (u1 fun w22 => [(a0, .inr (1, [.ref a1, .ref a2, .ref b0_2, .ref b0_3, .ref a3, .ref a4, .ref b0_6, .int x0_areOrdersCounted, .int x0_isAnyOrder, .int x0_size])), (a1, .inl (cI, 10, .inl f1)), (a2, .inl (cI, 10, .inl f2)), (a3, .inl (cI, 10, .inl w22)), (a4, .inl (cI, 10, .inl w17))]) (u1 fun w22 => [(0, .ref a0), (1, .int l1_10), (2, .int l2_15)]) (u1 fun w22 => []) 88 ?_ ?_
            · rintro w22 h
              dsimp only [u1] at h ⊢
              refine g_aload_n X (j := 0) dX1_followPairs_88 rfl ?_
              refine g_get (q0 := 0) (k := 5) (ci := 1) X in_X1_followPairs_X1 fl_X1_followPairs_27 rfl rfl (Nat.le_of_ble_eq_true rfl) rfl dX1_followPairs_89 ?_
              refine g_iload_n X (j := 2) dX1_followPairs_92 rfl ?_
              refine g_iald (q0 := 4) (t0 := 0) X h rfl rfl dX1_followPairs_93 (fun v24 h => ?_)
              refine g_iload_n X (j := 1) dX1_followPairs_94 rfl ?_
              obtain ⟨r25, hc, h⟩ := bd1 h
              refine g_callS0 (As := [.int v24, .int l1_10]) (st := []) X (c_X1_has l D cI cS cL v24 l1_10 r25 hc) gX1_followPairs_X1_has rfl ⟨rfl, rfl⟩ hd_X1_has.2 ⟨Nat.le_of_ble_eq_true rfl, Nat.le_of_ble_eq_true rfl⟩ ⟨Nat.zero_le _, Nat.zero_le _⟩ rfl (Nat.le_of_ble_eq_true rfl) rfl dX1_followPairs_95 ?_
              refine jn_g h (u1 fun w26 => [(a0, .inr (1, [.ref a1, .ref a2, .ref b0_2, .ref b0_3, .ref a3, .ref a4, .ref b0_6, .int x0_areOrdersCounted, .int x0_isAnyOrder, .int x0_size])), (a1, .inl (cI, 10, .inl f1)), (a2, .inl (cI, 10, .inl f2)), (a3, .inl (cI, 10, .inl w22)), (a4, .inl (cI, 10, .inl w26))]) (u1 fun w26 => [(0, .ref a0), (1, .int l1_10), (2, .int l2_15)]) (u1 fun w26 => []) 116 ?_ ?_
              · rintro w26 h
                dsimp only [u1] at h ⊢
                refine g_iinc (j := 2) (lv' := [(2, .int (l2_15 + 1)), (0, .ref a0), (1, .int l1_10)]) X (l2_15 + 1) dX1_followPairs_116 rfl rfl (by decide) rfl ?_
                refine g_goto (tgt := 52) X dX1_followPairs_119 (by decide) ?_
                refine g_lv (lv' := [(0, .ref a0), (1, .int l1_10), (2, .int (l2_15 + 1))]) [1, 2, 0] rfl ?_
                exact hI ((l2_15 + 1), w22, w26) (Option.some.inj h).symm
              · intro K27 hK27 h
                refine g_if_eq (tgt := 116) X h dX1_followPairs_98 (by decide) (fun h => ?_) (fun h => ?_)
                · exact hK27 w17 h
                · refine g_aload_n X (j := 0) dX1_followPairs_101 rfl ?_
                  refine g_get (q0 := 0) (k := 5) (ci := 1) X in_X1_followPairs_X1 fl_X1_followPairs_27 rfl rfl (Nat.le_of_ble_eq_true rfl) rfl dX1_followPairs_102 ?_
                  refine g_iload_n X (j := 2) dX1_followPairs_105 rfl ?_
                  refine g_dup2 X dX1_followPairs_106 rfl rfl ?_
                  refine g_iald (q0 := 4) (t0 := 0) X h rfl rfl dX1_followPairs_107 (fun v28 h => ?_)
                  refine g_aload_n X (j := 0) dX1_followPairs_108 rfl ?_
                  refine g_get (q0 := 0) (k := 5) (ci := 1) X in_X1_followPairs_X1 fl_X1_followPairs_27 rfl rfl (Nat.le_of_ble_eq_true rfl) rfl dX1_followPairs_109 ?_
                  refine g_iload_n X (j := 1) dX1_followPairs_112 rfl ?_
                  refine g_iald (q0 := 4) (t0 := 0) X h rfl rfl dX1_followPairs_113 (fun v29 h => ?_)
                  refine g_ior X dX1_followPairs_114 ?_
                  refine g_iast (q0 := 4) (t0 := 0) (ws1 := fun g30 => [(a0, .inr (1, [.ref a1, .ref a2, .ref b0_2, .ref b0_3, .ref a3, .ref a4, .ref b0_6, .int x0_areOrdersCounted, .int x0_isAnyOrder, .int x0_size])), (a1, .inl (cI, 10, .inl f1)), (a2, .inl (cI, 10, .inl f2)), (a3, .inl (cI, 10, .inl w22)), (a4, .inl (cI, 10, .inl g30))]) X h rfl rfl dX1_followPairs_115 (fun _ => rfl) (fun g30 h => ?_)
                  exact hK27 g30 h
            · intro K23 hK23 h
              refine g_if_eq (tgt := 88) X h dX1_followPairs_70 (by decide) (fun h => ?_) (fun h => ?_)
              · exact hK23 w16 h
              · refine g_aload_n X (j := 0) dX1_followPairs_73 rfl ?_
                refine g_get (q0 := 0) (k := 4) (ci := 1) X in_X1_followPairs_X1 fl_X1_followPairs_24 rfl rfl (Nat.le_of_ble_eq_true rfl) rfl dX1_followPairs_74 ?_
                refine g_iload_n X (j := 2) dX1_followPairs_77 rfl ?_
                refine g_dup2 X dX1_followPairs_78 rfl rfl ?_
                refine g_iald (q0 := 3) (t0 := 0) X h rfl rfl dX1_followPairs_79 (fun v31 h => ?_)
                refine g_aload_n X (j := 0) dX1_followPairs_80 rfl ?_
                refine g_get (q0 := 0) (k := 4) (ci := 1) X in_X1_followPairs_X1 fl_X1_followPairs_24 rfl rfl (Nat.le_of_ble_eq_true rfl) rfl dX1_followPairs_81 ?_
                refine g_iload_n X (j := 1) dX1_followPairs_84 rfl ?_
                refine g_iald (q0 := 3) (t0 := 0) X h rfl rfl dX1_followPairs_85 (fun v32 h => ?_)
                refine g_ior X dX1_followPairs_86 ?_
                refine g_iast (q0 := 3) (t0 := 0) (ws1 := fun g33 => [(a0, .inr (1, [.ref a1, .ref a2, .ref b0_2, .ref b0_3, .ref a3, .ref a4, .ref b0_6, .int x0_areOrdersCounted, .int x0_isAnyOrder, .int x0_size])), (a1, .inl (cI, 10, .inl f1)), (a2, .inl (cI, 10, .inl f2)), (a3, .inl (cI, 10, .inl g33)), (a4, .inl (cI, 10, .inl w17))]) X h rfl rfl dX1_followPairs_87 (fun _ => rfl) (fun g33 h => ?_)
                exact hK23 g33 h
  · rintro ⟨l1_1, w2, w3⟩ o h hI hE
    dsimp only [u3] at h ⊢
    refine g_iload_n X (j := 1) dX1_followPairs_2 rfl ?_
    refine g_aload_n X (j := 0) dX1_followPairs_3 rfl ?_
    refine g_get (q0 := 0) (k := 9) (ci := 1) X in_X1_followPairs_X1 fl_X1_followPairs_40 rfl rfl (Nat.le_of_ble_eq_true rfl) rfl dX1_followPairs_4 ?_
    refine g_icmp_ge (tgt := 40) X h dX1_followPairs_7 (by decide) (fun h => ?_) (fun h => ?_)
    · refine g_lv (lv' := [(0, .ref a0)]) [0] rfl ?_
      exact hE (w2, w3) (Option.some.inj h).symm
    · refine g_aload_n X (j := 0) dX1_followPairs_10 rfl ?_
      refine g_get (q0 := 0) (k := 4) (ci := 1) X in_X1_followPairs_X1 fl_X1_followPairs_24 rfl rfl (Nat.le_of_ble_eq_true rfl) rfl dX1_followPairs_11 ?_
      refine g_iload_n X (j := 1) dX1_followPairs_14 rfl ?_
      refine g_aload_n X (j := 0) dX1_followPairs_15 rfl ?_
      refine g_get (q0 := 0) (k := 0) (ci := 1) X in_X1_followPairs_X1 fl_X1_followPairs_9 rfl rfl (Nat.le_of_ble_eq_true rfl) rfl dX1_followPairs_16 ?_
      refine g_iload_n X (j := 1) dX1_followPairs_19 rfl ?_
      refine g_iald (q0 := 1) (t0 := 0) X h rfl rfl dX1_followPairs_20 (fun v6 h => ?_)
      refine g_iast (q0 := 3) (t0 := 0) (ws1 := fun g7 => [(a0, .inr (1, [.ref a1, .ref a2, .ref b0_2, .ref b0_3, .ref a3, .ref a4, .ref b0_6, .int x0_areOrdersCounted, .int x0_isAnyOrder, .int x0_size])), (a1, .inl (cI, 10, .inl f1)), (a2, .inl (cI, 10, .inl f2)), (a3, .inl (cI, 10, .inl g7)), (a4, .inl (cI, 10, .inl w3))]) X h rfl rfl dX1_followPairs_21 (fun _ => rfl) (fun g7 h => ?_)
      refine g_aload_n X (j := 0) dX1_followPairs_22 rfl ?_
      refine g_get (q0 := 0) (k := 5) (ci := 1) X in_X1_followPairs_X1 fl_X1_followPairs_27 rfl rfl (Nat.le_of_ble_eq_true rfl) rfl dX1_followPairs_23 ?_
      refine g_iload_n X (j := 1) dX1_followPairs_26 rfl ?_
      refine g_aload_n X (j := 0) dX1_followPairs_27 rfl ?_
      refine g_get (q0 := 0) (k := 1) (ci := 1) X in_X1_followPairs_X1 fl_X1_followPairs_15 rfl rfl (Nat.le_of_ble_eq_true rfl) rfl dX1_followPairs_28 ?_
      refine g_iload_n X (j := 1) dX1_followPairs_31 rfl ?_
      refine g_iald (q0 := 2) (t0 := 0) X h rfl rfl dX1_followPairs_32 (fun v8 h => ?_)
      refine g_iast (q0 := 4) (t0 := 0) (ws1 := fun g9 => [(a0, .inr (1, [.ref a1, .ref a2, .ref b0_2, .ref b0_3, .ref a3, .ref a4, .ref b0_6, .int x0_areOrdersCounted, .int x0_isAnyOrder, .int x0_size])), (a1, .inl (cI, 10, .inl f1)), (a2, .inl (cI, 10, .inl f2)), (a3, .inl (cI, 10, .inl g7)), (a4, .inl (cI, 10, .inl g9))]) X h rfl rfl dX1_followPairs_33 (fun _ => rfl) (fun g9 h => ?_)
      refine g_iinc (j := 1) (lv' := [(1, .int (l1_1 + 1)), (0, .ref a0)]) X (l1_1 + 1) dX1_followPairs_34 rfl rfl (by decide) rfl ?_
      refine g_goto (tgt := 2) X dX1_followPairs_37 (by decide) ?_
      refine g_lv (lv' := [(0, .ref a0), (1, .int (l1_1 + 1))]) [1, 0] rfl ?_
      exact hI ((l1_1 + 1), g7, g9) (Option.some.inj h).symm
