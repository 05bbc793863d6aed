set_option maxRecDepth 20000 in
theorem ggX1_read_X1_readPairs : GoodIn wsX1_read wsX1_readPairs := goodIn_r _ [8, 2, 9, 10, 11, 12, 13, 14, 15, 16, 17, 18, 19, 49, 50, 51, 52, 53, 54, 55, 56, 57, 58, 44, 45, 46, 47, 48] (by decide +kernel) (by decide +kernel)
set_option maxRecDepth 20000 in
theorem gX1_read_X1_readPairs : GoodIn wsX1_read (wsV RX1 47 RX1 yX1_readPairs wsX1_readPairs) := goodIn_app (goodIn_of _ (by decide +kernel)) ggX1_read_X1_readPairs
set_option maxRecDepth 20000 in
theorem ggX1_read_X1_followPairs : GoodIn wsX1_read wsX1_followPairs := goodIn_r _ [23, 2, 24, 9, 25, 10, 26, 27, 28, 7, 29, 49, 50, 51, 52, 53, 54, 55, 56, 57, 58] (by decide +kernel) (by decide +kernel)
set_option maxRecDepth 20000 in
theorem gX1_read_X1_followPairs : GoodIn wsX1_read (wsV RX1 51 RX1 yX1_followPairs wsX1_followPairs) := goodIn_app (goodIn_of _ (by decide +kernel)) ggX1_read_X1_followPairs
set_option maxRecDepth 20000 in
theorem ggX1_read_X1_readYears : GoodIn wsX1_read wsX1_readYears := goodIn_r _ [33, 2, 34, 24, 35, 36, 37, 38, 25, 39, 40, 41, 42, 43, 27, 28, 7, 29, 49, 50, 51, 52, 53, 54, 55, 56, 57, 58, 44, 45, 46, 47, 48] (by decide +kernel) (by decide +kernel)
set_option maxRecDepth 20000 in
theorem gX1_read_X1_readYears : GoodIn wsX1_read (wsV RX1 54 RX1 yX1_readYears wsX1_readYears) := goodIn_app (goodIn_of _ (by decide +kernel)) ggX1_read_X1_readYears
theorem dX1_read_0 : decode cX1_read 0 = .ok (.aload_n 0, 1) := by decide +kernel
theorem dX1_read_1 : decode cX1_read 1 = .ok (.aload_n 1, 1) := by decide +kernel
theorem dX1_read_2 : decode cX1_read 2 = .ok (.getfield 44, 3) := by decide +kernel
theorem dX1_read_5 : decode cX1_read 5 = .ok (.putfield 40, 3) := by decide +kernel
theorem dX1_read_8 : decode cX1_read 8 = .ok (.aload_n 0, 1) := by decide +kernel
theorem dX1_read_9 : decode cX1_read 9 = .ok (.iconst 0, 1) := by decide +kernel
theorem dX1_read_10 : decode cX1_read 10 = .ok (.putfield 33, 3) := by decide +kernel
theorem dX1_read_13 : decode cX1_read 13 = .ok (.aload_n 0, 1) := by decide +kernel
theorem dX1_read_14 : decode cX1_read 14 = .ok (.aload_n 1, 1) := by decide +kernel
theorem dX1_read_15 : decode cX1_read 15 = .ok (.invokevirtual 47, 3) := by decide +kernel
theorem dX1_read_18 : decode cX1_read 18 = .ok (.aload_n 0, 1) := by decide +kernel
theorem dX1_read_19 : decode cX1_read 19 = .ok (.invokevirtual 51, 3) := by decide +kernel
theorem dX1_read_22 : decode cX1_read 22 = .ok (.aload_n 0, 1) := by decide +kernel
theorem dX1_read_23 : decode cX1_read 23 = .ok (.aload_n 1, 1) := by decide +kernel
theorem dX1_read_24 : decode cX1_read 24 = .ok (.invokevirtual 54, 3) := by decide +kernel
theorem dX1_read_27 : decode cX1_read 27 = .ok (.return_, 1) := by decide +kernel
set_option maxRecDepth 20000 in
theorem ggX1_readYears_X1_has : GoodIn wsX1_readYears wsX1_has := goodIn_r _ [17] (by decide +kernel) (by decide +kernel)
set_option maxRecDepth 20000 in
theorem gX1_readYears_X1_has : GoodIn wsX1_readYears (va_wsS RX1 61 yX1_has wsX1_has) := goodIn_app (goodIn_of _ (by decide +kernel)) ggX1_readYears_X1_has
theorem dX1_readYears_0 : decode cX1_readYears 0 = .ok (.iconst 0, 1) := by decide +kernel
theorem dX1_readYears_1 : decode cX1_readYears 1 = .ok (.istore_n 2, 1) := by decide +kernel
theorem dX1_readYears_2 : decode cX1_readYears 2 = .ok (.iload_n 2, 1) := by decide +kernel
theorem dX1_readYears_3 : decode cX1_readYears 3 = .ok (.aload_n 0, 1) := by decide +kernel
theorem dX1_readYears_4 : decode cX1_readYears 4 = .ok (.getfield 40, 3) := by decide +kernel
theorem dX1_readYears_7 : decode cX1_readYears 7 = .ok (.if_icmp .ge 128, 3) := by decide +kernel
theorem dX1_readYears_10 : decode cX1_readYears 10 = .ok (.sipush 1450, 3) := by decide +kernel
theorem dX1_readYears_13 : decode cX1_readYears 13 = .ok (.istore_n 3, 1) := by decide +kernel
theorem dX1_readYears_14 : decode cX1_readYears 14 = .ok (.sipush 1999, 3) := by decide +kernel
theorem dX1_readYears_17 : decode cX1_readYears 17 = .ok (.istore 4, 2) := by decide +kernel
theorem dX1_readYears_19 : decode cX1_readYears 19 = .ok (.iconst 0, 1) := by decide +kernel
theorem dX1_readYears_20 : decode cX1_readYears 20 = .ok (.istore 5, 2) := by decide +kernel
theorem dX1_readYears_22 : decode cX1_readYears 22 = .ok (.iload 5, 2) := by decide +kernel
theorem dX1_readYears_24 : decode cX1_readYears 24 = .ok (.aload_n 0, 1) := by decide +kernel
theorem dX1_readYears_25 : decode cX1_readYears 25 = .ok (.getfield 40, 3) := by decide +kernel
theorem dX1_readYears_28 : decode cX1_readYears 28 = .ok (.if_icmp .ge 86, 3) := by decide +kernel
theorem dX1_readYears_31 : decode cX1_readYears 31 = .ok (.aload_n 1, 1) := by decide +kernel
theorem dX1_readYears_32 : decode cX1_readYears 32 = .ok (.getfield 65, 3) := by decide +kernel
theorem dX1_readYears_35 : decode cX1_readYears 35 = .ok (.iload 5, 2) := by decide +kernel
theorem dX1_readYears_37 : decode cX1_readYears 37 = .ok (.iaload, 1) := by decide +kernel
theorem dX1_readYears_38 : decode cX1_readYears 38 = .ok (.istore 6, 2) := by decide +kernel
theorem dX1_readYears_40 : decode cX1_readYears 40 = .ok (.iload 6, 2) := by decide +kernel
theorem dX1_readYears_42 : decode cX1_readYears 42 = .ok (.iconst (-1), 1) := by decide +kernel
theorem dX1_readYears_43 : decode cX1_readYears 43 = .ok (.if_icmp .eq 30, 3) := by decide +kernel
theorem dX1_readYears_46 : decode cX1_readYears 46 = .ok (.iload 5, 2) := by decide +kernel
theorem dX1_readYears_48 : decode cX1_readYears 48 = .ok (.iload_n 2, 1) := by decide +kernel
theorem dX1_readYears_49 : decode cX1_readYears 49 = .ok (.if_icmp .eq 17, 3) := by decide +kernel
theorem dX1_readYears_52 : decode cX1_readYears 52 = .ok (.aload_n 0, 1) := by decide +kernel
theorem dX1_readYears_53 : decode cX1_readYears 53 = .ok (.getfield 24, 3) := by decide +kernel
theorem dX1_readYears_56 : decode cX1_readYears 56 = .ok (.iload_n 2, 1) := by decide +kernel
theorem dX1_readYears_57 : decode cX1_readYears 57 = .ok (.iaload, 1) := by decide +kernel
theorem dX1_readYears_58 : decode cX1_readYears 58 = .ok (.iload 5, 2) := by decide +kernel
theorem dX1_readYears_60 : decode cX1_readYears 60 = .ok (.invokestatic 61, 3) := by decide +kernel
theorem dX1_readYears_63 : decode cX1_readYears 63 = .ok (.ifCond .eq 10, 3) := by decide +kernel
theorem dX1_readYears_66 : decode cX1_readYears 66 = .ok (.iload_n 3, 1) := by decide +kernel
theorem dX1_readYears_67 : decode cX1_readYears 67 = .ok (.iload 6, 2) := by decide +kernel
theorem dX1_readYears_69 : decode cX1_readYears 69 = .ok (.invokestatic 68, 3) := by decide +kernel
theorem dX1_readYears_72 : decode cX1_readYears 72 = .ok (.istore_n 3, 1) := by decide +kernel
theorem dX1_readYears_73 : decode cX1_readYears 73 = .ok (.iload 6, 2) := by decide +kernel
theorem dX1_readYears_75 : decode cX1_readYears 75 = .ok (.iconst (-1), 1) := by decide +kernel
theorem dX1_readYears_76 : decode cX1_readYears 76 = .ok (.if_icmp .eq 32, 3) := by decide +kernel
theorem dX1_readYears_79 : decode cX1_readYears 79 = .ok (.iload 5, 2) := by decide +kernel
theorem dX1_readYears_81 : decode cX1_readYears 81 = .ok (.iload_n 2, 1) := by decide +kernel
theorem dX1_readYears_82 : decode cX1_readYears 82 = .ok (.if_icmp .eq 17, 3) := by decide +kernel
theorem dX1_readYears_85 : decode cX1_readYears 85 = .ok (.aload_n 0, 1) := by decide +kernel
theorem dX1_readYears_86 : decode cX1_readYears 86 = .ok (.getfield 27, 3) := by decide +kernel
theorem dX1_readYears_89 : decode cX1_readYears 89 = .ok (.iload_n 2, 1) := by decide +kernel
theorem dX1_readYears_90 : decode cX1_readYears 90 = .ok (.iaload, 1) := by decide +kernel
theorem dX1_readYears_91 : decode cX1_readYears 91 = .ok (.iload 5, 2) := by decide +kernel
theorem dX1_readYears_93 : decode cX1_readYears 93 = .ok (.invokestatic 61, 3) := by decide +kernel
theorem dX1_readYears_96 : decode cX1_readYears 96 = .ok (.ifCond .eq 12, 3) := by decide +kernel
theorem dX1_readYears_99 : decode cX1_readYears 99 = .ok (.iload 4, 2) := by decide +kernel
theorem dX1_readYears_101 : decode cX1_readYears 101 = .ok (.iload 6, 2) := by decide +kernel
theorem dX1_readYears_103 : decode cX1_readYears 103 = .ok (.invokestatic 73, 3) := by decide +kernel
theorem dX1_readYears_106 : decode cX1_readYears 106 = .ok (.istore 4, 2) := by decide +kernel
theorem dX1_readYears_108 : decode cX1_readYears 108 = .ok (.iinc 5 1, 3) := by decide +kernel
theorem dX1_readYears_111 : decode cX1_readYears 111 = .ok (.goto (-89), 3) := by decide +kernel
theorem dX1_readYears_114 : decode cX1_readYears 114 = .ok (.aload_n 0, 1) := by decide +kernel
theorem dX1_readYears_115 : decode cX1_readYears 115 = .ok (.getfield 18, 3) := by decide +kernel
theorem dX1_readYears_118 : decode cX1_readYears 118 = .ok (.iload_n 2, 1) := by decide +kernel
theorem dX1_readYears_119 : decode cX1_readYears 119 = .ok (.iload_n 3, 1) := by decide +kernel
theorem dX1_readYears_120 : decode cX1_readYears 120 = .ok (.iastore, 1) := by decide +kernel
theorem dX1_readYears_121 : decode cX1_readYears 121 = .ok (.aload_n 0, 1) := by decide +kernel
theorem dX1_readYears_122 : decode cX1_readYears 122 = .ok (.getfield 21, 3) := by decide +kernel
theorem dX1_readYears_125 : decode cX1_readYears 125 = .ok (.iload_n 2, 1) := by decide +kernel
theorem dX1_readYears_126 : decode cX1_readYears 126 = .ok (.iload 4, 2) := by decide +kernel
theorem dX1_readYears_128 : decode cX1_readYears 128 = .ok (.iastore, 1) := by decide +kernel
theorem dX1_readYears_129 : decode cX1_readYears 129 = .ok (.iinc 2 1, 3) := by decide +kernel
theorem dX1_readYears_132 : decode cX1_readYears 132 = .ok (.goto (-130), 3) := by decide +kernel
theorem dX1_readYears_135 : decode cX1_readYears 135 = .ok (.return_, 1) := by decide +kernel
theorem dX1_allBooks_0 : decode cX1_allBooks 0 = .ok (.iconst 1, 1) := by decide +kernel
theorem dX1_allBooks_1 : decode cX1_allBooks 1 = .ok (.aload_n 0, 1) := by decide +kernel
theorem dX1_allBooks_2 : decode cX1_allBooks 2 = .ok (.getfield 40, 3) := by decide +kernel
theorem dX1_allBooks_5 : decode cX1_allBooks 5 = .ok (.ishl, 1) := by decide +kernel
theorem dX1_allBooks_6 : decode cX1_allBooks 6 = .ok (.iconst 1, 1) := by decide +kernel
theorem dX1_allBooks_7 : decode cX1_allBooks 7 = .ok (.isub, 1) := by decide +kernel
theorem dX1_allBooks_8 : decode cX1_allBooks 8 = .ok (.ireturn, 1) := by decide +kernel
theorem dX1_isDated_0 : decode cX1_isDated 0 = .ok (.aload_n 0, 1) := by decide +kernel
theorem dX1_isDated_1 : decode cX1_isDated 1 = .ok (.getfield 18, 3) := by decide +kernel
theorem dX1_isDated_4 : decode cX1_isDated 4 = .ok (.iload_n 1, 1) := by decide +kernel
theorem dX1_isDated_5 : decode cX1_isDated 5 = .ok (.iaload, 1) := by decide +kernel
theorem dX1_isDated_6 : decode cX1_isDated 6 = .ok (.aload_n 0, 1) := by decide +kernel
theorem dX1_isDated_7 : decode cX1_isDated 7 = .ok (.getfield 21, 3) := by decide +kernel
theorem dX1_isDated_10 : decode cX1_isDated 10 = .ok (.iload_n 1, 1) := by decide +kernel
theorem dX1_isDated_11 : decode cX1_isDated 11 = .ok (.iaload, 1) := by decide +kernel
theorem dX1_isDated_12 : decode cX1_isDated 12 = .ok (.if_icmp .ne 7, 3) := by decide +kernel
theorem dX1_isDated_15 : decode cX1_isDated 15 = .ok (.iconst 1, 1) := by decide +kernel
theorem dX1_isDated_16 : decode cX1_isDated 16 = .ok (.goto 4, 3) := by decide +kernel
theorem dX1_isDated_19 : decode cX1_isDated 19 = .ok (.iconst 0, 1) := by decide +kernel
theorem dX1_isDated_20 : decode cX1_isDated 20 = .ok (.ireturn, 1) := by decide +kernel
set_option maxRecDepth 20000 in
theorem ggX1_datedBooks_X1_isDated : GoodIn wsX1_datedBooks wsX1_isDated := goodIn_r _ [6, 7, 8, 9, 10, 11, 12, 13, 14, 15, 16, 17, 18] (by decide +kernel) (by decide +kernel)
set_option maxRecDepth 20000 in
theorem gX1_datedBooks_X1_isDated : GoodIn wsX1_datedBooks (wsV RX1 76 RX1 yX1_isDated wsX1_isDated) := goodIn_app (goodIn_of _ (by decide +kernel)) ggX1_datedBooks_X1_isDated
theorem dX1_datedBooks_0 : decode cX1_datedBooks 0 = .ok (.iconst 0, 1) := by decide +kernel
theorem dX1_datedBooks_1 : decode cX1_datedBooks 1 = .ok (.istore_n 1, 1) := by decide +kernel
theorem dX1_datedBooks_2 : decode cX1_datedBooks 2 = .ok (.iconst 0, 1) := by decide +kernel
theorem dX1_datedBooks_3 : decode cX1_datedBooks 3 = .ok (.istore_n 2, 1) := by decide +kernel
theorem dX1_datedBooks_4 : decode cX1_datedBooks 4 = .ok (.iload_n 2, 1) := by decide +kernel
theorem dX1_datedBooks_5 : decode cX1_datedBooks 5 = .ok (.aload_n 0, 1) := by decide +kernel
theorem dX1_datedBooks_6 : decode cX1_datedBooks 6 = .ok (.getfield 40, 3) := by decide +kernel
theorem dX1_datedBooks_9 : decode cX1_datedBooks 9 = .ok (.if_icmp .ge 20, 3) := by decide +kernel
theorem dX1_datedBooks_12 : decode cX1_datedBooks 12 = .ok (.aload_n 0, 1) := by decide +kernel
theorem dX1_datedBooks_13 : decode cX1_datedBooks 13 = .ok (.iload_n 2, 1) := by decide +kernel
theorem dX1_datedBooks_14 : decode cX1_datedBooks 14 = .ok (.invokevirtual 76, 3) := by decide +kernel
theorem dX1_datedBooks_17 : decode cX1_datedBooks 17 = .ok (.ifCond .eq 6, 3) := by decide +kernel
theorem dX1_datedBooks_20 : decode cX1_datedBooks 20 = .ok (.iinc 1 1, 3) := by decide +kernel
theorem dX1_datedBooks_23 : decode cX1_datedBooks 23 = .ok (.iinc 2 1, 3) := by decide +kernel
theorem dX1_datedBooks_26 : decode cX1_datedBooks 26 = .ok (.goto (-22), 3) := by decide +kernel
theorem dX1_datedBooks_29 : decode cX1_datedBooks 29 = .ok (.iload_n 1, 1) := by decide +kernel
theorem dX1_datedBooks_30 : decode cX1_datedBooks 30 = .ok (.ireturn, 1) := by decide +kernel
def f_X1_readYears (x0_size : Int32) (f1 : Nat → Int32) (f2 : Nat → Int32) (f3 : Nat → Int32) (f4 : Nat → Int32) (f6 : Nat → Int32) : Option ((Nat → Int32) × (Nat → Int32)) := (wl (u3 fun (l2_1 : Int32) (w2 : Nat → Int32) (w3 : Nat → Int32) => (if x0_size ≤ l2_1 then some (Sum.inr (w2, w3)) else (wl (u3 fun (l3_6 : Int32) (l4_7 : Int32) (l5_8 : Int32) => (if x0_size ≤ l5_8 then some (Sum.inr (l3_6, l4_7)) else (rdA f6 10 l5_8).bind (fun v11 => (jn (u1 fun (l3_12 : Int32) => (jn (u1 fun (l4_14 : Int32) => some (Sum.inl (l3_12, l4_14, (l5_8 + 1)))) (fun K15 => (if v11 = (-1) then K15 l4_7 else (jn (u0 (K15 (if v11 < l4_7 then v11 else l4_7))) (fun K16 => (if l5_8 = l2_1 then K16 () else (rdA f4 10 l2_1).bind (fun v17 => (f_X1_has v17 l5_8).bind (u1 fun (r18 : Int32) => (if r18 = 0 then K15 l4_7 else K16 ())))))))))) (fun K13 => (if v11 = (-1) then K13 l3_6 else (jn (u0 (K13 (if l3_6 < v11 then v11 else l3_6))) (fun K19 => (if l5_8 = l2_1 then K19 () else (rdA f3 10 l2_1).bind (fun v20 => (f_X1_has v20 l5_8).bind (u1 fun (r21 : Int32) => (if r21 = 0 then K13 l3_6 else K19 ())))))))))))) 9999 (1450, 1999, 0)).bind (u2 fun (l3_9 : Int32) (l4_10 : Int32) => (wrA w2 10 l2_1 l3_9).bind (fun g22 => (wrA w3 10 l2_1 l4_10).bind (fun g23 => some (Sum.inl ((l2_1 + 1), g22, g23))))))) 9999 (0, f1, f2)).bind (u2 fun (w4 : Nat → Int32) (w5 : Nat → Int32) => some (w4, w5))
theorem in_X1_readYears_X1 : ∀ w ∈ wsX10, w ∈ wsX1_readYears := by decide +kernel
theorem fl_X1_readYears_40 : Cond.fieldLink RX1 40 "ColophonHunt$Reading" "size" "I" ∈ wsX1_readYears := by decide +kernel
theorem in_X1_readYears_X2 : ∀ w ∈ wsX20, w ∈ wsX1_readYears := by decide +kernel
theorem fl_X1_readYears_65 : Cond.fieldLink RX1 65 "ColophonHunt$Shelf" "years" "[I" ∈ wsX1_readYears := by decide +kernel
theorem mm_X1_readYears_73a : Cond.methodLink RX1 73 Lib.Math.min.name ∈ wsX1_readYears := by decide +kernel
theorem mm_X1_readYears_73b : Cond.static Lib.Math.min.name ∈ wsX1_readYears := by decide +kernel
theorem mm_X1_readYears_73c : Cond.initialized "java/lang/Math" ∈ wsX1_readYears := by decide +kernel
theorem mm_X1_readYears_73d : Cond.code Lib.Math.min.name Lib.Math.min.code 2 (some .int) ∈ wsX1_readYears := by decide +kernel
theorem fl_X1_readYears_27 : Cond.fieldLink RX1 27 "ColophonHunt$Reading" "allBehind" "[I" ∈ wsX1_readYears := by decide +kernel
theorem mm_X1_readYears_68a : Cond.methodLink RX1 68 Lib.Math.max.name ∈ wsX1_readYears := by decide +kernel
theorem mm_X1_readYears_68b : Cond.static Lib.Math.max.name ∈ wsX1_readYears := by decide +kernel
theorem mm_X1_readYears_68c : Cond.initialized "java/lang/Math" ∈ wsX1_readYears := by decide +kernel
theorem mm_X1_readYears_68d : Cond.code Lib.Math.max.name Lib.Math.max.code 2 (some .int) ∈ wsX1_readYears := by decide +kernel
theorem fl_X1_readYears_24 : Cond.fieldLink RX1 24 "ColophonHunt$Reading" "allBefore" "[I" ∈ wsX1_readYears := by decide +kernel
theorem fl_X1_readYears_18 : Cond.fieldLink RX1 18 "ColophonHunt$Reading" "firstYears" "[I" ∈ wsX1_readYears := by decide +kernel
theorem fl_X1_readYears_21 : Cond.fieldLink RX1 21 "ColophonHunt$Reading" "lastYears" "[I" ∈ wsX1_readYears := by decide +kernel
theorem hd_X1_readYears : yX1_readYears.cls = RX1 ∧ yX1_readYears.cls ≠ "java/lang/invoke/MethodHandle" ∧ yX1_readYears.cls ≠ "java/lang/invoke/VarHandle" ∧ (parseMethodDescriptor yX1_readYears.desc).map (fun d => d.parameters.length) = some 1 := by decide +kernel
set_option maxRecDepth 100000 in
set_option maxHeartbeats 4000000 in
theorem c_X1_readYears (l : Launch) (D : va_G) (cI cS cL : ClassId) (a0 : Nat) (a1 : Nat) (a2 : Nat) (a3 : Nat) (a4 : Nat) (a5 : Nat) (a6 : Nat) (b0_0 : Nat) (b0_1 : Nat) (b0_6 : Nat) (b5_0 : Nat) (b5_1 : Nat) (b5_2 : Nat) (x0_areOrdersCounted : Int32) (x0_isAnyOrder : Int32) (x0_size : Int32) (f1 : Nat → Int32) (f2 : Nat → Int32) (f3 : Nat → Int32) (f4 : Nat → Int32) (x5_size : Int32) (f6 : Nat → Int32) (y0 : Nat → Int32) (y1 : Nat → Int32) (hc : f_X1_readYears x0_size f1 f2 f3 f4 f6 = some (y0, y1)) : KM l yX1_readYears wsX1_readYears { frames := 1, cells := 0, slots := 0, locals := 21 } D (tyS cI cS cL) [.ref a0, .ref a5] [(a0, .inr (1, [.ref b0_0, .ref b0_1, .ref a1, .ref a2, .ref a3, .ref a4, .ref b0_6, .int x0_areOrdersCounted, .int x0_isAnyOrder, .int x0_size])), (a1, .inl (cI, 10, .inl f1)), (a2, .inl (cI, 10, .inl f2)), (a3, .inl (cI, 10, .inl f3)), (a4, .inl (cI, 10, .inl f4)), (a5, .inr (2, [.ref b5_0, .ref b5_1, .ref b5_2, .ref a6, .int x5_size])), (a6, .inl (cI, 10, .inl f6))] none (fun w => w = [(a0, .inr (1, [.ref b0_0, .ref b0_1, .ref a1, .ref a2, .ref a3, .ref a4, .ref b0_6, .int x0_areOrdersCounted, .int x0_isAnyOrder, .int x0_size])), (a1, .inl (cI, 10, .inl y0)), (a2, .inl (cI, 10, .inl y1)), (a3, .inl (cI, 10, .inl f3)), (a4, .inl (cI, 10, .inl f4)), (a5, .inr (2, [.ref b5_0, .ref b5_1, .ref b5_2, .ref a6, .int x5_size])), (a6, .inl (cI, 10, .inl f6))]) 0 0 := by
  refine g_entry (cc := cX1_readYears) (nL := 7) (rt := none) (by decide) rfl (Nat.le_of_ble_eq_true rfl) ?_
  intro p e s m args below meth c A (X : GC p s m args c cX1_readYears 7 RX1 wsX1_readYears D (tyS cI cS cL) A) hr hlk _ _
  have h := hc
  unfold f_X1_readYears at h
  refine g_lv (lv' := [(0, .ref a0), (1, .ref a5)]) [0, 1] rfl ?_
  refine g_iconst (v := 0) X dX1_readYears_0 (by decide) ?_
  refine g_istore_n (lv' := [(2, .int 0), (0, .ref a0), (1, .ref a5)]) X dX1_readYears_1 rfl (by decide) rfl ?_
  refine g_lv (lv' := [(0, .ref a0), (1, .ref a5), (2, .int 0)]) [1, 2, 0] rfl ?_
  refine wl_g1 h (u3 fun l2_1 w2 w3 => [(a0, .inr (1, [.ref b0_0, .ref b0_1, .ref a1, .ref a2, .ref a3, .ref a4, .ref b0_6, .int x0_areOrdersCounted, .int x0_isAnyOrder, .int x0_size])), (a1, .inl (cI, 10, .inl w2)), (a2, .inl (cI, 10, .inl w3)), (a3, .inl (cI, 10, .inl f3)), (a4, .inl (cI, 10, .inl f4)), (a5, .inr (2, [.ref b5_0, .ref b5_1, .ref b5_2, .ref a6, .int x5_size])), (a6, .inl (cI, 10, .inl f6))]) (u3 fun l2_1 w2 w3 => [(0, .ref a0), (1, .ref a5), (2, .int l2_1)]) rfl rfl (u2 fun w4 w5 => [(a0, .inr (1, [.ref b0_0, .ref b0_1, .ref a1, .ref a2, .ref a3, .ref a4, .ref b0_6, .int x0_areOrdersCounted, .int x0_isAnyOrder, .int x0_size])), (a1, .inl (cI, 10, .inl w4)), (a2, .inl (cI, 10, .inl w5)), (a3, .inl (cI, 10, .inl f3)), (a4, .inl (cI, 10, .inl f4)), (a5, .inr (2, [.ref b5_0, .ref b5_1, .ref b5_2, .ref a6, .int x5_size])), (a6, .inl (cI, 10, .inl f6))]) (u2 fun w4 w5 => []) 135 ?_ ?_
  · rintro ⟨w4, w5⟩ h
    dsimp only [u2] at h ⊢
    have h := Option.some.inj h
    simp only [Prod.mk.injEq] at h
    obtain ⟨rfl, rfl⟩ := h
    exact g_vret X hr hlk dX1_readYears_135 rfl
  · rintro ⟨l2_1, w2, w3⟩ o h hI hE
    dsimp only [u3] at h ⊢
    refine g_iload_n X (j := 2) dX1_readYears_2 rfl ?_
    refine g_aload_n X (j := 0) dX1_readYears_3 rfl ?_
    refine g_get (q0 := 0) (k := 9) (ci := 1) X in_X1_readYears_X1 fl_X1_readYears_40 rfl rfl (Nat.le_of_ble_eq_true rfl) rfl dX1_readYears_4 ?_
    refine g_icmp_ge (tgt := 135) X h dX1_readYears_7 (by decide) (fun h => ?_) (fun h => ?_)
    · refine g_lv (lv' := []) [] rfl ?_
      exact hE (w2, w3) (Option.some.inj h).symm
    · refine g_sipush (v := 1450) X dX1_readYears_10 (by decide) ?_
      refine g_istore_n (lv' := [(3, .int 1450), (0, .ref a0), (1, .ref a5), (2, .int l2_1)]) X dX1_readYears_13 rfl (by decide) rfl ?_
      refine g_sipush (v := 1999) X dX1_readYears_14 (by decide) ?_
      refine g_istore (lv' := [(4, .int 1999), (3, .int 1450), (0, .ref a0), (1, .ref a5), (2, .int l2_1)]) X dX1_readYears_17 (by decide) rfl ?_
      refine g_iconst (v := 0) X dX1_readYears_19 (by decide) ?_
      refine g_istore (lv' := [(5, .int 0), (4, .int 1999), (3, .int 1450), (0, .ref a0), (1, .ref a5), (2, .int l2_1)]) X dX1_readYears_20 (by decide) rfl ?_
      refine g_lv (lv' := [(0, .ref a0), (1, .ref a5), (2, .int l2_1), (3, .int 1450), (4, .int 1999), (5, .int 0)]) [3, 4, 5, 2, 1, 0] rfl ?_
      refine wl_g1 h (u3 fun l3_6 l4_7 l5_8 => [(a0, .inr (1, [.ref b0_0, .ref b0_1, .ref a1, .ref a2, .ref a3, .ref a4, .ref b0_6, .int x0_areOrdersCounted, .int x0_isAnyOrder, .int x0_size])), (a1, .inl (cI, 10, .inl w2)), (a2, .inl (cI, 10, .inl w3)), (a3, .inl (cI, 10, .inl f3)), (a4, .inl (cI, 10, .inl f4)), (a5, .inr (2, [.ref b5_0, .ref b5_1, .ref b5_2, .ref a6, .int x5_size])), (a6, .inl (cI, 10, .inl f6))]) (u3 fun l3_6 l4_7 l5_8 => [(0, .ref a0), (1, .ref a5), (2, .int l2_1), (3, .int l3_6), (4, .int l4_7), (5, .int l5_8)]) rfl rfl (u2 fun l3_9 l4_10 => [(a0, .inr (1, [.ref b0_0, .ref b0_1, .ref a1, .ref a2, .ref a3, .ref a4, .ref b0_6, .int x0_areOrdersCounted, .int x0_isAnyOrder, .int x0_size])), (a1, .inl (cI, 10, .inl w2)), (a2, .inl (cI, 10, .inl w3)), (a3, .inl (cI, 10, .inl f3)), (a4, .inl (cI, 10, .inl f4)), (a5, .inr (2, [.ref b5_0, .ref b5_1, .ref b5_2, .ref a6, .int x5_size])), (a6, .inl (cI, 10, .inl f6))]) (u2 fun l3_9 l4_10 => [(0, .ref a0), (1, .ref a5), (2, .int l2_1), (3, .int l3_9), (4, .int l4_10)]) 114 ?_ ?_
      · rintro ⟨l3_9, l4_10⟩ h
        dsimp only [u2] at h ⊢
        refine g_aload_n X (j := 0) dX1_readYears_114 rfl ?_
        refine g_get (q0 := 0) (k := 2) (ci := 1) X in_X1_readYears_X1 fl_X1_readYears_18 rfl rfl (Nat.le_of_ble_eq_true rfl) rfl dX1_readYears_115 ?_
        refine g_iload_n X (j := 2) dX1_readYears_118 rfl ?_
        refine g_iload_n X (j := 3) dX1_readYears_119 rfl ?_
        refine g_iast (q0 := 1) (t0 := 0) (ws1 := fun g22 => [(a0, .inr (1, [.ref b0_0, .ref b0_1, .ref a1, .ref a2, .ref a3, .ref a4, .ref b0_6, .int x0_areOrdersCounted, .int x0_isAnyOrder, .int x0_size])), (a1, .inl (cI, 10, .inl g22)), (a2, .inl (cI, 10, .inl w3)), (a3, .inl (cI, 10, .inl f3)), (a4, .inl (cI, 10, .inl f4)), (a5, .inr (2, [.ref b5_0, .ref b5_1, .ref b5_2, .ref a6, .int x5_size])), (a6, .inl (cI, 10, .inl f6))]) X h rfl rfl dX1_readYears_120 (fun _ => rfl) (fun g22 h => ?_)
        refine g_aload_n X (j := 0) dX1_readYears_121 rfl ?_
        refine g_get (q0 := 0) (k := 3) (ci := 1) X in_X1_readYears_X1 fl_X1_readYears_21 rfl rfl (Nat.le_of_ble_eq_true rfl) rfl dX1_readYears_122 ?_
        refine g_iload_n X (j := 2) dX1_readYears_125 rfl ?_
        refine g_iload X (j := 4) dX1_readYears_126 rfl ?_
        refine g_iast (q0 := 2) (t0 := 0) (ws1 := fun g23 => [(a0, .inr (1, [.ref b0_0, .ref b0_1, .ref a1, .ref a2, .ref a3, .ref a4, .ref b0_6, .int x0_areOrdersCounted, .int x0_isAnyOrder, .int x0_size])), (a1, .inl (cI, 10, .inl g22)), (a2, .inl (cI, 10, .inl g23)), (a3, .inl (cI, 10, .inl f3)), (a4, .inl (cI, 10, .inl f4)), (a5, .inr (2, [.ref b5_0, .ref b5_1, .ref b5_2, .ref a6, .int x5_size])), (a6, .inl (cI, 10, .inl f6))]) X h rfl rfl dX1_readYears_128 (fun _ => rfl) (fun g23 h => ?_)
        refine g_iinc (j := 2) (lv' := [(2, .int (l2_1 + 1)), (0, .ref a0), (1, .ref a5), (3, .int l3_9), (4, .int l4_10)]) X (l2_1 + 1) dX1_readYears_129 rfl rfl (by decide) rfl ?_
        refine g_goto (tgt := 2) X dX1_readYears_132 (by decide) ?_
        refine g_lv (lv' := [(0, .ref a0), (1, .ref a5), (2, .int (l2_1 + 1))]) [1, 2, 0] rfl ?_
        exact hI ((l2_1 + 1), g22, g23) (Option.some.inj h).symm
      · rintro ⟨l3_6, l4_7, l5_8⟩ o h hI hE
        dsimp only [u3] at h ⊢
        refine g_iload X (j := 5) dX1_readYears_22 rfl ?_
        refine g_aload_n X (j := 0) dX1_readYears_24 rfl ?_
        refine g_get (q0 := 0) (k := 9) (ci := 1) X in_X1_readYears_X1 fl_X1_readYears_40 rfl rfl (Nat.le_of_ble_eq_true rfl) rfl dX1_readYears_25 ?_
        refine g_icmp_ge (tgt := 114) X h dX1_readYears_28 (by decide) (fun h => ?_) (fun h => ?_)
        · refine g_lv (lv' := [(0, .ref a0), (1, .ref a5), (2, .int l2_1), (3, .int l3_6), (4, .int l4_7)]) [0, 1, 2, 3, 4] rfl ?_
          exact hE (l3_6, l4_7) (Option.some.inj h).symm
        · refine g_aload_n X (j := 1) dX1_readYears_31 rfl ?_
          refine g_get (q0 := 5) (k := 3) (ci := 2) X in_X1_readYears_X2 fl_X1_readYears_65 rfl rfl (Nat.le_of_ble_eq_true rfl) rfl dX1_readYears_32 ?_
          refine g_iload X (j := 5) dX1_readYears_35 rfl ?_
          refine g_iald (q0 := 6) (t0 := 0) X h rfl rfl dX1_readYears_37 (fun v11 h => ?_)
          refine g_istore (lv' := [(6, .int v11), (0, .ref a0), (1, .ref a5), (2, .int l2_1), (3, .int l3_6), (4, .int l4_7), (5, .int l5_8)]) X dX1_readYears_38 (by decide) rfl ?_
          refine g_iload X (j := 0) dX1_readYears_40 rfl ?_
          refine g_iconst (v := (-1)) X dX1_readYears_42 (by decide) ?_
          refine jn_g h (u1 fun l3_12 => [(a0, .inr (1, [.ref b0_0, .ref b0_1, .ref a1, .ref a2, .ref a3, .ref a4, .ref b0_6, .int x0_areOrdersCounted, .int x0_isAnyOrder, .int x0_size])), (a1, .inl (cI, 10, .inl w2)), (a2, .inl (cI, 10, .inl w3)), (a3, .inl (cI, 10, .inl f3)), (a4, .inl (cI, 10, .inl f4)), (a5, .inr (2, [.ref b5_0, .ref b5_1, .ref b5_2, .ref a6, .int x5_size])), (a6, .inl (cI, 10, .inl f6))]) (u1 fun l3_12 => [(0, .ref a0), (1, .ref a5), (2, .int l2_1), (3, .int l3_12), (4, .int l4_7), (5, .int l5_8), (6, .int v11)]) (u1 fun l3_12 => []) 73 ?_ ?_
          · rintro l3_12 h
            dsimp only [u1] at h ⊢
            refine g_iload X (j := 6) dX1_readYears_73 rfl ?_
            refine g_iconst (v := (-1)) X dX1_readYears_75 (by decide) ?_
            refine jn_g h (u1 fun l4_14 => [(a0, .inr (1, [.ref b0_0, .ref b0_1, .ref a1, .ref a2, .ref a3, .ref a4, .ref b0_6, .int x0_areOrdersCounted, .int x0_isAnyOrder, .int x0_size])), (a1, .inl (cI, 10, .inl w2)), (a2, .inl (cI, 10, .inl w3)), (a3, .inl (cI, 10, .inl f3)), (a4, .inl (cI, 10, .inl f4)), (a5, .inr (2, [.ref b5_0, .ref b5_1, .ref b5_2, .ref a6, .int x5_size])), (a6, .inl (cI, 10, .inl f6))]) (u1 fun l4_14 => [(0, .ref a0), (1, .ref a5), (2, .int l2_1), (3, .int l3_12), (4, .int l4_14), (5, .int l5_8)]) (u1 fun l4_14 => []) 108 ?_ ?_
            · rintro l4_14 h
              dsimp only [u1] at h ⊢
              refine g_iinc (j := 5) (lv' := [(5, .int (l5_8 + 1)), (0, .ref a0), (1, .ref a5), (2, .int l2_1), (3, .int l3_12), (4, .int l4_14)]) X (l5_8 + 1) dX1_readYears_108 rfl rfl (by decide) rfl ?_
              refine g_goto (tgt := 22) X dX1_readYears_111 (by decide) ?_
              refine g_lv (lv' := [(0, .ref a0), (1, .ref a5), (2, .int l2_1), (3, .int l3_12), (4, .int l4_14), (5, .int (l5_8 + 1))]) [1, 2, 3, 4, 5, 0] rfl ?_
              exact hI (l3_12, l4_14, (l5_8 + 1)) (Option.some.inj h).symm
            · intro K15 hK15 h
              refine g_icmp_eq (tgt := 108) X h dX1_readYears_76 (by decide) (fun h => ?_) (fun h => ?_)
              · refine g_lv (lv' := [(0, .ref a0), (1, .ref a5), (2, .int l2_1), (3, .int l3_12), (4, .int l4_7), (5, .int l5_8)]) [0, 1, 2, 3, 4, 5] rfl ?_
                exact hK15 l4_7 h
              · refine g_iload X (j := 5) dX1_readYears_79 rfl ?_
                refine g_iload_n X (j := 2) dX1_readYears_81 rfl ?_
                refine jn_g h (u0 ([(a0, .inr (1, [.ref b0_0, .ref b0_1, .ref a1, .ref a2, .ref a3, .ref a4, .ref b0_6, .int x0_areOrdersCounted, .int x0_isAnyOrder, .int x0_size])), (a1, .inl (cI, 10, .inl w2)), (a2, .inl (cI, 10, .inl w3)), (a3, .inl (cI, 10, .inl f3)), (a4, .inl (cI, 10, .inl f4)), (a5, .inr (2, [.ref b5_0, .ref b5_1, .ref b5_2, .ref a6, .int x5_size])), (a6, .inl (cI, 10, .inl f6))])) (u0 ([(0, .ref a0), (1, .ref a5), (2, .int l2_1), (3, .int l3_12), (4, .int l4_7), (5, .int l5_8), (6, .int v11)])) (u0 ([])) 99 ?_ ?_
                · rintro ⟨⟩ h
                  dsimp only [u0] at h ⊢
                  refine g_iload X (j := 4) dX1_readYears_99 rfl ?_
                  refine g_iload X (j := 6) dX1_readYears_101 rfl ?_
                  refine g_mmin X mm_X1_readYears_73a mm_X1_readYears_73b mm_X1_readYears_73c mm_X1_readYears_73d (Nat.le_of_ble_eq_true rfl) (Nat.le_of_ble_eq_true rfl) (Nat.zero_le _) (Nat.zero_le _) dX1_readYears_103 ?_
                  refine g_istore (lv' := [(4, .int (if v11 < l4_7 then v11 else l4_7)), (0, .ref a0), (1, .ref a5), (2, .int l2_1), (3, .int l3_12), (5, .int l5_8), (6, .int v11)]) X dX1_readYears_106 (by decide) rfl ?_
                  refine g_lv (lv' := [(0, .ref a0), (1, .ref a5), (2, .int l2_1), (3, .int l3_12), (4, .int (if v11 < l4_7 then v11 else l4_7)), (5, .int l5_8)]) [1, 2, 3, 4, 0, 5] rfl ?_
                  exact hK15 (if v11 < l4_7 then v11 else l4_7) h
                · intro K16 hK16 h
                  refine g_icmp_eq (tgt := 99) X h dX1_readYears_82 (by decide) (fun h => ?_) (fun h => ?_)
                  · exact hK16 () h
                  · refine g_aload_n X (j := 0) dX1_readYears_85 rfl ?_
                    refine g_get (q0 := 0) (k := 5) (ci := 1) X in_X1_readYears_X1 fl_X1_readYears_27 rfl rfl (Nat.le_of_ble_eq_true rfl) rfl dX1_readYears_86 ?_
                    refine g_iload_n X (j := 2) dX1_readYears_89 rfl ?_
                    refine g_iald (q0 := 4) (t0 := 0) X h rfl rfl dX1_readYears_90 (fun v17 h => ?_)
                    refine g_iload X (j := 5) dX1_readYears_91 rfl ?_
                    obtain ⟨r18, hc, h⟩ := bd1 h
                    refine g_callS0 (As := [.int v17, .int l5_8]) (st := []) X (c_X1_has l D cI cS cL v17 l5_8 r18 hc) gX1_readYears_X1_has rfl ⟨rfl, rfl⟩ hd_X1_has.2 ⟨Nat.le_of_ble_eq_true rfl, Nat.le_of_ble_eq_true rfl⟩ ⟨Nat.zero_le _, Nat.zero_le _⟩ rfl (Nat.le_of_ble_eq_true rfl) rfl dX1_readYears_93 ?_
                    refine g_if_eq (tgt := 108) X h dX1_readYears_96 (by decide) (fun h => ?_) (fun h => ?_)
                    · refine g_lv (lv' := [(0, .ref a0), (1, .ref a5), (2, .int l2_1), (3, .int l3_12), (4, .int l4_7), (5, .int l5_8)]) [0, 1, 2, 3, 4, 5] rfl ?_
                      exact hK15 l4_7 h
                    · exact hK16 () h
          · intro K13 hK13 h
            refine g_icmp_eq (tgt := 73) X h dX1_readYears_43 (by decide) (fun h => ?_) (fun h => ?_)
            · refine g_lv (lv' := [(0, .ref a0), (1, .ref a5), (2, .int l2_1), (3, .int l3_6), (4, .int l4_7), (5, .int l5_8), (6, .int v11)]) [1, 2, 3, 4, 5, 6, 0] rfl ?_
              exact hK13 l3_6 h
            · refine g_iload X (j := 6) dX1_readYears_46 rfl ?_
              refine g_iload_n X (j := 3) dX1_readYears_48 rfl ?_
              refine jn_g h (u0 ([(a0, .inr (1, [.ref b0_0, .ref b0_1, .ref a1, .ref a2, .ref a3, .ref a4, .ref b0_6, .int x0_areOrdersCounted, .int x0_isAnyOrder, .int x0_size])), (a1, .inl (cI, 10, .inl w2)), (a2, .inl (cI, 10, .inl w3)), (a3, .inl (cI, 10, .inl f3)), (a4, .inl (cI, 10, .inl f4)), (a5, .inr (2, [.ref b5_0, .ref b5_1, .ref b5_2, .ref a6, .int x5_size])), (a6, .inl (cI, 10, .inl f6))])) (u0 ([(0, .ref a0), (1, .ref a5), (2, .int l2_1), (3, .int l3_6), (4, .int l4_7), (5, .int l5_8), (6, .int v11)])) (u0 ([])) 66 ?_ ?_
              · rintro ⟨⟩ h
                dsimp only [u0] at h ⊢
                refine g_iload_n X (j := 3) dX1_readYears_66 rfl ?_
                refine g_iload X (j := 6) dX1_readYears_67 rfl ?_
                refine g_mmax X mm_X1_readYears_68a mm_X1_readYears_68b mm_X1_readYears_68c mm_X1_readYears_68d (Nat.le_of_ble_eq_true rfl) (Nat.le_of_ble_eq_true rfl) (Nat.zero_le _) (Nat.zero_le _) dX1_readYears_69 ?_
                refine g_istore_n (lv' := [(3, .int (if l3_6 < v11 then v11 else l3_6)), (0, .ref a0), (1, .ref a5), (2, .int l2_1), (4, .int l4_7), (5, .int l5_8), (6, .int v11)]) X dX1_readYears_72 rfl (by decide) rfl ?_
                refine g_lv (lv' := [(0, .ref a0), (1, .ref a5), (2, .int l2_1), (3, .int (if l3_6 < v11 then v11 else l3_6)), (4, .int l4_7), (5, .int l5_8), (6, .int v11)]) [1, 2, 3, 0, 4, 5, 6] rfl ?_
                exact hK13 (if l3_6 < v11 then v11 else l3_6) h
              · intro K19 hK19 h
                refine g_icmp_eq (tgt := 66) X h dX1_readYears_49 (by decide) (fun h => ?_) (fun h => ?_)
                · refine g_lv (lv' := [(0, .ref a0), (1, .ref a5), (2, .int l2_1), (3, .int l3_6), (4, .int l4_7), (5, .int l5_8), (6, .int v11)]) [1, 2, 3, 4, 5, 6, 0] rfl ?_
                  exact hK19 () h
                · refine g_aload_n X (j := 1) dX1_readYears_52 rfl ?_
                  refine g_get (q0 := 0) (k := 4) (ci := 1) X in_X1_readYears_X1 fl_X1_readYears_24 rfl rfl (Nat.le_of_ble_eq_true rfl) rfl dX1_readYears_53 ?_
                  refine g_iload_n X (j := 3) dX1_readYears_56 rfl ?_
                  refine g_iald (q0 := 3) (t0 := 0) X h rfl rfl dX1_readYears_57 (fun v20 h => ?_)
                  refine g_iload X (j := 6) dX1_readYears_58 rfl ?_
                  obtain ⟨r21, hc, h⟩ := bd1 h
                  refine g_callS0 (As := [.int v20, .int l5_8]) (st := []) X (c_X1_has l D cI cS cL v20 l5_8 r21 hc) gX1_readYears_X1_has rfl ⟨rfl, rfl⟩ hd_X1_has.2 ⟨Nat.le_of_ble_eq_true rfl, Nat.le_of_ble_eq_true rfl⟩ ⟨Nat.zero_le _, Nat.zero_le _⟩ rfl (Nat.le_of_ble_eq_true rfl) rfl dX1_readYears_60 ?_
                  refine g_if_eq (tgt := 73) X h dX1_readYears_63 (by decide) (fun h => ?_) (fun h => ?_)
                  · refine g_lv (lv' := [(0, .ref a0), (1, .ref a5), (2, .int l2_1), (3, .int l3_6), (4, .int l4_7), (5, .int l5_8), (6, .int v11)]) [1, 2, 3, 4, 5, 6, 0] rfl ?_
                    exact hK13 l3_6 h
                  · refine g_lv (lv' := [(0, .ref a0), (1, .ref a5), (2, .int l2_1), (3, .int l3_6), (4, .int l4_7), (5, .int l5_8), (6, .int v11)]) [1, 2, 3, 4, 5, 6, 0] rfl ?_
                    exact hK19 () h
def f_X1_read (x0_areOrdersCounted : Int32) (x0_isAnyOrder : Int32) (x0_size : Int32) (f1 : Nat → Int32) (f2 : Nat → Int32) (f3 : Nat → Int32) (f4 : Nat → Int32) (f5 : Nat → Int32) (f6 : Nat → Int32) (x7_size : Int32) (f8 : Nat → Int32) (f9 : Nat → Int32) (f10 : Nat → Int32) (f11 : Nat → Int32) : Option (Int32 × Int32 × Int32 × (Nat → Int32) × (Nat → Int32) × (Nat → Int32) × (Nat → Int32) × (Nat → Int32) × (Nat → Int32)) := (f_X1_readPairs x7_size f1 f2 f8 f9 f10 f11).bind (u2 fun (o2 : Nat → Int32) (o3 : Nat → Int32) => (f_X1_followPairs x0_isAnyOrder x7_size o2 o3 f5 f6).bind (u3 fun (o5 : Int32) (o6 : Nat → Int32) (o7 : Nat → Int32) => (f_X1_readYears x7_size f3 f4 o6 o7 f11).bind (u2 fun (o9 : Nat → Int32) (o10 : Nat → Int32) => some (0, o5, x7_size, o2, o3, o9, o10, o6, o7))))
theorem in_X1_read_X2 : ∀ w ∈ wsX20, w ∈ wsX1_read := by decide +kernel
theorem fl_X1_read_44 : Cond.fieldLink RX1 44 "ColophonHunt$Shelf" "size" "I" ∈ wsX1_read := by decide +kernel
theorem in_X1_read_X1 : ∀ w ∈ wsX10, w ∈ wsX1_read := by decide +kernel
theorem fl_X1_read_40 : Cond.fieldLink RX1 40 "ColophonHunt$Reading" "size" "I" ∈ wsX1_read := by decide +kernel
theorem fl_X1_read_33 : Cond.fieldLink RX1 33 "ColophonHunt$Reading" "areOrdersCounted" "Z" ∈ wsX1_read := by decide +kernel
theorem hd_X1_read : yX1_read.cls = RX1 ∧ yX1_read.cls ≠ "java/lang/invoke/MethodHandle" ∧ yX1_read.cls ≠ "java/lang/invoke/VarHandle" ∧ (parseMethodDescriptor yX1_read.desc).map (fun d => d.parameters.length) = some 1 := by decide +kernel
set_option maxRecDepth 100000 in
set_option maxHeartbeats 4000000 in
theorem c_X1_read (l : Launch) (D : va_G) (cI cS cL : ClassId) (a0 : Nat) (a1 : Nat) (a2 : Nat) (a3 : Nat) (a4 : Nat) (a5 : Nat) (a6 : Nat) (a7 : Nat) (a8 : Nat) (a9 : Nat) (a10 : Nat) (a11 : Nat) (b0_6 : Nat) (x0_areOrdersCounted : Int32) (x0_isAnyOrder : Int32) (x0_size : Int32) (f1 : Nat → Int32) (f2 : Nat → Int32) (f3 : Nat → Int32) (f4 : Nat → Int32) (f5 : Nat → Int32) (f6 : Nat → Int32) (x7_size : Int32) (f8 : Nat → Int32) (f9 : Nat → Int32) (f10 : Nat → Int32) (f11 : Nat → Int32) (y0 : Int32) (y1 : Int32) (y2 : Int32) (y3 : Nat → Int32) (y4 : Nat → Int32) (y5 : Nat → Int32) (y6 : Nat → Int32) (y7 : Nat → Int32) (y8 : Nat → Int32) (hc : f_X1_read x0_areOrdersCounted x0_isAnyOrder x0_size f1 f2 f3 f4 f5 f6 x7_size f8 f9 f10 f11 = some (y0, y1, y2, y3, y4, y5, y6, y7, y8)) : KM l yX1_read wsX1_read { frames := 2, cells := 0, slots := 0, locals := 47 } D (tyS cI cS cL) [.ref a0, .ref a7] [(a0, .inr (1, [.ref a1, .ref a2, .ref a3, .ref a4, .ref a5, .ref a6, .ref b0_6, .int x0_areOrdersCounted, .int x0_isAnyOrder, .int x0_size])), (a1, .inl (cI, 10, .inl f1)), (a2, .inl (cI, 10, .inl f2)), (a3, .inl (cI, 10, .inl f3)), (a4, .inl (cI, 10, .inl f4)), (a5, .inl (cI, 10, .inl f5)), (a6, .inl (cI, 10, .inl f6)), (a7, .inr (2, [.ref a8, .ref a9, .ref a10, .ref a11, .int x7_size])), (a8, .inl (cI, 10, .inl f8)), (a9, .inl (cI, 10, .inl f9)), (a10, .inl (cI, 10, .inl f10)), (a11, .inl (cI, 10, .inl f11))] none (fun w => w = [(a0, .inr (1, [.ref a1, .ref a2, .ref a3, .ref a4, .ref a5, .ref a6, .ref b0_6, .int y0, .int y1, .int y2])), (a1, .inl (cI, 10, .inl y3)), (a2, .inl (cI, 10, .inl y4)), (a3, .inl (cI, 10, .inl y5)), (a4, .inl (cI, 10, .inl y6)), (a5, .inl (cI, 10, .inl y7)), (a6, .inl (cI, 10, .inl y8)), (a7, .inr (2, [.ref a8, .ref a9, .ref a10, .ref a11, .int x7_size])), (a8, .inl (cI, 10, .inl f8)), (a9, .inl (cI, 10, .inl f9)), (a10, .inl (cI, 10, .inl f10)), (a11, .inl (cI, 10, .inl f11))]) 0 0 := by
  refine g_entry (cc := cX1_read) (nL := 2) (rt := none) (by decide) rfl (Nat.le_of_ble_eq_true rfl) ?_
  intro p e s m args below meth c A (X : GC p s m args c cX1_read 2 RX1 wsX1_read D (tyS cI cS cL) A) hr hlk _ _
  have h := hc
  unfold f_X1_read at h
  refine g_lv (lv' := [(0, .ref a0), (1, .ref a7)]) [0, 1] rfl ?_
  refine g_aload_n X (j := 0) dX1_read_0 rfl ?_
  refine g_aload_n X (j := 1) dX1_read_1 rfl ?_
  refine g_get (q0 := 7) (k := 4) (ci := 2) X in_X1_read_X2 fl_X1_read_44 rfl rfl (Nat.le_of_ble_eq_true rfl) rfl dX1_read_2 ?_
  refine g_put (q0 := 0) (k := 9) (ci := 1) (ws' := [(a0, .inr (1, [.ref a1, .ref a2, .ref a3, .ref a4, .ref a5, .ref a6, .ref b0_6, .int x0_areOrdersCounted, .int x0_isAnyOrder, .int x7_size])), (a1, .inl (cI, 10, .inl f1)), (a2, .inl (cI, 10, .inl f2)), (a3, .inl (cI, 10, .inl f3)), (a4, .inl (cI, 10, .inl f4)), (a5, .inl (cI, 10, .inl f5)), (a6, .inl (cI, 10, .inl f6)), (a7, .inr (2, [.ref a8, .ref a9, .ref a10, .ref a11, .int x7_size])), (a8, .inl (cI, 10, .inl f8)), (a9, .inl (cI, 10, .inl f9)), (a10, .inl (cI, 10, .inl f10)), (a11, .inl (cI, 10, .inl f11))]) X tyX1_ok nmX1 in_X1_read_X1 fl_X1_read_40 rfl rfl (Nat.le_of_ble_eq_true rfl) rfl rfl rfl (Nat.le_of_ble_eq_true rfl) dX1_read_5 rfl ?_
  refine g_aload_n X (j := 0) dX1_read_8 rfl ?_
  refine g_iconst (v := 0) X dX1_read_9 (by decide) ?_
  refine g_put (q0 := 0) (k := 7) (ci := 1) (ws' := [(a0, .inr (1, [.ref a1, .ref a2, .ref a3, .ref a4, .ref a5, .ref a6, .ref b0_6, .int 0, .int x0_isAnyOrder, .int x7_size])), (a1, .inl (cI, 10, .inl f1)), (a2, .inl (cI, 10, .inl f2)), (a3, .inl (cI, 10, .inl f3)), (a4, .inl (cI, 10, .inl f4)), (a5, .inl (cI, 10, .inl f5)), (a6, .inl (cI, 10, .inl f6)), (a7, .inr (2, [.ref a8, .ref a9, .ref a10, .ref a11, .int x7_size])), (a8, .inl (cI, 10, .inl f8)), (a9, .inl (cI, 10, .inl f9)), (a10, .inl (cI, 10, .inl f10)), (a11, .inl (cI, 10, .inl f11))]) X tyX1_ok nmX1 in_X1_read_X1 fl_X1_read_33 rfl rfl (Nat.le_of_ble_eq_true rfl) rfl rfl rfl (Nat.le_of_ble_eq_true rfl) dX1_read_10 rfl ?_
  refine g_aload_n X (j := 0) dX1_read_13 rfl ?_
  refine g_aload_n X (j := 1) dX1_read_14 rfl ?_
  obtain ⟨o2, o3, hc, h⟩ := bd2 h
  refine g_callV (q0 := 0) (ci := 1) (is := [0, 1, 2, 7, 8, 9, 10, 11]) (As := [.ref a7]) (ws' := [(a0, .inr (1, [.ref a1, .ref a2, .ref a3, .ref a4, .ref a5, .ref a6, .ref b0_6, .int 0, .int x0_isAnyOrder, .int x7_size])), (a1, .inl (cI, 10, .inl o2)), (a2, .inl (cI, 10, .inl o3)), (a3, .inl (cI, 10, .inl f3)), (a4, .inl (cI, 10, .inl f4)), (a5, .inl (cI, 10, .inl f5)), (a6, .inl (cI, 10, .inl f6)), (a7, .inr (2, [.ref a8, .ref a9, .ref a10, .ref a11, .int x7_size])), (a8, .inl (cI, 10, .inl f8)), (a9, .inl (cI, 10, .inl f9)), (a10, .inl (cI, 10, .inl f10)), (a11, .inl (cI, 10, .inl f11))]) (st := []) X (c_X1_readPairs l D cI cS cL a0 a1 a2 a7 a8 a9 a10 a11 a3 a4 a5 a6 b0_6 0 x0_isAnyOrder x7_size f1 f2 x7_size f8 f9 f10 f11 o2 o3 hc) gX1_read_X1_readPairs rfl ⟨rfl, rfl⟩ hd_X1_readPairs (by exact ⟨Nat.le_of_ble_eq_true rfl, Nat.le_of_ble_eq_true rfl⟩) ⟨Nat.zero_le _, Nat.zero_le _⟩ rfl rfl rfl rfl rfl rfl rfl (Nat.le_of_ble_eq_true rfl) rfl dX1_read_15 ?_
  refine g_aload_n X (j := 0) dX1_read_18 rfl ?_
  obtain ⟨o5, o6, o7, hc, h⟩ := bd3 h
  refine g_callV (q0 := 0) (ci := 1) (is := [0, 1, 2, 5, 6]) (As := []) (ws' := [(a0, .inr (1, [.ref a1, .ref a2, .ref a3, .ref a4, .ref a5, .ref a6, .ref b0_6, .int 0, .int o5, .int x7_size])), (a1, .inl (cI, 10, .inl o2)), (a2, .inl (cI, 10, .inl o3)), (a3, .inl (cI, 10, .inl f3)), (a4, .inl (cI, 10, .inl f4)), (a5, .inl (cI, 10, .inl o6)), (a6, .inl (cI, 10, .inl o7)), (a7, .inr (2, [.ref a8, .ref a9, .ref a10, .ref a11, .int x7_size])), (a8, .inl (cI, 10, .inl f8)), (a9, .inl (cI, 10, .inl f9)), (a10, .inl (cI, 10, .inl f10)), (a11, .inl (cI, 10, .inl f11))]) (st := []) X (c_X1_followPairs l D cI cS cL a0 a1 a2 a5 a6 a3 a4 b0_6 0 x0_isAnyOrder x7_size o2 o3 f5 f6 o5 o6 o7 hc) gX1_read_X1_followPairs rfl ⟨rfl, rfl⟩ hd_X1_followPairs (by exact ⟨Nat.le_of_ble_eq_true rfl, Nat.le_of_ble_eq_true rfl⟩) ⟨Nat.zero_le _, Nat.zero_le _⟩ rfl rfl rfl rfl rfl rfl rfl (Nat.le_of_ble_eq_true rfl) rfl dX1_read_19 ?_
  refine g_aload_n X (j := 0) dX1_read_22 rfl ?_
  refine g_aload_n X (j := 1) dX1_read_23 rfl ?_
  obtain ⟨o9, o10, hc, h⟩ := bd2 h
  refine g_callV (q0 := 0) (ci := 1) (is := [0, 3, 4, 5, 6, 7, 11]) (As := [.ref a7]) (ws' := [(a0, .inr (1, [.ref a1, .ref a2, .ref a3, .ref a4, .ref a5, .ref a6, .ref b0_6, .int 0, .int o5, .int x7_size])), (a1, .inl (cI, 10, .inl o2)), (a2, .inl (cI, 10, .inl o3)), (a3, .inl (cI, 10, .inl o9)), (a4, .inl (cI, 10, .inl o10)), (a5, .inl (cI, 10, .inl o6)), (a6, .inl (cI, 10, .inl o7)), (a7, .inr (2, [.ref a8, .ref a9, .ref a10, .ref a11, .int x7_size])), (a8, .inl (cI, 10, .inl f8)), (a9, .inl (cI, 10, .inl f9)), (a10, .inl (cI, 10, .inl f10)), (a11, .inl (cI, 10, .inl f11))]) (st := []) X (c_X1_readYears l D cI cS cL a0 a3 a4 a5 a6 a7 a11 a1 a2 b0_6 a8 a9 a10 0 o5 x7_size f3 f4 o6 o7 x7_size f11 o9 o10 hc) gX1_read_X1_readYears rfl ⟨rfl, rfl⟩ hd_X1_readYears (by exact ⟨Nat.le_of_ble_eq_true rfl, Nat.le_of_ble_eq_true rfl⟩) ⟨Nat.zero_le _, Nat.zero_le _⟩ rfl rfl rfl rfl rfl rfl rfl (Nat.le_of_ble_eq_true rfl) rfl dX1_read_24 ?_
  have h := Option.some.inj h
  simp only [Prod.mk.injEq] at h
  obtain ⟨rfl, rfl, rfl, rfl, rfl, rfl, rfl, rfl, rfl⟩ := h
  exact g_vret X hr hlk dX1_read_27 rfl
def f_X1_allBooks (x0_size : Int32) : Option (Int32) := some (((1 : Int32) <<< (x0_size &&& 31)) - 1)
theorem in_X1_allBooks_X1 : ∀ w ∈ wsX10, w ∈ wsX1_allBooks := by decide +kernel
theorem fl_X1_allBooks_40 : Cond.fieldLink RX1 40 "ColophonHunt$Reading" "size" "I" ∈ wsX1_allBooks := by decide +kernel
theorem hd_X1_allBooks : yX1_allBooks.cls = RX1 ∧ yX1_allBooks.cls ≠ "java/lang/invoke/MethodHandle" ∧ yX1_allBooks.cls ≠ "java/lang/invoke/VarHandle" ∧ (parseMethodDescriptor yX1_allBooks.desc).map (fun d => d.parameters.length) = some 0 := by decide +kernel
set_option maxRecDepth 100000 in
set_option maxHeartbeats 4000000 in
theorem c_X1_allBooks (l : Launch) (D : va_G) (cI cS cL : ClassId) (a0 : Nat) (b0_0 : Nat) (b0_1 : Nat) (b0_2 : Nat) (b0_3 : Nat) (b0_4 : Nat) (b0_5 : Nat) (b0_6 : Nat) (x0_areOrdersCounted : Int32) (x0_isAnyOrder : Int32) (x0_size : Int32) (rr : Int32) (hc : f_X1_allBooks x0_size = some rr) : KM l yX1_allBooks wsX1_allBooks { frames := 0, cells := 0, slots := 0, locals := 0 } D (tyS cI cS cL) [.ref a0] [(a0, .inr (1, [.ref b0_0, .ref b0_1, .ref b0_2, .ref b0_3, .ref b0_4, .ref b0_5, .ref b0_6, .int x0_areOrdersCounted, .int x0_isAnyOrder, .int x0_size]))] (some (.int rr)) (fun w => w = [(a0, .inr (1, [.ref b0_0, .ref b0_1, .ref b0_2, .ref b0_3, .ref b0_4, .ref b0_5, .ref b0_6, .int x0_areOrdersCounted, .int x0_isAnyOrder, .int x0_size]))]) 0 0 := by
  refine g_entry (cc := cX1_allBooks) (nL := 1) (rt := (some .int)) (by decide) rfl (Nat.le_of_ble_eq_true rfl) ?_
  intro p e s m args below meth c A (X : GC p s m args c cX1_allBooks 1 RX1 wsX1_allBooks D (tyS cI cS cL) A) hr hlk _ _
  have h := hc
  unfold f_X1_allBooks at h
  refine g_lv (lv' := [(0, .ref a0)]) [0] rfl ?_
  refine g_iconst (v := 1) X dX1_allBooks_0 (by decide) ?_
  refine g_aload_n X (j := 0) dX1_allBooks_1 rfl ?_
  refine g_get (q0 := 0) (k := 9) (ci := 1) X in_X1_allBooks_X1 fl_X1_allBooks_40 rfl rfl (Nat.le_of_ble_eq_true rfl) rfl dX1_allBooks_2 ?_
  refine g_ishl X dX1_allBooks_5 ?_
  refine g_iconst (v := 1) X dX1_allBooks_6 (by decide) ?_
  refine g_isub X dX1_allBooks_7 ?_
  have h := Option.some.inj h
  subst h
  exact g_iret X hr hlk dX1_allBooks_8 rfl rfl
def f_X1_isDated (p1 : Int32) (f1 : Nat → Int32) (f2 : Nat → Int32) : Option (Int32) := (rdA f1 10 p1).bind (fun v1 => (rdA f2 10 p1).bind (fun v2 => (jn (u1 fun (s3 : Int32) => gB s3 (some s3)) (fun K4 => (if v1 = v2 then K4 1 else K4 0)))))
theorem in_X1_isDated_X1 : ∀ w ∈ wsX10, w ∈ wsX1_isDated := by decide +kernel
theorem fl_X1_isDated_18 : Cond.fieldLink RX1 18 "ColophonHunt$Reading" "firstYears" "[I" ∈ wsX1_isDated := by decide +kernel
theorem fl_X1_isDated_21 : Cond.fieldLink RX1 21 "ColophonHunt$Reading" "lastYears" "[I" ∈ wsX1_isDated := by decide +kernel
theorem hd_X1_isDated : yX1_isDated.cls = RX1 ∧ yX1_isDated.cls ≠ "java/lang/invoke/MethodHandle" ∧ yX1_isDated.cls ≠ "java/lang/invoke/VarHandle" ∧ (parseMethodDescriptor yX1_isDated.desc).map (fun d => d.parameters.length) = some 1 := by decide +kernel
set_option maxRecDepth 100000 in
set_option maxHeartbeats 4000000 in
theorem c_X1_isDated (l : Launch) (D : va_G) (cI cS cL : ClassId) (a0 : Nat) (a1 : Nat) (a2 : Nat) (b0_0 : Nat) (b0_1 : Nat) (b0_4 : Nat) (b0_5 : Nat) (b0_6 : Nat) (p1 : Int32) (x0_areOrdersCounted : Int32) (x0_isAnyOrder : Int32) (x0_size : Int32) (f1 : Nat → Int32) (f2 : Nat → Int32) (rr : Int32) (hc : f_X1_isDated p1 f1 f2 = some rr) : KM l yX1_isDated wsX1_isDated { frames := 0, cells := 0, slots := 0, locals := 0 } D (tyS cI cS cL) [.ref a0, .int p1] [(a0, .inr (1, [.ref b0_0, .ref b0_1, .ref a1, .ref a2, .ref b0_4, .ref b0_5, .ref b0_6, .int x0_areOrdersCounted, .int x0_isAnyOrder, .int x0_size])), (a1, .inl (cI, 10, .inl f1)), (a2, .inl (cI, 10, .inl f2))] (some (.int rr)) (fun w => w = [(a0, .inr (1, [.ref b0_0, .ref b0_1, .ref a1, .ref a2, .ref b0_4, .ref b0_5, .ref b0_6, .int x0_areOrdersCounted, .int x0_isAnyOrder, .int x0_size])), (a1, .inl (cI, 10, .inl f1)), (a2, .inl (cI, 10, .inl f2))]) 0 0 := by
  refine g_entry (cc := cX1_isDated) (nL := 2) (rt := (some .boolean)) (by decide) rfl (Nat.le_of_ble_eq_true rfl) ?_
  intro p e s m args below meth c A (X : GC p s m args c cX1_isDated 2 RX1 wsX1_isDated D (tyS cI cS cL) A) hr hlk _ _
  have h := hc
  unfold f_X1_isDated at h
  refine g_lv (lv' := [(0, .ref a0), (1, .int p1)]) [0, 1] rfl ?_
  refine g_aload_n X (j := 0) dX1_isDated_0 rfl ?_
  refine g_get (q0 := 0) (k := 2) (ci := 1) X in_X1_isDated_X1 fl_X1_isDated_18 rfl rfl (Nat.le_of_ble_eq_true rfl) rfl dX1_isDated_1 ?_
  refine g_iload_n X (j := 1) dX1_isDated_4 rfl ?_
  refine g_iald (q0 := 1) (t0 := 0) X h rfl rfl dX1_isDated_5 (fun v1 h => ?_)
  refine g_aload_n X (j := 0) dX1_isDated_6 rfl ?_
  refine g_get (q0 := 0) (k := 3) (ci := 1) X in_X1_isDated_X1 fl_X1_isDated_21 rfl rfl (Nat.le_of_ble_eq_true rfl) rfl dX1_isDated_7 ?_
  refine g_iload_n X (j := 1) dX1_isDated_10 rfl ?_
  refine g_iald (q0 := 2) (t0 := 0) X h rfl rfl dX1_isDated_11 (fun v2 h => ?_)
  refine jn_g h (u1 fun s3 => [(a0, .inr (1, [.ref b0_0, .ref b0_1, .ref a1, .ref a2, .ref b0_4, .ref b0_5, .ref b0_6, .int x0_areOrdersCounted, .int x0_isAnyOrder, .int x0_size])), (a1, .inl (cI, 10, .inl f1)), (a2, .inl (cI, 10, .inl f2))]) (u1 fun s3 => []) (u1 fun s3 => [.int s3]) 20 ?_ ?_
  · rintro s3 h
    dsimp only [u1] at h ⊢
    obtain ⟨hz, h⟩ := gB_e h
    have h := Option.some.inj h
    subst h
    exact g_zret X hr hlk hz dX1_isDated_20 rfl rfl
  · intro K4 hK4 h
    refine g_icmp_ne (tgt := 19) X h dX1_isDated_12 (by decide) (fun h => ?_) (fun h => ?_)
    · refine g_iconst (v := 0) X dX1_isDated_19 (by decide) ?_
      refine g_lv (lv' := []) [] rfl ?_
      exact hK4 0 h
    · refine g_iconst (v := 1) X dX1_isDated_15 (by decide) ?_
      refine g_goto (tgt := 20) X dX1_isDated_16 (by decide) ?_
      refine g_lv (lv' := []) [] rfl ?_
      exact hK4 1 h
def f_X1_datedBooks (x0_size : Int32) (f1 : Nat → Int32) (f2 : Nat → Int32) : Option (Int32) := (wl (u2 fun (l1_1 : Int32) (l2_2 : Int32) => (if x0_size ≤ l2_2 then some (Sum.inr l1_1) else (f_X1_isDated l2_2 f1 f2).bind (u1 fun (r4 : Int32) => (jn (u1 fun (l1_5 : Int32) => some (Sum.inl (l1_5, (l2_2 + 1)))) (fun K6 => (if r4 = 0 then K6 l1_1 else K6 (l1_1 + 1))))))) 9999 (0, 0)).bind (u1 fun (l1_3 : Int32) => some l1_3)
theorem in_X1_datedBooks_X1 : ∀ w ∈ wsX10, w ∈ wsX1_datedBooks := by decide +kernel
theorem fl_X1_datedBooks_40 : Cond.fieldLink RX1 40 "ColophonHunt$Reading" "size" "I" ∈ wsX1_datedBooks := by decide +kernel
theorem hd_X1_datedBooks : yX1_datedBooks.cls = RX1 ∧ yX1_datedBooks.cls ≠ "java/lang/invoke/MethodHandle" ∧ yX1_datedBooks.cls ≠ "java/lang/invoke/VarHandle" ∧ (parseMethodDescriptor yX1_datedBooks.desc).map (fun d => d.parameters.length) = some 0 := by decide +kernel
set_option maxRecDepth 100000 in
set_option maxHeartbeats 4000000 in
theorem c_X1_datedBooks (l : Launch) (D : va_G) (cI cS cL : ClassId) (a0 : Nat) (a1 : Nat) (a2 : Nat) (b0_0 : Nat) (b0_1 : Nat) (b0_4 : Nat) (b0_5 : Nat) (b0_6 : Nat) (x0_areOrdersCounted : Int32) (x0_isAnyOrder : Int32) (x0_size : Int32) (f1 : Nat → Int32) (f2 : Nat → Int32) (rr : Int32) (hc : f_X1_datedBooks x0_size f1 f2 = some rr) : KM l yX1_datedBooks wsX1_datedBooks { frames := 1, cells := 0, slots := 0, locals := 21 } D (tyS cI cS cL) [.ref a0] [(a0, .inr (1, [.ref b0_0, .ref b0_1, .ref a1, .ref a2, .ref b0_4, .ref b0_5, .ref b0_6, .int x0_areOrdersCounted, .int x0_isAnyOrder, .int x0_size])), (a1, .inl (cI, 10, .inl f1)), (a2, .inl (cI, 10, .inl f2))] (some (.int rr)) (fun w => w = [(a0, .inr (1, [.ref b0_0, .ref b0_1, .ref a1, .ref a2, .ref b0_4, .ref b0_5, .ref b0_6, .int x0_areOrdersCounted, .int x0_isAnyOrder, .int x0_size])), (a1, .inl (cI, 10, .inl f1)), (a2, .inl (cI, 10, .inl f2))]) 0 0 := by
  refine g_entry (cc := cX1_datedBooks) (nL := 3) (rt := (some .int)) (by decide) rfl (Nat.le_of_ble_eq_true rfl) ?_
  intro p e s m args below meth c A (X : GC p s m args c cX1_datedBooks 3 RX1 wsX1_datedBooks D (tyS cI cS cL) A) hr hlk _ _
  have h := hc
  unfold f_X1_datedBooks at h
  refine g_lv (lv' := [(0, .ref a0)]) [0] rfl ?_
  refine g_iconst (v := 0) X dX1_datedBooks_0 (by decide) ?_
  refine g_istore_n (lv' := [(1, .int 0), (0, .ref a0)]) X dX1_datedBooks_1 rfl (by decide) rfl ?_
  refine g_iconst (v := 0) X dX1_datedBooks_2 (by decide) ?_
  refine g_istore_n (lv' := [(2, .int 0), (1, .int 0), (0, .ref a0)]) X dX1_datedBooks_3 rfl (by decide) rfl ?_
  refine g_lv (lv' := [(0, .ref a0), (1, .int 0), (2, .int 0)]) [2, 1, 0] rfl ?_
  refine wl_g1 h (u2 fun l1_1 l2_2 => [(a0, .inr (1, [.ref b0_0, .ref b0_1, .ref a1, .ref a2, .ref b0_4, .ref b0_5, .ref b0_6, .int x0_areOrdersCounted, .int x0_isAnyOrder, .int x0_size])), (a1, .inl (cI, 10, .inl f1)), (a2, .inl (cI, 10, .inl f2))]) (u2 fun l1_1 l2_2 => [(0, .ref a0), (1, .int l1_1), (2, .int l2_2)]) rfl rfl (u1 fun l1_3 => [(a0, .inr (1, [.ref b0_0, .ref b0_1, .ref a1, .ref a2, .ref b0_4, .ref b0_5, .ref b0_6, .int x0_areOrdersCounted, .int x0_isAnyOrder, .int x0_size])), (a1, .inl (cI, 10, .inl f1)), (a2, .inl (cI, 10, .inl f2))]) (u1 fun l1_3 => [(1, .int l1_3)]) 29 ?_ ?_
  · rintro l1_3 h
    dsimp only [u1] at h ⊢
    refine g_iload_n X (j := 0) dX1_datedBooks_29 rfl ?_
    have h := Option.some.inj h
    subst h
    exact g_iret X hr hlk dX1_datedBooks_30 rfl rfl
  · rintro ⟨l1_1, l2_2⟩ o h hI hE
    dsimp only [u2] at h ⊢
    refine g_iload_n X (j := 2) dX1_datedBooks_4 rfl ?_
    refine g_aload_n X (j := 0) dX1_datedBooks_5 rfl ?_
    refine g_get (q0 := 0) (k := 9) (ci := 1) X in_X1_datedBooks_X1 fl_X1_datedBooks_40 rfl rfl (Nat.le_of_ble_eq_true rfl) rfl dX1_datedBooks_6 ?_
    refine g_icmp_ge (tgt := 29) X h dX1_datedBooks_9 (by decide) (fun h => ?_) (fun h => ?_)
    · refine g_lv (lv' := [(1, .int l1_1)]) [1] rfl ?_
      exact hE l1_1 (Option.some.inj h).symm
    · refine g_aload_n X (j := 0) dX1_datedBooks_12 rfl ?_
      refine g_iload_n X (j := 2) dX1_datedBooks_13 rfl ?_
      obtain ⟨r4, hc, h⟩ := bd1 h
      refine g_callV (q0 := 0) (ci := 1) (is := [0, 1, 2]) (As := [.int l2_2]) (ws' := [(a0, .inr (1, [.ref b0_0, .ref b0_1, .ref a1, .ref a2, .ref b0_4, .ref b0_5, .ref b0_6, .int x0_areOrdersCounted, .int x0_isAnyOrder, .int x0_size])), (a1, .inl (cI, 10, .inl f1)), (a2, .inl (cI, 10, .inl f2))]) (st := []) X (c_X1_isDated l D cI cS cL a0 a1 a2 b0_0 b0_1 b0_4 b0_5 b0_6 l2_2 x0_areOrdersCounted x0_isAnyOrder x0_size f1 f2 r4 hc) gX1_datedBooks_X1_isDated rfl ⟨rfl, rfl⟩ hd_X1_isDated (by exact ⟨Nat.le_of_ble_eq_true rfl, Nat.le_of_ble_eq_true rfl⟩) ⟨Nat.zero_le _, Nat.zero_le _⟩ rfl rfl rfl rfl rfl rfl rfl (Nat.le_of_ble_eq_true rfl) rfl dX1_datedBooks_14 ?_
      refine jn_g h (u1 fun l1_5 => [(a0, .inr (1, [.ref b0_0, .ref b0_1, .ref a1, .ref a2, .ref b0_4, .ref b0_5, .ref b0_6, .int x0_areOrdersCounted, .int x0_isAnyOrder, .int x0_size])), (a1, .inl (cI, 10, .inl f1)), (a2, .inl (cI, 10, .inl f2))]) (u1 fun l1_5 => [(0, .ref a0), (1, .int l1_5), (2, .int l2_2)]) (u1 fun l1_5 => []) 23 ?_ ?_
      · rintro l1_5 h
        dsimp only [u1] at h ⊢
        refine g_iinc (j := 2) (lv' := [(2, .int (l2_2 + 1)), (0, .ref a0), (1, .int l1_5)]) X (l2_2 + 1) dX1_datedBooks_23 rfl rfl (by decide) rfl ?_
        refine g_goto (tgt := 4) X dX1_datedBooks_26 (by decide) ?_
        refine g_lv (lv' := [(0, .ref a0), (1, .int l1_5), (2, .int (l2_2 + 1))]) [1, 2, 0] rfl ?_
        exact hI (l1_5, (l2_2 + 1)) (Option.some.inj h).symm
      · intro K6 hK6 h
        refine g_if_eq (tgt := 23) X h dX1_datedBooks_17 (by decide) (fun h => ?_) (fun h => ?_)
        · exact hK6 l1_1 h
        · refine g_iinc (j := 1) (lv' := [(1, .int (l1_1 + 1)), (0, .ref a0), (2, .int l2_2)]) X (l1_1 + 1) dX1_datedBooks_20 rfl rfl (by decide) rfl ?_
          refine g_lv (lv' := [(0, .ref a0), (1, .int (l1_1 + 1)), (2, .int l2_2)]) [1, 0, 2] rfl ?_
          exact hK6 (l1_1 + 1) h
