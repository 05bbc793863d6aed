set_option maxRecDepth 20000 in
theorem ggX1_orders_X1_allBooks : GoodIn wsX1_orders wsX1_allBooks := goodIn_r _ [6, 7, 22, 23, 24, 25, 26, 27, 28, 29, 30, 31] (by decide +kernel) (by decide +kernel)
set_option maxRecDepth 20000 in
theorem gX1_orders_X1_allBooks : GoodIn wsX1_orders (wsV RX1 86 RX1 yX1_allBooks wsX1_allBooks) := goodIn_app (goodIn_of _ (by decide +kernel)) ggX1_orders_X1_allBooks
set_option maxRecDepth 20000 in
theorem ggX1_orders_X1_ordersOf : GoodIn wsX1_orders wsX1_ordersOf := goodIn_r _ [11, 12, 13, 14, 15, 16, 5, 17, 7, 18, 2, 3, 4, 6, 19, 20, 21, 22, 23, 24, 25, 26, 27, 28, 29, 30, 31] (by decide +kernel) (by decide +kernel)
set_option maxRecDepth 20000 in
theorem gX1_orders_X1_ordersOf : GoodIn wsX1_orders (wsV RX1 90 RX1 yX1_ordersOf wsX1_ordersOf) := goodIn_app (goodIn_of _ (by decide +kernel)) ggX1_orders_X1_ordersOf
theorem dX1_orders_0 : decode cX1_orders 0 = .ok (.aload_n 0, 1) := by decide +kernel
theorem dX1_orders_1 : decode cX1_orders 1 = .ok (.getfield 37, 3) := by decide +kernel
theorem dX1_orders_4 : decode cX1_orders 4 = .ok (.ifCond .eq 14, 3) := by decide +kernel
theorem dX1_orders_7 : decode cX1_orders 7 = .ok (.aload_n 0, 1) := by decide +kernel
theorem dX1_orders_8 : decode cX1_orders 8 = .ok (.aload_n 0, 1) := by decide +kernel
theorem dX1_orders_9 : decode cX1_orders 9 = .ok (.invokevirtual 86, 3) := by decide +kernel
theorem dX1_orders_12 : decode cX1_orders 12 = .ok (.invokevirtual 90, 3) := by decide +kernel
theorem dX1_orders_15 : decode cX1_orders 15 = .ok (.goto 4, 3) := by decide +kernel
theorem dX1_orders_18 : decode cX1_orders 18 = .ok (.iconst 0, 1) := by decide +kernel
theorem dX1_orders_19 : decode cX1_orders 19 = .ok (.ireturn, 1) := by decide +kernel
set_option maxRecDepth 20000 in
theorem ggX1_bookInFirstOrder_X1_lowestFree : GoodIn wsX1_bookInFirstOrder wsX1_lowestFree := goodIn_r _ [7, 2, 8, 9, 10, 6, 11, 12, 13, 14, 15, 16, 17, 18, 19, 20, 21] (by decide +kernel) (by decide +kernel)
set_option maxRecDepth 20000 in
theorem gX1_bookInFirstOrder_X1_lowestFree : GoodIn wsX1_bookInFirstOrder (wsV RX1 96 RX1 yX1_lowestFree wsX1_lowestFree) := goodIn_app (goodIn_of _ (by decide +kernel)) ggX1_bookInFirstOrder_X1_lowestFree
theorem dX1_bookInFirstOrder_0 : decode cX1_bookInFirstOrder 0 = .ok (.aload_n 0, 1) := by decide +kernel
theorem dX1_bookInFirstOrder_1 : decode cX1_bookInFirstOrder 1 = .ok (.getfield 37, 3) := by decide +kernel
theorem dX1_bookInFirstOrder_4 : decode cX1_bookInFirstOrder 4 = .ok (.ifCond .eq 11, 3) := by decide +kernel
theorem dX1_bookInFirstOrder_7 : decode cX1_bookInFirstOrder 7 = .ok (.iload_n 1, 1) := by decide +kernel
theorem dX1_bookInFirstOrder_8 : decode cX1_bookInFirstOrder 8 = .ok (.aload_n 0, 1) := by decide +kernel
theorem dX1_bookInFirstOrder_9 : decode cX1_bookInFirstOrder 9 = .ok (.getfield 40, 3) := by decide +kernel
theorem dX1_bookInFirstOrder_12 : decode cX1_bookInFirstOrder 12 = .ok (.if_icmp .lt 5, 3) := by decide +kernel
theorem dX1_bookInFirstOrder_15 : decode cX1_bookInFirstOrder 15 = .ok (.iconst (-1), 1) := by decide +kernel
theorem dX1_bookInFirstOrder_16 : decode cX1_bookInFirstOrder 16 = .ok (.ireturn, 1) := by decide +kernel
theorem dX1_bookInFirstOrder_17 : decode cX1_bookInFirstOrder 17 = .ok (.iconst 0, 1) := by decide +kernel
theorem dX1_bookInFirstOrder_18 : decode cX1_bookInFirstOrder 18 = .ok (.istore_n 2, 1) := by decide +kernel
theorem dX1_bookInFirstOrder_19 : decode cX1_bookInFirstOrder 19 = .ok (.aload_n 0, 1) := by decide +kernel
theorem dX1_bookInFirstOrder_20 : decode cX1_bookInFirstOrder 20 = .ok (.iload_n 2, 1) := by decide +kernel
theorem dX1_bookInFirstOrder_21 : decode cX1_bookInFirstOrder 21 = .ok (.invokevirtual 96, 3) := by decide +kernel
theorem dX1_bookInFirstOrder_24 : decode cX1_bookInFirstOrder 24 = .ok (.istore_n 3, 1) := by decide +kernel
theorem dX1_bookInFirstOrder_25 : decode cX1_bookInFirstOrder 25 = .ok (.iconst 0, 1) := by decide +kernel
theorem dX1_bookInFirstOrder_26 : decode cX1_bookInFirstOrder 26 = .ok (.istore 4, 2) := by decide +kernel
theorem dX1_bookInFirstOrder_28 : decode cX1_bookInFirstOrder 28 = .ok (.iload 4, 2) := by decide +kernel
theorem dX1_bookInFirstOrder_30 : decode cX1_bookInFirstOrder 30 = .ok (.iload_n 1, 1) := by decide +kernel
theorem dX1_bookInFirstOrder_31 : decode cX1_bookInFirstOrder 31 = .ok (.if_icmp .ge 26, 3) := by decide +kernel
theorem dX1_bookInFirstOrder_34 : decode cX1_bookInFirstOrder 34 = .ok (.iload_n 3, 1) := by decide +kernel
theorem dX1_bookInFirstOrder_35 : decode cX1_bookInFirstOrder 35 = .ok (.iconst (-1), 1) := by decide +kernel
theorem dX1_bookInFirstOrder_36 : decode cX1_bookInFirstOrder 36 = .ok (.if_icmp .eq 21, 3) := by decide +kernel
theorem dX1_bookInFirstOrder_39 : decode cX1_bookInFirstOrder 39 = .ok (.iload_n 2, 1) := by decide +kernel
theorem dX1_bookInFirstOrder_40 : decode cX1_bookInFirstOrder 40 = .ok (.iconst 1, 1) := by decide +kernel
theorem dX1_bookInFirstOrder_41 : decode cX1_bookInFirstOrder 41 = .ok (.iload_n 3, 1) := by decide +kernel
theorem dX1_bookInFirstOrder_42 : decode cX1_bookInFirstOrder 42 = .ok (.ishl, 1) := by decide +kernel
theorem dX1_bookInFirstOrder_43 : decode cX1_bookInFirstOrder 43 = .ok (.ior, 1) := by decide +kernel
theorem dX1_bookInFirstOrder_44 : decode cX1_bookInFirstOrder 44 = .ok (.istore_n 2, 1) := by decide +kernel
theorem dX1_bookInFirstOrder_45 : decode cX1_bookInFirstOrder 45 = .ok (.aload_n 0, 1) := by decide +kernel
theorem dX1_bookInFirstOrder_46 : decode cX1_bookInFirstOrder 46 = .ok (.iload_n 2, 1) := by decide +kernel
theorem dX1_bookInFirstOrder_47 : decode cX1_bookInFirstOrder 47 = .ok (.invokevirtual 96, 3) := by decide +kernel
theorem dX1_bookInFirstOrder_50 : decode cX1_bookInFirstOrder 50 = .ok (.istore_n 3, 1) := by decide +kernel
theorem dX1_bookInFirstOrder_51 : decode cX1_bookInFirstOrder 51 = .ok (.iinc 4 1, 3) := by decide +kernel
theorem dX1_bookInFirstOrder_54 : decode cX1_bookInFirstOrder 54 = .ok (.goto (-26), 3) := by decide +kernel
theorem dX1_bookInFirstOrder_57 : decode cX1_bookInFirstOrder 57 = .ok (.iload_n 3, 1) := by decide +kernel
theorem dX1_bookInFirstOrder_58 : decode cX1_bookInFirstOrder 58 = .ok (.ireturn, 1) := by decide +kernel
set_option maxRecDepth 20000 in
theorem ggX1_lowestFree_X1_has : GoodIn wsX1_lowestFree wsX1_has := goodIn_r _ [6] (by decide +kernel) (by decide +kernel)
set_option maxRecDepth 20000 in
theorem gX1_lowestFree_X1_has : GoodIn wsX1_lowestFree (va_wsS RX1 61 yX1_has wsX1_has) := goodIn_app (goodIn_of _ (by decide +kernel)) ggX1_lowestFree_X1_has
theorem dX1_lowestFree_0 : decode cX1_lowestFree 0 = .ok (.iconst 0, 1) := by decide +kernel
theorem dX1_lowestFree_1 : decode cX1_lowestFree 1 = .ok (.istore_n 2, 1) := by decide +kernel
theorem dX1_lowestFree_2 : decode cX1_lowestFree 2 = .ok (.iload_n 2, 1) := by decide +kernel
theorem dX1_lowestFree_3 : decode cX1_lowestFree 3 = .ok (.aload_n 0, 1) := by decide +kernel
theorem dX1_lowestFree_4 : decode cX1_lowestFree 4 = .ok (.getfield 40, 3) := by decide +kernel
theorem dX1_lowestFree_7 : decode cX1_lowestFree 7 = .ok (.if_icmp .ge 32, 3) := by decide +kernel
theorem dX1_lowestFree_10 : decode cX1_lowestFree 10 = .ok (.iload_n 1, 1) := by decide +kernel
theorem dX1_lowestFree_11 : decode cX1_lowestFree 11 = .ok (.iload_n 2, 1) := by decide +kernel
theorem dX1_lowestFree_12 : decode cX1_lowestFree 12 = .ok (.invokestatic 61, 3) := by decide +kernel
theorem dX1_lowestFree_15 : decode cX1_lowestFree 15 = .ok (.ifCond .ne 18, 3) := by decide +kernel
theorem dX1_lowestFree_18 : decode cX1_lowestFree 18 = .ok (.aload_n 0, 1) := by decide +kernel
theorem dX1_lowestFree_19 : decode cX1_lowestFree 19 = .ok (.getfield 9, 3) := by decide +kernel
theorem dX1_lowestFree_22 : decode cX1_lowestFree 22 = .ok (.iload_n 2, 1) := by decide +kernel
theorem dX1_lowestFree_23 : decode cX1_lowestFree 23 = .ok (.iaload, 1) := by decide +kernel
theorem dX1_lowestFree_24 : decode cX1_lowestFree 24 = .ok (.iload_n 1, 1) := by decide +kernel
theorem dX1_lowestFree_25 : decode cX1_lowestFree 25 = .ok (.iconst (-1), 1) := by decide +kernel
theorem dX1_lowestFree_26 : decode cX1_lowestFree 26 = .ok (.ixor, 1) := by decide +kernel
theorem dX1_lowestFree_27 : decode cX1_lowestFree 27 = .ok (.iand, 1) := by decide +kernel
theorem dX1_lowestFree_28 : decode cX1_lowestFree 28 = .ok (.ifCond .ne 5, 3) := by decide +kernel
theorem dX1_lowestFree_31 : decode cX1_lowestFree 31 = .ok (.iload_n 2, 1) := by decide +kernel
theorem dX1_lowestFree_32 : decode cX1_lowestFree 32 = .ok (.ireturn, 1) := by decide +kernel
theorem dX1_lowestFree_33 : decode cX1_lowestFree 33 = .ok (.iinc 2 1, 3) := by decide +kernel
theorem dX1_lowestFree_36 : decode cX1_lowestFree 36 = .ok (.goto (-34), 3) := by decide +kernel
theorem dX1_lowestFree_39 : decode cX1_lowestFree 39 = .ok (.iconst (-1), 1) := by decide +kernel
theorem dX1_lowestFree_40 : decode cX1_lowestFree 40 = .ok (.ireturn, 1) := by decide +kernel
set_option maxRecDepth 20000 in
theorem ggX1_leastPlace_J6_bitCount_0f7a4 : GoodIn wsX1_leastPlace wsJ6_bitCount_0f7a4 := goodIn_r _ [6, 7, 8, 9] (by decide +kernel) (by decide +kernel)
set_option maxRecDepth 20000 in
theorem gX1_leastPlace_J6_bitCount_0f7a4 : GoodIn wsX1_leastPlace (va_wsS RX1 80 yJ6_bitCount_0f7a4 wsJ6_bitCount_0f7a4) := goodIn_app (goodIn_of _ (by decide +kernel)) ggX1_leastPlace_J6_bitCount_0f7a4
theorem dX1_leastPlace_0 : decode cX1_leastPlace 0 = .ok (.aload_n 0, 1) := by decide +kernel
theorem dX1_leastPlace_1 : decode cX1_leastPlace 1 = .ok (.getfield 37, 3) := by decide +kernel
theorem dX1_leastPlace_4 : decode cX1_leastPlace 4 = .ok (.ifCond .eq 15, 3) := by decide +kernel
theorem dX1_leastPlace_7 : decode cX1_leastPlace 7 = .ok (.aload_n 0, 1) := by decide +kernel
theorem dX1_leastPlace_8 : decode cX1_leastPlace 8 = .ok (.getfield 24, 3) := by decide +kernel
theorem dX1_leastPlace_11 : decode cX1_leastPlace 11 = .ok (.iload_n 1, 1) := by decide +kernel
theorem dX1_leastPlace_12 : decode cX1_leastPlace 12 = .ok (.iaload, 1) := by decide +kernel
theorem dX1_leastPlace_13 : decode cX1_leastPlace 13 = .ok (.invokestatic 80, 3) := by decide +kernel
theorem dX1_leastPlace_16 : decode cX1_leastPlace 16 = .ok (.goto 4, 3) := by decide +kernel
theorem dX1_leastPlace_19 : decode cX1_leastPlace 19 = .ok (.iconst (-1), 1) := by decide +kernel
theorem dX1_leastPlace_20 : decode cX1_leastPlace 20 = .ok (.ireturn, 1) := by decide +kernel
set_option maxRecDepth 20000 in
theorem ggX1_greatestPlace_J6_bitCount_0f7a4 : GoodIn wsX1_greatestPlace wsJ6_bitCount_0f7a4 := goodIn_r _ [7, 8, 9, 10] (by decide +kernel) (by decide +kernel)
set_option maxRecDepth 20000 in
theorem gX1_greatestPlace_J6_bitCount_0f7a4 : GoodIn wsX1_greatestPlace (va_wsS RX1 80 yJ6_bitCount_0f7a4 wsJ6_bitCount_0f7a4) := goodIn_app (goodIn_of _ (by decide +kernel)) ggX1_greatestPlace_J6_bitCount_0f7a4
theorem dX1_greatestPlace_0 : decode cX1_greatestPlace 0 = .ok (.aload_n 0, 1) := by decide +kernel
theorem dX1_greatestPlace_1 : decode cX1_greatestPlace 1 = .ok (.getfield 37, 3) := by decide +kernel
theorem dX1_greatestPlace_4 : decode cX1_greatestPlace 4 = .ok (.ifCond .eq 22, 3) := by decide +kernel
theorem dX1_greatestPlace_7 : decode cX1_greatestPlace 7 = .ok (.aload_n 0, 1) := by decide +kernel
theorem dX1_greatestPlace_8 : decode cX1_greatestPlace 8 = .ok (.getfield 40, 3) := by decide +kernel
theorem dX1_greatestPlace_11 : decode cX1_greatestPlace 11 = .ok (.iconst 1, 1) := by decide +kernel
theorem dX1_greatestPlace_12 : decode cX1_greatestPlace 12 = .ok (.isub, 1) := by decide +kernel
theorem dX1_greatestPlace_13 : decode cX1_greatestPlace 13 = .ok (.aload_n 0, 1) := by decide +kernel
theorem dX1_greatestPlace_14 : decode cX1_greatestPlace 14 = .ok (.getfield 27, 3) := by decide +kernel
theorem dX1_greatestPlace_17 : decode cX1_greatestPlace 17 = .ok (.iload_n 1, 1) := by decide +kernel
theorem dX1_greatestPlace_18 : decode cX1_greatestPlace 18 = .ok (.iaload, 1) := by decide +kernel
theorem dX1_greatestPlace_19 : decode cX1_greatestPlace 19 = .ok (.invokestatic 80, 3) := by decide +kernel
theorem dX1_greatestPlace_22 : decode cX1_greatestPlace 22 = .ok (.isub, 1) := by decide +kernel
theorem dX1_greatestPlace_23 : decode cX1_greatestPlace 23 = .ok (.goto 4, 3) := by decide +kernel
theorem dX1_greatestPlace_26 : decode cX1_greatestPlace 26 = .ok (.iconst (-1), 1) := by decide +kernel
theorem dX1_greatestPlace_27 : decode cX1_greatestPlace 27 = .ok (.ireturn, 1) := by decide +kernel
set_option maxRecDepth 20000 in
theorem ggX1_ordersWithFirst_X1_allBooks : GoodIn wsX1_ordersWithFirst wsX1_allBooks := goodIn_r _ [7, 8, 22, 23, 24, 25, 26, 27, 28, 29, 30, 31] (by decide +kernel) (by decide +kernel)
set_option maxRecDepth 20000 in
theorem gX1_ordersWithFirst_X1_allBooks : GoodIn wsX1_ordersWithFirst (wsV RX1 86 RX1 yX1_allBooks wsX1_allBooks) := goodIn_app (goodIn_of _ (by decide +kernel)) ggX1_ordersWithFirst_X1_allBooks
set_option maxRecDepth 20000 in
theorem ggX1_ordersWithFirst_X1_ordersOf : GoodIn wsX1_ordersWithFirst wsX1_ordersOf := goodIn_r _ [12, 13, 14, 15, 16, 17, 6, 18, 8, 2, 3, 4, 5, 7, 19, 20, 21, 22, 23, 24, 25, 26, 27, 28, 29, 30, 31] (by decide +kernel) (by decide +kernel)
set_option maxRecDepth 20000 in
theorem gX1_ordersWithFirst_X1_ordersOf : GoodIn wsX1_ordersWithFirst (wsV RX1 90 RX1 yX1_ordersOf wsX1_ordersOf) := goodIn_app (goodIn_of _ (by decide +kernel)) ggX1_ordersWithFirst_X1_ordersOf
theorem dX1_ordersWithFirst_0 : decode cX1_ordersWithFirst 0 = .ok (.aload_n 0, 1) := by decide +kernel
theorem dX1_ordersWithFirst_1 : decode cX1_ordersWithFirst 1 = .ok (.getfield 37, 3) := by decide +kernel
theorem dX1_ordersWithFirst_4 : decode cX1_ordersWithFirst 4 = .ok (.ifCond .eq 27, 3) := by decide +kernel
theorem dX1_ordersWithFirst_7 : decode cX1_ordersWithFirst 7 = .ok (.aload_n 0, 1) := by decide +kernel
theorem dX1_ordersWithFirst_8 : decode cX1_ordersWithFirst 8 = .ok (.getfield 9, 3) := by decide +kernel
theorem dX1_ordersWithFirst_11 : decode cX1_ordersWithFirst 11 = .ok (.iload_n 1, 1) := by decide +kernel
theorem dX1_ordersWithFirst_12 : decode cX1_ordersWithFirst 12 = .ok (.iaload, 1) := by decide +kernel
theorem dX1_ordersWithFirst_13 : decode cX1_ordersWithFirst 13 = .ok (.ifCond .ne 18, 3) := by decide +kernel
theorem dX1_ordersWithFirst_16 : decode cX1_ordersWithFirst 16 = .ok (.aload_n 0, 1) := by decide +kernel
theorem dX1_ordersWithFirst_17 : decode cX1_ordersWithFirst 17 = .ok (.aload_n 0, 1) := by decide +kernel
theorem dX1_ordersWithFirst_18 : decode cX1_ordersWithFirst 18 = .ok (.invokevirtual 86, 3) := by decide +kernel
theorem dX1_ordersWithFirst_21 : decode cX1_ordersWithFirst 21 = .ok (.iconst 1, 1) := by decide +kernel
theorem dX1_ordersWithFirst_22 : decode cX1_ordersWithFirst 22 = .ok (.iload_n 1, 1) := by decide +kernel
theorem dX1_ordersWithFirst_23 : decode cX1_ordersWithFirst 23 = .ok (.ishl, 1) := by decide +kernel
theorem dX1_ordersWithFirst_24 : decode cX1_ordersWithFirst 24 = .ok (.ixor, 1) := by decide +kernel
theorem dX1_ordersWithFirst_25 : decode cX1_ordersWithFirst 25 = .ok (.invokevirtual 90, 3) := by decide +kernel
theorem dX1_ordersWithFirst_28 : decode cX1_ordersWithFirst 28 = .ok (.goto 4, 3) := by decide +kernel
theorem dX1_ordersWithFirst_31 : decode cX1_ordersWithFirst 31 = .ok (.iconst 0, 1) := by decide +kernel
theorem dX1_ordersWithFirst_32 : decode cX1_ordersWithFirst 32 = .ok (.ireturn, 1) := by decide +kernel
def f_X1_orders (x0_areOrdersCounted : Int32) (x0_isAnyOrder : Int32) (x0_size : Int32) (f1 : Nat → Int32) (f2 : Nat → Int32) : Option (Int32 × Int32 × (Nat → Int32)) := (jn (u3 fun (w1 : Int32) (w2 : Nat → Int32) (s3 : Int32) => some (s3, w1, w2)) (fun K4 => (if x0_isAnyOrder = 0 then K4 (x0_areOrdersCounted, f2, 0) else (f_X1_allBooks x0_size).bind (u1 fun (r5 : Int32) => (f_X1_ordersOf r5 x0_areOrdersCounted x0_size f1 f2).bind (u3 fun (r6 : Int32) (o7 : Int32) (o8 : Nat → Int32) => K4 (o7, o8, r6))))))
theorem in_X1_orders_X1 : ∀ w ∈ wsX10, w ∈ wsX1_orders := by decide +kernel
theorem fl_X1_orders_37 : Cond.fieldLink RX1 37 "ColophonHunt$Reading" "isAnyOrder" "Z" ∈ wsX1_orders := by decide +kernel
theorem hd_X1_orders : yX1_orders.cls = RX1 ∧ yX1_orders.cls ≠ "java/lang/invoke/MethodHandle" ∧ yX1_orders.cls ≠ "java/lang/invoke/VarHandle" ∧ (parseMethodDescriptor yX1_orders.desc).map (fun d => d.parameters.length) = some 0 := by decide +kernel
set_option maxRecDepth 100000 in
set_option maxHeartbeats 4000000 in
theorem c_X1_orders (l : Launch) (D : va_G) (cI cS cL : ClassId) (a0 : Nat) (a1 : Nat) (a2 : Nat) (b0_1 : Nat) (b0_2 : Nat) (b0_3 : Nat) (b0_4 : Nat) (b0_5 : Nat) (x0_areOrdersCounted : Int32) (x0_isAnyOrder : Int32) (x0_size : Int32) (f1 : Nat → Int32) (f2 : Nat → Int32) (rr : Int32) (y0 : Int32) (y1 : Nat → Int32) (hc : f_X1_orders x0_areOrdersCounted x0_isAnyOrder x0_size f1 f2 = some (rr, y0, y1)) : KM l yX1_orders wsX1_orders { frames := 3, cells := 0, slots := 0, locals := 65 } D (tyS cI cS cL) [.ref a0] [(a0, .inr (1, [.ref a1, .ref b0_1, .ref b0_2, .ref b0_3, .ref b0_4, .ref b0_5, .ref a2, .int x0_areOrdersCounted, .int x0_isAnyOrder, .int x0_size])), (a1, .inl (cI, 10, .inl f1)), (a2, .inl (cI, 1024, .inl f2))] (some (.int rr)) (fun w => w = [(a0, .inr (1, [.ref a1, .ref b0_1, .ref b0_2, .ref b0_3, .ref b0_4, .ref b0_5, .ref a2, .int y0, .int x0_isAnyOrder, .int x0_size])), (a1, .inl (cI, 10, .inl f1)), (a2, .inl (cI, 1024, .inl y1))]) 0 0 := by
  refine g_entry (cc := cX1_orders) (nL := 1) (rt := (some .int)) (by decide) rfl (Nat.le_of_ble_eq_true rfl) ?_
  intro p e s m args below meth c A (X : GC p s m args c cX1_orders 1 RX1 wsX1_orders D (tyS cI cS cL) A) hr hlk _ _
  have h := hc
  unfold f_X1_orders at h
  refine g_lv (lv' := [(0, .ref a0)]) [0] rfl ?_
  refine g_aload_n X (j := 0) dX1_orders_0 rfl ?_
  refine g_get (q0 := 0) (k := 8) (ci := 1) X in_X1_orders_X1 fl_X1_orders_37 rfl rfl (Nat.le_of_ble_eq_true rfl) rfl dX1_orders_1 ?_
  refine jn_g h (u3 fun w1 w2 s3 => [(a0, .inr (1, [.ref a1, .ref b0_1, .ref b0_2, .ref b0_3, .ref b0_4, .ref b0_5, .ref a2, .int w1, .int x0_isAnyOrder, .int x0_size])), (a1, .inl (cI, 10, .inl f1)), (a2, .inl (cI, 1024, .inl w2))]) (u3 fun w1 w2 s3 => []) (u3 fun w1 w2 s3 => [.int s3]) 19 ?_ ?_
  · rintro ⟨w1, w2, s3⟩ h
    dsimp only [u3] at h ⊢
    have h := Option.some.inj h
    simp only [Prod.mk.injEq] at h
    obtain ⟨rfl, rfl, rfl⟩ := h
    exact g_iret X hr hlk dX1_orders_19 rfl rfl
  · intro K4 hK4 h
    refine g_if_eq (tgt := 18) X h dX1_orders_4 (by decide) (fun h => ?_) (fun h => ?_)
    · refine g_iconst (v := 0) X dX1_orders_18 (by decide) ?_
      refine g_lv (lv' := []) [] rfl ?_
      exact hK4 (x0_areOrdersCounted, f2, 0) h
    · refine g_aload_n X (j := 0) dX1_orders_7 rfl ?_
      refine g_aload_n X (j := 0) dX1_orders_8 rfl ?_
      obtain ⟨r5, hc, h⟩ := bd1 h
      refine g_callV (q0 := 0) (ci := 1) (is := [0]) (As := []) (ws' := [(a0, .inr (1, [.ref a1, .ref b0_1, .ref b0_2, .ref b0_3, .ref b0_4, .ref b0_5, .ref a2, .int x0_areOrdersCounted, .int x0_isAnyOrder, .int x0_size])), (a1, .inl (cI, 10, .inl f1)), (a2, .inl (cI, 1024, .inl f2))]) (st := [.ref a0]) X (c_X1_allBooks l D cI cS cL a0 a1 b0_1 b0_2 b0_3 b0_4 b0_5 a2 x0_areOrdersCounted x0_isAnyOrder x0_size r5 hc) gX1_orders_X1_allBooks rfl ⟨rfl, rfl⟩ hd_X1_allBooks (by exact ⟨Nat.le_of_ble_eq_true rfl, Nat.le_of_ble_eq_true rfl⟩) ⟨Nat.zero_le _, Nat.zero_le _⟩ rfl rfl rfl rfl rfl rfl rfl (Nat.le_of_ble_eq_true rfl) rfl dX1_orders_9 ?_
      obtain ⟨r6, o7, o8, hc, h⟩ := bd3 h
      refine g_callV (q0 := 0) (ci := 1) (is := [0, 1, 2]) (As := [.int r5]) (ws' := [(a0, .inr (1, [.ref a1, .ref b0_1, .ref b0_2, .ref b0_3, .ref b0_4, .ref b0_5, .ref a2, .int o7, .int x0_isAnyOrder, .int x0_size])), (a1, .inl (cI, 10, .inl f1)), (a2, .inl (cI, 1024, .inl o8))]) (st := []) X (c_X1_ordersOf l D cI cS cL a0 a1 a2 b0_1 b0_2 b0_3 b0_4 b0_5 r5 x0_areOrdersCounted x0_isAnyOrder x0_size f1 f2 r6 o7 o8 hc) gX1_orders_X1_ordersOf rfl ⟨rfl, rfl⟩ hd_X1_ordersOf (by exact ⟨Nat.le_of_ble_eq_true rfl, Nat.le_of_ble_eq_true rfl⟩) ⟨Nat.zero_le _, Nat.zero_le _⟩ rfl rfl rfl rfl rfl rfl rfl (Nat.le_of_ble_eq_true rfl) rfl dX1_orders_12 ?_
      refine g_goto (tgt := 19) X dX1_orders_15 (by decide) ?_
      refine g_lv (lv' := []) [] rfl ?_
      exact hK4 (o7, o8, r6) h
def f_X1_lowestFree (p1 : Int32) (x0_size : Int32) (f1 : Nat → Int32) : Option (Int32) := (wl (u1 fun (l2_1 : Int32) => (if x0_size ≤ l2_1 then some (Sum.inr (Sum.inr ())) else (f_X1_has p1 l2_1).bind (u1 fun (r3 : Int32) => (jn (u0 (some (Sum.inl (l2_1 + 1)))) (fun K4 => (if r3 = 0 then (rdA f1 10 l2_1).bind (fun v5 => (if (v5 &&& (p1 ^^^ (-1))) = 0 then some (Sum.inr (Sum.inl l2_1)) else K4 ())) else K4 ())))))) 9999 0).bind (Sum.elim (u1 fun (l2_2 : Int32) => some l2_2) (u0 (some (-1))))
theorem in_X1_lowestFree_X1 : ∀ w ∈ wsX10, w ∈ wsX1_lowestFree := by decide +kernel
theorem fl_X1_lowestFree_40 : Cond.fieldLink RX1 40 "ColophonHunt$Reading" "size" "I" ∈ wsX1_lowestFree := by decide +kernel
theorem fl_X1_lowestFree_9 : Cond.fieldLink RX1 9 "ColophonHunt$Reading" "before" "[I" ∈ wsX1_lowestFree := by decide +kernel
theorem hd_X1_lowestFree : yX1_lowestFree.cls = RX1 ∧ yX1_lowestFree.cls ≠ "java/lang/invoke/MethodHandle" ∧ yX1_lowestFree.cls ≠ "java/lang/invoke/VarHandle" ∧ (parseMethodDescriptor yX1_lowestFree.desc).map (fun d => d.parameters.length) = some 1 := by decide +kernel
set_option maxRecDepth 100000 in
set_option maxHeartbeats 4000000 in
theorem c_X1_lowestFree (l : Launch) (D : va_G) (cI cS cL : ClassId) (a0 : Nat) (a1 : Nat) (b0_1 : Nat) (b0_2 : Nat) (b0_3 : Nat) (b0_4 : Nat) (b0_5 : Nat) (b0_6 : Nat) (p1 : Int32) (x0_areOrdersCounted : Int32) (x0_isAnyOrder : Int32) (x0_size : Int32) (f1 : Nat → Int32) (rr : Int32) (hc : f_X1_lowestFree p1 x0_size f1 = some rr) : KM l yX1_lowestFree wsX1_lowestFree { frames := 1, cells := 0, slots := 0, locals := 21 } D (tyS cI cS cL) [.ref a0, .int p1] [(a0, .inr (1, [.ref a1, .ref b0_1, .ref b0_2, .ref b0_3, .ref b0_4, .ref b0_5, .ref b0_6, .int x0_areOrdersCounted, .int x0_isAnyOrder, .int x0_size])), (a1, .inl (cI, 10, .inl f1))] (some (.int rr)) (fun w => w = [(a0, .inr (1, [.ref a1, .ref b0_1, .ref b0_2, .ref b0_3, .ref b0_4, .ref b0_5, .ref b0_6, .int x0_areOrdersCounted, .int x0_isAnyOrder, .int x0_size])), (a1, .inl (cI, 10, .inl f1))]) 0 0 := by
  refine g_entry (cc := cX1_lowestFree) (nL := 3) (rt := (some .int)) (by decide) rfl (Nat.le_of_ble_eq_true rfl) ?_
  intro p e s m args below meth c A (X : GC p s m args c cX1_lowestFree 3 RX1 wsX1_lowestFree D (tyS cI cS cL) A) hr hlk _ _
  have h := hc
  unfold f_X1_lowestFree at h
  refine g_lv (lv' := [(0, .ref a0), (1, .int p1)]) [0, 1] rfl ?_
  refine g_iconst (v := 0) X dX1_lowestFree_0 (by decide) ?_
  refine g_istore_n (lv' := [(2, .int 0), (0, .ref a0), (1, .int p1)]) X dX1_lowestFree_1 rfl (by decide) rfl ?_
  refine g_lv (lv' := [(0, .ref a0), (1, .int p1), (2, .int 0)]) [1, 2, 0] rfl ?_
  refine wl_g2 h (u1 fun l2_1 => [(a0, .inr (1, [.ref a1, .ref b0_1, .ref b0_2, .ref b0_3, .ref b0_4, .ref b0_5, .ref b0_6, .int x0_areOrdersCounted, .int x0_isAnyOrder, .int x0_size])), (a1, .inl (cI, 10, .inl f1))]) (u1 fun l2_1 => [(0, .ref a0), (1, .int p1), (2, .int l2_1)]) rfl rfl (u1 fun l2_2 => [(a0, .inr (1, [.ref a1, .ref b0_1, .ref b0_2, .ref b0_3, .ref b0_4, .ref b0_5, .ref b0_6, .int x0_areOrdersCounted, .int x0_isAnyOrder, .int x0_size])), (a1, .inl (cI, 10, .inl f1))]) (u1 fun l2_2 => [(2, .int l2_2)]) 31 (u0 ([(a0, .inr (1, [.ref a1, .ref b0_1, .ref b0_2, .ref b0_3, .ref b0_4, .ref b0_5, .ref b0_6, .int x0_areOrdersCounted, .int x0_isAnyOrder, .int x0_size])), (a1, .inl (cI, 10, .inl f1))])) (u0 ([])) 39 ?_ ?_ ?_
  · rintro l2_2 h
    dsimp only [u1] at h ⊢
    refine g_iload_n X (j := 0) dX1_lowestFree_31 rfl ?_
    have h := Option.some.inj h
    subst h
    exact g_iret X hr hlk dX1_lowestFree_32 rfl rfl
  · rintro ⟨⟩ h
    dsimp only [u0] at h ⊢
    refine g_iconst (v := (-1)) X dX1_lowestFree_39 (by decide) ?_
    have h := Option.some.inj h
    subst h
    exact g_iret X hr hlk dX1_lowestFree_40 rfl rfl
  · rintro l2_1 o h hI hE hF
    dsimp only [u1] at h ⊢
    refine g_iload_n X (j := 2) dX1_lowestFree_2 rfl ?_
    refine g_aload_n X (j := 0) dX1_lowestFree_3 rfl ?_
    refine g_get (q0 := 0) (k := 9) (ci := 1) X in_X1_lowestFree_X1 fl_X1_lowestFree_40 rfl rfl (Nat.le_of_ble_eq_true rfl) rfl dX1_lowestFree_4 ?_
    refine g_icmp_ge (tgt := 39) X h dX1_lowestFree_7 (by decide) (fun h => ?_) (fun h => ?_)
    · refine g_lv (lv' := []) [] rfl ?_
      exact hF () (Option.some.inj h).symm
    · refine g_iload_n X (j := 1) dX1_lowestFree_10 rfl ?_
      refine g_iload_n X (j := 2) dX1_lowestFree_11 rfl ?_
      obtain ⟨r3, hc, h⟩ := bd1 h
      refine g_callS0 (As := [.int p1, .int l2_1]) (st := []) X (c_X1_has l D cI cS cL p1 l2_1 r3 hc) gX1_lowestFree_X1_has rfl ⟨rfl, rfl⟩ hd_X1_has.2 ⟨Nat.le_of_ble_eq_true rfl, Nat.le_of_ble_eq_true rfl⟩ ⟨Nat.zero_le _, Nat.zero_le _⟩ rfl (Nat.le_of_ble_eq_true rfl) rfl dX1_lowestFree_12 ?_
      refine jn_g h (u0 ([(a0, .inr (1, [.ref a1, .ref b0_1, .ref b0_2, .ref b0_3, .ref b0_4, .ref b0_5, .ref b0_6, .int x0_areOrdersCounted, .int x0_isAnyOrder, .int x0_size])), (a1, .inl (cI, 10, .inl f1))])) (u0 ([(0, .ref a0), (1, .int p1), (2, .int l2_1)])) (u0 ([])) 33 ?_ ?_
      · rintro ⟨⟩ h
        dsimp only [u0] at h ⊢
        refine g_iinc (j := 2) (lv' := [(2, .int (l2_1 + 1)), (0, .ref a0), (1, .int p1)]) X (l2_1 + 1) dX1_lowestFree_33 rfl rfl (by decide) rfl ?_
        refine g_goto (tgt := 2) X dX1_lowestFree_36 (by decide) ?_
        refine g_lv (lv' := [(0, .ref a0), (1, .int p1), (2, .int (l2_1 + 1))]) [1, 2, 0] rfl ?_
        exact hI (l2_1 + 1) (Option.some.inj h).symm
      · intro K4 hK4 h
        refine g_if_ne (tgt := 33) X h dX1_lowestFree_15 (by decide) (fun h => ?_) (fun h => ?_)
        · exact hK4 () h
        · refine g_aload_n X (j := 0) dX1_lowestFree_18 rfl ?_
          refine g_get (q0 := 0) (k := 0) (ci := 1) X in_X1_lowestFree_X1 fl_X1_lowestFree_9 rfl rfl (Nat.le_of_ble_eq_true rfl) rfl dX1_lowestFree_19 ?_
          refine g_iload_n X (j := 2) dX1_lowestFree_22 rfl ?_
          refine g_iald (q0 := 1) (t0 := 0) X h rfl rfl dX1_lowestFree_23 (fun v5 h => ?_)
          refine g_iload_n X (j := 1) dX1_lowestFree_24 rfl ?_
          refine g_iconst (v := (-1)) X dX1_lowestFree_25 (by decide) ?_
          refine g_ixor X dX1_lowestFree_26 ?_
          refine g_iand X dX1_lowestFree_27 ?_
          refine g_if_ne (tgt := 33) X h dX1_lowestFree_28 (by decide) (fun h => ?_) (fun h => ?_)
          · exact hK4 () h
          · refine g_lv (lv' := [(2, .int l2_1)]) [2] rfl ?_
            exact hE l2_1 (Option.some.inj h).symm
def f_X1_bookInFirstOrder (p1 : Int32) (x0_isAnyOrder : Int32) (x0_size : Int32) (f1 : Nat → Int32) : Option (Int32) := (jn (u0 (some (-1))) (fun K1 => (if x0_isAnyOrder = 0 then K1 () else (if p1 < x0_size then (f_X1_lowestFree 0 x0_size f1).bind (u1 fun (r2 : Int32) => (wl (u3 fun (l2_3 : Int32) (l3_4 : Int32) (l4_5 : Int32) => (if p1 ≤ l4_5 then some (Sum.inr l3_4) else (if l3_4 = (-1) then some (Sum.inr l3_4) else (f_X1_lowestFree (l2_3 ||| ((1 : Int32) <<< (l3_4 &&& 31))) x0_size f1).bind (u1 fun (r7 : Int32) => some (Sum.inl ((l2_3 ||| ((1 : Int32) <<< (l3_4 &&& 31))), r7, (l4_5 + 1))))))) 9999 (0, r2, 0)).bind (u1 fun (l3_6 : Int32) => some l3_6)) else K1 ()))))
theorem in_X1_bookInFirstOrder_X1 : ∀ w ∈ wsX10, w ∈ wsX1_bookInFirstOrder := by decide +kernel
theorem fl_X1_bookInFirstOrder_37 : Cond.fieldLink RX1 37 "ColophonHunt$Reading" "isAnyOrder" "Z" ∈ wsX1_bookInFirstOrder := by decide +kernel
theorem fl_X1_bookInFirstOrder_40 : Cond.fieldLink RX1 40 "ColophonHunt$Reading" "size" "I" ∈ wsX1_bookInFirstOrder := by decide +kernel
theorem hd_X1_bookInFirstOrder : yX1_bookInFirstOrder.cls = RX1 ∧ yX1_bookInFirstOrder.cls ≠ "java/lang/invoke/MethodHandle" ∧ yX1_bookInFirstOrder.cls ≠ "java/lang/invoke/VarHandle" ∧ (parseMethodDescriptor yX1_bookInFirstOrder.desc).map (fun d => d.parameters.length) = some 1 := by decide +kernel
set_option maxRecDepth 100000 in
set_option maxHeartbeats 4000000 in
theorem c_X1_bookInFirstOrder (l : Launch) (D : va_G) (cI cS cL : ClassId) (a0 : Nat) (a1 : Nat) (b0_1 : Nat) (b0_2 : Nat) (b0_3 : Nat) (b0_4 : Nat) (b0_5 : Nat) (b0_6 : Nat) (p1 : Int32) (x0_areOrdersCounted : Int32) (x0_isAnyOrder : Int32) (x0_size : Int32) (f1 : Nat → Int32) (rr : Int32) (hc : f_X1_bookInFirstOrder p1 x0_isAnyOrder x0_size f1 = some rr) : KM l yX1_bookInFirstOrder wsX1_bookInFirstOrder { frames := 2, cells := 0, slots := 0, locals := 43 } D (tyS cI cS cL) [.ref a0, .int p1] [(a0, .inr (1, [.ref a1, .ref b0_1, .ref b0_2, .ref b0_3, .ref b0_4, .ref b0_5, .ref b0_6, .int x0_areOrdersCounted, .int x0_isAnyOrder, .int x0_size])), (a1, .inl (cI, 10, .inl f1))] (some (.int rr)) (fun w => w = [(a0, .inr (1, [.ref a1, .ref b0_1, .ref b0_2, .ref b0_3, .ref b0_4, .ref b0_5, .ref b0_6, .int x0_areOrdersCounted, .int x0_isAnyOrder, .int x0_size])), (a1, .inl (cI, 10, .inl f1))]) 0 0 := by
  refine g_entry (cc := cX1_bookInFirstOrder) (nL := 5) (rt := (some .int)) (by decide) rfl (Nat.le_of_ble_eq_true rfl) ?_
  intro p e s m args below meth c A (X : GC p s m args c cX1_bookInFirstOrder 5 RX1 wsX1_bookInFirstOrder D (tyS cI cS cL) A) hr hlk _ _
  have h := hc
  unfold f_X1_bookInFirstOrder at h
  refine g_lv (lv' := [(0, .ref a0), (1, .int p1)]) [0, 1] rfl ?_
  refine g_aload_n X (j := 0) dX1_bookInFirstOrder_0 rfl ?_
  refine g_get (q0 := 0) (k := 8) (ci := 1) X in_X1_bookInFirstOrder_X1 fl_X1_bookInFirstOrder_37 rfl rfl (Nat.le_of_ble_eq_true rfl) rfl dX1_bookInFirstOrder_1 ?_
  refine jn_g h (u0 ([(a0, .inr (1, [.ref a1, .ref b0_1, .ref b0_2, .ref b0_3, .ref b0_4, .ref b0_5, .ref b0_6, .int x0_areOrdersCounted, .int x0_isAnyOrder, .int x0_size])), (a1, .inl (cI, 10, .inl f1))])) (u0 ([])) (u0 ([])) 15 ?_ ?_
  · rintro ⟨⟩ h
    dsimp only [u0] at h ⊢
    refine g_iconst (v := (-1)) X dX1_bookInFirstOrder_15 (by decide) ?_
    have h := Option.some.inj h
    subst h
    exact g_iret X hr hlk dX1_bookInFirstOrder_16 rfl rfl
  · intro K1 hK1 h
    refine g_if_eq (tgt := 15) X h dX1_bookInFirstOrder_4 (by decide) (fun h => ?_) (fun h => ?_)
    · refine g_lv (lv' := []) [] rfl ?_
      exact hK1 () h
    · refine g_iload_n X (j := 1) dX1_bookInFirstOrder_7 rfl ?_
      refine g_aload_n X (j := 0) dX1_bookInFirstOrder_8 rfl ?_
      refine g_get (q0 := 0) (k := 9) (ci := 1) X in_X1_bookInFirstOrder_X1 fl_X1_bookInFirstOrder_40 rfl rfl (Nat.le_of_ble_eq_true rfl) rfl dX1_bookInFirstOrder_9 ?_
      refine g_icmp_lt (tgt := 17) X h dX1_bookInFirstOrder_12 (by decide) (fun h => ?_) (fun h => ?_)
      · refine g_iconst (v := 0) X dX1_bookInFirstOrder_17 (by decide) ?_
        refine g_istore_n (lv' := [(2, .int 0), (0, .ref a0), (1, .int p1)]) X dX1_bookInFirstOrder_18 rfl (by decide) rfl ?_
        refine g_aload_n X (j := 1) dX1_bookInFirstOrder_19 rfl ?_
        refine g_iload_n X (j := 0) dX1_bookInFirstOrder_20 rfl ?_
        obtain ⟨r2, hc, h⟩ := bd1 h
        refine g_callV (q0 := 0) (ci := 1) (is := [0, 1]) (As := [.int 0]) (ws' := [(a0, .inr (1, [.ref a1, .ref b0_1, .ref b0_2, .ref b0_3, .ref b0_4, .ref b0_5, .ref b0_6, .int x0_areOrdersCounted, .int x0_isAnyOrder, .int x0_size])), (a1, .inl (cI, 10, .inl f1))]) (st := []) X (c_X1_lowestFree l D cI cS cL a0 a1 b0_1 b0_2 b0_3 b0_4 b0_5 b0_6 0 x0_areOrdersCounted x0_isAnyOrder x0_size f1 r2 hc) gX1_bookInFirstOrder_X1_lowestFree rfl ⟨rfl, rfl⟩ hd_X1_lowestFree (by exact ⟨Nat.le_of_ble_eq_true rfl, Nat.le_of_ble_eq_true rfl⟩) ⟨Nat.zero_le _, Nat.zero_le _⟩ rfl rfl rfl rfl rfl rfl rfl (Nat.le_of_ble_eq_true rfl) rfl dX1_bookInFirstOrder_21 ?_
        refine g_istore_n (lv' := [(3, .int r2), (2, .int 0), (0, .ref a0), (1, .int p1)]) X dX1_bookInFirstOrder_24 rfl (by decide) rfl ?_
        refine g_iconst (v := 0) X dX1_bookInFirstOrder_25 (by decide) ?_
        refine g_istore (lv' := [(4, .int 0), (3, .int r2), (2, .int 0), (0, .ref a0), (1, .int p1)]) X dX1_bookInFirstOrder_26 (by decide) rfl ?_
        refine g_lv (lv' := [(0, .ref a0), (1, .int p1), (2, .int 0), (3, .int r2), (4, .int 0)]) [3, 4, 2, 1, 0] rfl ?_
        refine wl_g1 h (u3 fun l2_3 l3_4 l4_5 => [(a0, .inr (1, [.ref a1, .ref b0_1, .ref b0_2, .ref b0_3, .ref b0_4, .ref b0_5, .ref b0_6, .int x0_areOrdersCounted, .int x0_isAnyOrder, .int x0_size])), (a1, .inl (cI, 10, .inl f1))]) (u3 fun l2_3 l3_4 l4_5 => [(0, .ref a0), (1, .int p1), (2, .int l2_3), (3, .int l3_4), (4, .int l4_5)]) rfl rfl (u1 fun l3_6 => [(a0, .inr (1, [.ref a1, .ref b0_1, .ref b0_2, .ref b0_3, .ref b0_4, .ref b0_5, .ref b0_6, .int x0_areOrdersCounted, .int x0_isAnyOrder, .int x0_size])), (a1, .inl (cI, 10, .inl f1))]) (u1 fun l3_6 => [(3, .int l3_6)]) 57 ?_ ?_
        · rintro l3_6 h
          dsimp only [u1] at h ⊢
          refine g_iload_n X (j := 0) dX1_bookInFirstOrder_57 rfl ?_
          have h := Option.some.inj h
          subst h
          exact g_iret X hr hlk dX1_bookInFirstOrder_58 rfl rfl
        · rintro ⟨l2_3, l3_4, l4_5⟩ o h hI hE
          dsimp only [u3] at h ⊢
          refine g_iload X (j := 4) dX1_bookInFirstOrder_28 rfl ?_
          refine g_iload_n X (j := 1) dX1_bookInFirstOrder_30 rfl ?_
          refine g_icmp_ge (tgt := 57) X h dX1_bookInFirstOrder_31 (by decide) (fun h => ?_) (fun h => ?_)
          · refine g_lv (lv' := [(3, .int l3_4)]) [3] rfl ?_
            exact hE l3_4 (Option.some.inj h).symm
          · refine g_iload_n X (j := 3) dX1_bookInFirstOrder_34 rfl ?_
            refine g_iconst (v := (-1)) X dX1_bookInFirstOrder_35 (by decide) ?_
            refine g_icmp_eq (tgt := 57) X h dX1_bookInFirstOrder_36 (by decide) (fun h => ?_) (fun h => ?_)
            · refine g_lv (lv' := [(3, .int l3_4)]) [3] rfl ?_
              exact hE l3_4 (Option.some.inj h).symm
            · refine g_iload_n X (j := 2) dX1_bookInFirstOrder_39 rfl ?_
              refine g_iconst (v := 1) X dX1_bookInFirstOrder_40 (by decide) ?_
              refine g_iload_n X (j := 3) dX1_bookInFirstOrder_41 rfl ?_
              refine g_ishl X dX1_bookInFirstOrder_42 ?_
              refine g_ior X dX1_bookInFirstOrder_43 ?_
              refine g_istore_n (lv' := [(2, .int (l2_3 ||| ((1 : Int32) <<< (l3_4 &&& 31)))), (0, .ref a0), (1, .int p1), (3, .int l3_4), (4, .int l4_5)]) X dX1_bookInFirstOrder_44 rfl (by decide) rfl ?_
              refine g_aload_n X (j := 1) dX1_bookInFirstOrder_45 rfl ?_
              refine g_iload_n X (j := 0) dX1_bookInFirstOrder_46 rfl ?_
              obtain ⟨r7, hc, h⟩ := bd1 h
              refine g_callV (q0 := 0) (ci := 1) (is := [0, 1]) (As := [.int (l2_3 ||| ((1 : Int32) <<< (l3_4 &&& 31)))]) (ws' := [(a0, .inr (1, [.ref a1, .ref b0_1, .ref b0_2, .ref b0_3, .ref b0_4, .ref b0_5, .ref b0_6, .int x0_areOrdersCounted, .int x0_isAnyOrder, .int x0_size])), (a1, .inl (cI, 10, .inl f1))]) (st := []) X (c_X1_lowestFree l D cI cS cL a0 a1 b0_1 b0_2 b0_3 b0_4 b0_5 b0_6 (l2_3 ||| ((1 : Int32) <<< (l3_4 &&& 31))) x0_areOrdersCounted x0_isAnyOrder x0_size f1 r7 hc) gX1_bookInFirstOrder_X1_lowestFree rfl ⟨rfl, rfl⟩ hd_X1_lowestFree (by exact ⟨Nat.le_of_ble_eq_true rfl, Nat.le_of_ble_eq_true rfl⟩) ⟨Nat.zero_le _, Nat.zero_le _⟩ rfl rfl rfl rfl rfl rfl rfl (Nat.le_of_ble_eq_true rfl) rfl dX1_bookInFirstOrder_47 ?_
              refine g_istore_n (lv' := [(3, .int r7), (2, .int (l2_3 ||| ((1 : Int32) <<< (l3_4 &&& 31)))), (0, .ref a0), (1, .int p1), (4, .int l4_5)]) X dX1_bookInFirstOrder_50 rfl (by decide) rfl ?_
              refine g_iinc (j := 4) (lv' := [(4, .int (l4_5 + 1)), (3, .int r7), (2, .int (l2_3 ||| ((1 : Int32) <<< (l3_4 &&& 31)))), (0, .ref a0), (1, .int p1)]) X (l4_5 + 1) dX1_bookInFirstOrder_51 rfl rfl (by decide) rfl ?_
              refine g_goto (tgt := 28) X dX1_bookInFirstOrder_54 (by decide) ?_
              refine g_lv (lv' := [(0, .ref a0), (1, .int p1), (2, .int (l2_3 ||| ((1 : Int32) <<< (l3_4 &&& 31)))), (3, .int r7), (4, .int (l4_5 + 1))]) [3, 4, 2, 1, 0] rfl ?_
              exact hI ((l2_3 ||| ((1 : Int32) <<< (l3_4 &&& 31))), r7, (l4_5 + 1)) (Option.some.inj h).symm
      · refine g_lv (lv' := []) [] rfl ?_
        exact hK1 () h
def f_X1_leastPlace (p1 : Int32) (x0_isAnyOrder : Int32) (f1 : Nat → Int32) : Option (Int32) := (jn (u1 fun (s1 : Int32) => some s1) (fun K2 => (if x0_isAnyOrder = 0 then K2 (-1) else (rdA f1 10 p1).bind (fun v3 => (f_J6_bitCount_0f7a4 v3).bind (u1 fun (r4 : Int32) => K2 r4)))))
theorem in_X1_leastPlace_X1 : ∀ w ∈ wsX10, w ∈ wsX1_leastPlace := by decide +kernel
theorem fl_X1_leastPlace_37 : Cond.fieldLink RX1 37 "ColophonHunt$Reading" "isAnyOrder" "Z" ∈ wsX1_leastPlace := by decide +kernel
theorem fl_X1_leastPlace_24 : Cond.fieldLink RX1 24 "ColophonHunt$Reading" "allBefore" "[I" ∈ wsX1_leastPlace := by decide +kernel
theorem hd_X1_leastPlace : yX1_leastPlace.cls = RX1 ∧ yX1_leastPlace.cls ≠ "java/lang/invoke/MethodHandle" ∧ yX1_leastPlace.cls ≠ "java/lang/invoke/VarHandle" ∧ (parseMethodDescriptor yX1_leastPlace.desc).map (fun d => d.parameters.length) = some 1 := by decide +kernel
set_option maxRecDepth 100000 in
set_option maxHeartbeats 4000000 in
theorem c_X1_leastPlace (l : Launch) (D : va_G) (cI cS cL : ClassId) (a0 : Nat) (a1 : Nat) (b0_0 : Nat) (b0_1 : Nat) (b0_2 : Nat) (b0_3 : Nat) (b0_5 : Nat) (b0_6 : Nat) (p1 : Int32) (x0_areOrdersCounted : Int32) (x0_isAnyOrder : Int32) (x0_size : Int32) (f1 : Nat → Int32) (rr : Int32) (hc : f_X1_leastPlace p1 x0_isAnyOrder f1 = some rr) : KM l yX1_leastPlace wsX1_leastPlace { frames := 1, cells := 0, slots := 0, locals := 20 } D (tyS cI cS cL) [.ref a0, .int p1] [(a0, .inr (1, [.ref b0_0, .ref b0_1, .ref b0_2, .ref b0_3, .ref a1, .ref b0_5, .ref b0_6, .int x0_areOrdersCounted, .int x0_isAnyOrder, .int x0_size])), (a1, .inl (cI, 10, .inl f1))] (some (.int rr)) (fun w => w = [(a0, .inr (1, [.ref b0_0, .ref b0_1, .ref b0_2, .ref b0_3, .ref a1, .ref b0_5, .ref b0_6, .int x0_areOrdersCounted, .int x0_isAnyOrder, .int x0_size])), (a1, .inl (cI, 10, .inl f1))]) 0 0 := by
  refine g_entry (cc := cX1_leastPlace) (nL := 2) (rt := (some .int)) (by decide) rfl (Nat.le_of_ble_eq_true rfl) ?_
  intro p e s m args below meth c A (X : GC p s m args c cX1_leastPlace 2 RX1 wsX1_leastPlace D (tyS cI cS cL) A) hr hlk _ _
  have h := hc
  unfold f_X1_leastPlace at h
  refine g_lv (lv' := [(0, .ref a0), (1, .int p1)]) [0, 1] rfl ?_
  refine g_aload_n X (j := 0) dX1_leastPlace_0 rfl ?_
  refine g_get (q0 := 0) (k := 8) (ci := 1) X in_X1_leastPlace_X1 fl_X1_leastPlace_37 rfl rfl (Nat.le_of_ble_eq_true rfl) rfl dX1_leastPlace_1 ?_
  refine jn_g h (u1 fun s1 => [(a0, .inr (1, [.ref b0_0, .ref b0_1, .ref b0_2, .ref b0_3, .ref a1, .ref b0_5, .ref b0_6, .int x0_areOrdersCounted, .int x0_isAnyOrder, .int x0_size])), (a1, .inl (cI, 10, .inl f1))]) (u1 fun s1 => []) (u1 fun s1 => [.int s1]) 20 ?_ ?_
  · rintro s1 h
    dsimp only [u1] at h ⊢
    have h := Option.some.inj h
    subst h
    exact g_iret X hr hlk dX1_leastPlace_20 rfl rfl
  · intro K2 hK2 h
    refine g_if_eq (tgt := 19) X h dX1_leastPlace_4 (by decide) (fun h => ?_) (fun h => ?_)
    · refine g_iconst (v := (-1)) X dX1_leastPlace_19 (by decide) ?_
      refine g_lv (lv' := []) [] rfl ?_
      exact hK2 (-1) h
    · refine g_aload_n X (j := 0) dX1_leastPlace_7 rfl ?_
      refine g_get (q0 := 0) (k := 4) (ci := 1) X in_X1_leastPlace_X1 fl_X1_leastPlace_24 rfl rfl (Nat.le_of_ble_eq_true rfl) rfl dX1_leastPlace_8 ?_
      refine g_iload_n X (j := 1) dX1_leastPlace_11 rfl ?_
      refine g_iald (q0 := 1) (t0 := 0) X h rfl rfl dX1_leastPlace_12 (fun v3 h => ?_)
      obtain ⟨r4, hc, h⟩ := bd1 h
      refine g_callS0 (As := [.int v3]) (st := []) X (c_J6_bitCount_0f7a4 l D cI cS cL v3 r4 hc) gX1_leastPlace_J6_bitCount_0f7a4 rfl ⟨rfl, rfl⟩ hd_J6_bitCount_0f7a4.2 ⟨Nat.le_of_ble_eq_true rfl, Nat.le_of_ble_eq_true rfl⟩ ⟨Nat.zero_le _, Nat.zero_le _⟩ rfl (Nat.le_of_ble_eq_true rfl) rfl dX1_leastPlace_13 ?_
      refine g_goto (tgt := 20) X dX1_leastPlace_16 (by decide) ?_
      refine g_lv (lv' := []) [] rfl ?_
      exact hK2 r4 h
def f_X1_greatestPlace (p1 : Int32) (x0_isAnyOrder : Int32) (x0_size : Int32) (f1 : Nat → Int32) : Option (Int32) := (jn (u1 fun (s1 : Int32) => some s1) (fun K2 => (if x0_isAnyOrder = 0 then K2 (-1) else (rdA f1 10 p1).bind (fun v3 => (f_J6_bitCount_0f7a4 v3).bind (u1 fun (r4 : Int32) => K2 ((x0_size - 1) - r4))))))
theorem in_X1_greatestPlace_X1 : ∀ w ∈ wsX10, w ∈ wsX1_greatestPlace := by decide +kernel
theorem fl_X1_greatestPlace_37 : Cond.fieldLink RX1 37 "ColophonHunt$Reading" "isAnyOrder" "Z" ∈ wsX1_greatestPlace := by decide +kernel
theorem fl_X1_greatestPlace_40 : Cond.fieldLink RX1 40 "ColophonHunt$Reading" "size" "I" ∈ wsX1_greatestPlace := by decide +kernel
theorem fl_X1_greatestPlace_27 : Cond.fieldLink RX1 27 "ColophonHunt$Reading" "allBehind" "[I" ∈ wsX1_greatestPlace := by decide +kernel
theorem hd_X1_greatestPlace : yX1_greatestPlace.cls = RX1 ∧ yX1_greatestPlace.cls ≠ "java/lang/invoke/MethodHandle" ∧ yX1_greatestPlace.cls ≠ "java/lang/invoke/VarHandle" ∧ (parseMethodDescriptor yX1_greatestPlace.desc).map (fun d => d.parameters.length) = some 1 := by decide +kernel
set_option maxRecDepth 100000 in
set_option maxHeartbeats 4000000 in
theorem c_X1_greatestPlace (l : Launch) (D : va_G) (cI cS cL : ClassId) (a0 : Nat) (a1 : Nat) (b0_0 : Nat) (b0_1 : Nat) (b0_2 : Nat) (b0_3 : Nat) (b0_4 : Nat) (b0_6 : Nat) (p1 : Int32) (x0_areOrdersCounted : Int32) (x0_isAnyOrder : Int32) (x0_size : Int32) (f1 : Nat → Int32) (rr : Int32) (hc : f_X1_greatestPlace p1 x0_isAnyOrder x0_size f1 = some rr) : KM l yX1_greatestPlace wsX1_greatestPlace { frames := 1, cells := 0, slots := 0, locals := 20 } D (tyS cI cS cL) [.ref a0, .int p1] [(a0, .inr (1, [.ref b0_0, .ref b0_1, .ref b0_2, .ref b0_3, .ref b0_4, .ref a1, .ref b0_6, .int x0_areOrdersCounted, .int x0_isAnyOrder, .int x0_size])), (a1, .inl (cI, 10, .inl f1))] (some (.int rr)) (fun w => w = [(a0, .inr (1, [.ref b0_0, .ref b0_1, .ref b0_2, .ref b0_3, .ref b0_4, .ref a1, .ref b0_6, .int x0_areOrdersCounted, .int x0_isAnyOrder, .int x0_size])), (a1, .inl (cI, 10, .inl f1))]) 0 0 := by
  refine g_entry (cc := cX1_greatestPlace) (nL := 2) (rt := (some .int)) (by decide) rfl (Nat.le_of_ble_eq_true rfl) ?_
  intro p e s m args below meth c A (X : GC p s m args c cX1_greatestPlace 2 RX1 wsX1_greatestPlace D (tyS cI cS cL) A) hr hlk _ _
  have h := hc
  unfold f_X1_greatestPlace at h
  refine g_lv (lv' := [(0, .ref a0), (1, .int p1)]) [0, 1] rfl ?_
  refine g_aload_n X (j := 0) dX1_greatestPlace_0 rfl ?_
  refine g_get (q0 := 0) (k := 8) (ci := 1) X in_X1_greatestPlace_X1 fl_X1_greatestPlace_37 rfl rfl (Nat.le_of_ble_eq_true rfl) rfl dX1_greatestPlace_1 ?_
  refine jn_g h (u1 fun s1 => [(a0, .inr (1, [.ref b0_0, .ref b0_1, .ref b0_2, .ref b0_3, .ref b0_4, .ref a1, .ref b0_6, .int x0_areOrdersCounted, .int x0_isAnyOrder, .int x0_size])), (a1, .inl (cI, 10, .inl f1))]) (u1 fun s1 => []) (u1 fun s1 => [.int s1]) 27 ?_ ?_
  · rintro s1 h
    dsimp only [u1] at h ⊢
    have h := Option.some.inj h
    subst h
    exact g_iret X hr hlk dX1_greatestPlace_27 rfl rfl
  · intro K2 hK2 h
    refine g_if_eq (tgt := 26) X h dX1_greatestPlace_4 (by decide) (fun h => ?_) (fun h => ?_)
    · refine g_iconst (v := (-1)) X dX1_greatestPlace_26 (by decide) ?_
      refine g_lv (lv' := []) [] rfl ?_
      exact hK2 (-1) h
    · refine g_aload_n X (j := 0) dX1_greatestPlace_7 rfl ?_
      refine g_get (q0 := 0) (k := 9) (ci := 1) X in_X1_greatestPlace_X1 fl_X1_greatestPlace_40 rfl rfl (Nat.le_of_ble_eq_true rfl) rfl dX1_greatestPlace_8 ?_
      refine g_iconst (v := 1) X dX1_greatestPlace_11 (by decide) ?_
      refine g_isub X dX1_greatestPlace_12 ?_
      refine g_aload_n X (j := 0) dX1_greatestPlace_13 rfl ?_
      refine g_get (q0 := 0) (k := 5) (ci := 1) X in_X1_greatestPlace_X1 fl_X1_greatestPlace_27 rfl rfl (Nat.le_of_ble_eq_true rfl) rfl dX1_greatestPlace_14 ?_
      refine g_iload_n X (j := 1) dX1_greatestPlace_17 rfl ?_
      refine g_iald (q0 := 1) (t0 := 0) X h rfl rfl dX1_greatestPlace_18 (fun v3 h => ?_)
      obtain ⟨r4, hc, h⟩ := bd1 h
      refine g_callS0 (As := [.int v3]) (st := [.int (x0_size - 1)]) X (c_J6_bitCount_0f7a4 l D cI cS cL v3 r4 hc) gX1_greatestPlace_J6_bitCount_0f7a4 rfl ⟨rfl, rfl⟩ hd_J6_bitCount_0f7a4.2 ⟨Nat.le_of_ble_eq_true rfl, Nat.le_of_ble_eq_true rfl⟩ ⟨Nat.zero_le _, Nat.zero_le _⟩ rfl (Nat.le_of_ble_eq_true rfl) rfl dX1_greatestPlace_19 ?_
      refine g_isub X dX1_greatestPlace_22 ?_
      refine g_goto (tgt := 27) X dX1_greatestPlace_23 (by decide) ?_
      refine g_lv (lv' := []) [] rfl ?_
      exact hK2 ((x0_size - 1) - r4) h
def f_X1_ordersWithFirst (p1 : Int32) (x0_areOrdersCounted : Int32) (x0_isAnyOrder : Int32) (x0_size : Int32) (f1 : Nat → Int32) (f2 : Nat → Int32) : Option (Int32 × Int32 × (Nat → Int32)) := (jn (u3 fun (w1 : Int32) (w2 : Nat → Int32) (s3 : Int32) => some (s3, w1, w2)) (fun K4 => jn (u0 (K4 (x0_areOrdersCounted, f2, 0))) (fun K5 => (if x0_isAnyOrder = 0 then K5 () else (rdA f1 10 p1).bind (fun v6 => (if v6 = 0 then (f_X1_allBooks x0_size).bind (u1 fun (r7 : Int32) => (f_X1_ordersOf (r7 ^^^ ((1 : Int32) <<< (p1 &&& 31))) x0_areOrdersCounted x0_size f1 f2).bind (u3 fun (r8 : Int32) (o9 : Int32) (o10 : Nat → Int32) => K4 (o9, o10, r8))) else K5 ()))))))
theorem in_X1_ordersWithFirst_X1 : ∀ w ∈ wsX10, w ∈ wsX1_ordersWithFirst := by decide +kernel
theorem fl_X1_ordersWithFirst_37 : Cond.fieldLink RX1 37 "ColophonHunt$Reading" "isAnyOrder" "Z" ∈ wsX1_ordersWithFirst := by decide +kernel
theorem fl_X1_ordersWithFirst_9 : Cond.fieldLink RX1 9 "ColophonHunt$Reading" "before" "[I" ∈ wsX1_ordersWithFirst := by decide +kernel
theorem hd_X1_ordersWithFirst : yX1_ordersWithFirst.cls = RX1 ∧ yX1_ordersWithFirst.cls ≠ "java/lang/invoke/MethodHandle" ∧ yX1_ordersWithFirst.cls ≠ "java/lang/invoke/VarHandle" ∧ (parseMethodDescriptor yX1_ordersWithFirst.desc).map (fun d => d.parameters.length) = some 1 := by decide +kernel
set_option maxRecDepth 100000 in
set_option maxHeartbeats 4000000 in
theorem c_X1_ordersWithFirst (l : Launch) (D : va_G) (cI cS cL : ClassId) (a0 : Nat) (a1 : Nat) (a2 : Nat) (b0_1 : Nat) (b0_2 : Nat) (b0_3 : Nat) (b0_4 : Nat) (b0_5 : Nat) (p1 : Int32) (x0_areOrdersCounted : Int32) (x0_isAnyOrder : Int32) (x0_size : Int32) (f1 : Nat → Int32) (f2 : Nat → Int32) (rr : Int32) (y0 : Int32) (y1 : Nat → Int32) (hc : f_X1_ordersWithFirst p1 x0_areOrdersCounted x0_isAnyOrder x0_size f1 f2 = some (rr, y0, y1)) : KM l yX1_ordersWithFirst wsX1_ordersWithFirst { frames := 3, cells := 0, slots := 0, locals := 65 } D (tyS cI cS cL) [.ref a0, .int p1] [(a0, .inr (1, [.ref a1, .ref b0_1, .ref b0_2, .ref b0_3, .ref b0_4, .ref b0_5, .ref a2, .int x0_areOrdersCounted, .int x0_isAnyOrder, .int x0_size])), (a1, .inl (cI, 10, .inl f1)), (a2, .inl (cI, 1024, .inl f2))] (some (.int rr)) (fun w => w = [(a0, .inr (1, [.ref a1, .ref b0_1, .ref b0_2, .ref b0_3, .ref b0_4, .ref b0_5, .ref a2, .int y0, .int x0_isAnyOrder, .int x0_size])), (a1, .inl (cI, 10, .inl f1)), (a2, .inl (cI, 1024, .inl y1))]) 0 0 := by
  refine g_entry (cc := cX1_ordersWithFirst) (nL := 2) (rt := (some .int)) (by decide) rfl (Nat.le_of_ble_eq_true rfl) ?_
  intro p e s m args below meth c A (X : GC p s m args c cX1_ordersWithFirst 2 RX1 wsX1_ordersWithFirst D (tyS cI cS cL) A) hr hlk _ _
  have h := hc
  unfold f_X1_ordersWithFirst at h
  refine g_lv (lv' := [(0, .ref a0), (1, .int p1)]) [0, 1] rfl ?_
  refine g_aload_n X (j := 0) dX1_ordersWithFirst_0 rfl ?_
  refine g_get (q0 := 0) (k := 8) (ci := 1) X in_X1_ordersWithFirst_X1 fl_X1_ordersWithFirst_37 rfl rfl (Nat.le_of_ble_eq_true rfl) rfl dX1_ordersWithFirst_1 ?_
  refine jn_g h (u3 fun w1 w2 s3 => [(a0, .inr (1, [.ref a1, .ref b0_1, .ref b0_2, .ref b0_3, .ref b0_4, .ref b0_5, .ref a2, .int w1, .int x0_isAnyOrder, .int x0_size])), (a1, .inl (cI, 10, .inl f1)), (a2, .inl (cI, 1024, .inl w2))]) (u3 fun w1 w2 s3 => []) (u3 fun w1 w2 s3 => [.int s3]) 32 ?_ ?_
  · rintro ⟨w1, w2, s3⟩ h
    dsimp only [u3] at h ⊢
    have h := Option.some.inj h
    simp only [Prod.mk.injEq] at h
    obtain ⟨rfl, rfl, rfl⟩ := h
    exact g_iret X hr hlk dX1_ordersWithFirst_32 rfl rfl
  · intro K4 hK4 h
    refine jn_g h (u0 ([(a0, .inr (1, [.ref a1, .ref b0_1, .ref b0_2, .ref b0_3, .ref b0_4, .ref b0_5, .ref a2, .int x0_areOrdersCounted, .int x0_isAnyOrder, .int x0_size])), (a1, .inl (cI, 10, .inl f1)), (a2, .inl (cI, 1024, .inl f2))])) (u0 ([])) (u0 ([])) 31 ?_ ?_
    · rintro ⟨⟩ h
      dsimp only [u0] at h ⊢
      refine g_iconst (v := 0) X dX1_ordersWithFirst_31 (by decide) ?_
      exact hK4 (x0_areOrdersCounted, f2, 0) h
    · intro K5 hK5 h
      refine g_if_eq (tgt := 31) X h dX1_ordersWithFirst_4 (by decide) (fun h => ?_) (fun h => ?_)
      · refine g_lv (lv' := []) [] rfl ?_
        exact hK5 () h
      · refine g_aload_n X (j := 0) dX1_ordersWithFirst_7 rfl ?_
        refine g_get (q0 := 0) (k := 0) (ci := 1) X in_X1_ordersWithFirst_X1 fl_X1_ordersWithFirst_9 rfl rfl (Nat.le_of_ble_eq_true rfl) rfl dX1_ordersWithFirst_8 ?_
        refine g_iload_n X (j := 1) dX1_ordersWithFirst_11 rfl ?_
        refine g_iald (q0 := 1) (t0 := 0) X h rfl rfl dX1_ordersWithFirst_12 (fun v6 h => ?_)
        refine g_if_ne (tgt := 31) X h dX1_ordersWithFirst_13 (by decide) (fun h => ?_) (fun h => ?_)
        · refine g_lv (lv' := []) [] rfl ?_
          exact hK5 () h
        · refine g_aload_n X (j := 0) dX1_ordersWithFirst_16 rfl ?_
          refine g_aload_n X (j := 0) dX1_ordersWithFirst_17 rfl ?_
          obtain ⟨r7, hc, h⟩ := bd1 h
          refine g_callV (q0 := 0) (ci := 1) (is := [0]) (As := []) (ws' := [(a0, .inr (1, [.ref a1, .ref b0_1, .ref b0_2, .ref b0_3, .ref b0_4, .ref b0_5, .ref a2, .int x0_areOrdersCounted, .int x0_isAnyOrder, .int x0_size])), (a1, .inl (cI, 10, .inl f1)), (a2, .inl (cI, 1024, .inl f2))]) (st := [.ref a0]) X (c_X1_allBooks l D cI cS cL a0 a1 b0_1 b0_2 b0_3 b0_4 b0_5 a2 x0_areOrdersCounted x0_isAnyOrder x0_size r7 hc) gX1_ordersWithFirst_X1_allBooks rfl ⟨rfl, rfl⟩ hd_X1_allBooks (by exact ⟨Nat.le_of_ble_eq_true rfl, Nat.le_of_ble_eq_true rfl⟩) ⟨Nat.zero_le _, Nat.zero_le _⟩ rfl rfl rfl rfl rfl rfl rfl (Nat.le_of_ble_eq_true rfl) rfl dX1_ordersWithFirst_18 ?_
          refine g_iconst (v := 1) X dX1_ordersWithFirst_21 (by decide) ?_
          refine g_iload_n X (j := 1) dX1_ordersWithFirst_22 rfl ?_
          refine g_ishl X dX1_ordersWithFirst_23 ?_
          refine g_ixor X dX1_ordersWithFirst_24 ?_
          obtain ⟨r8, o9, o10, hc, h⟩ := bd3 h
          refine g_callV (q0 := 0) (ci := 1) (is := [0, 1, 2]) (As := [.int (r7 ^^^ ((1 : Int32) <<< (p1 &&& 31)))]) (ws' := [(a0, .inr (1, [.ref a1, .ref b0_1, .ref b0_2, .ref b0_3, .ref b0_4, .ref b0_5, .ref a2, .int o9, .int x0_isAnyOrder, .int x0_size])), (a1, .inl (cI, 10, .inl f1)), (a2, .inl (cI, 1024, .inl o10))]) (st := []) X (c_X1_ordersOf l D cI cS cL a0 a1 a2 b0_1 b0_2 b0_3 b0_4 b0_5 (r7 ^^^ ((1 : Int32) <<< (p1 &&& 31))) x0_areOrdersCounted x0_isAnyOrder x0_size f1 f2 r8 o9 o10 hc) gX1_ordersWithFirst_X1_ordersOf rfl ⟨rfl, rfl⟩ hd_X1_ordersOf (by exact ⟨Nat.le_of_ble_eq_true rfl, Nat.le_of_ble_eq_true rfl⟩) ⟨Nat.zero_le _, Nat.zero_le _⟩ rfl rfl rfl rfl rfl rfl rfl (Nat.le_of_ble_eq_true rfl) rfl dX1_ordersWithFirst_25 ?_
          refine g_goto (tgt := 32) X dX1_ordersWithFirst_28 (by decide) ?_
          refine g_lv (lv' := []) [] rfl ?_
          exact hK4 (o9, o10, r8) h
