set_option maxRecDepth 20000 in
theorem ggX1_contradictingPairs_J6_bitCount_0f7a4 : GoodIn wsX1_contradictingPairs wsJ6_bitCount_0f7a4 := goodIn_r _ [7, 8, 9, 10] (by decide +kernel) (by decide +kernel)
set_option maxRecDepth 20000 in
theorem gX1_contradictingPairs_J6_bitCount_0f7a4 : GoodIn wsX1_contradictingPairs (va_wsS RX1 80 yJ6_bitCount_0f7a4 wsJ6_bitCount_0f7a4) := goodIn_app (goodIn_of _ (by decide +kernel)) ggX1_contradictingPairs_J6_bitCount_0f7a4
theorem dX1_contradictingPairs_0 : decode cX1_contradictingPairs 0 = .ok (.iconst 0, 1) := by decide +kernel
theorem dX1_contradictingPairs_1 : decode cX1_contradictingPairs 1 = .ok (.istore_n 1, 1) := by decide +kernel
theorem dX1_contradictingPairs_2 : decode cX1_contradictingPairs 2 = .ok (.iconst 0, 1) := by decide +kernel
theorem dX1_contradictingPairs_3 : decode cX1_contradictingPairs 3 = .ok (.istore_n 2, 1) := by decide +kernel
theorem dX1_contradictingPairs_4 : decode cX1_contradictingPairs 4 = .ok (.iload_n 2, 1) := by decide +kernel
theorem dX1_contradictingPairs_5 : decode cX1_contradictingPairs 5 = .ok (.aload_n 0, 1) := by decide +kernel
theorem dX1_contradictingPairs_6 : decode cX1_contradictingPairs 6 = .ok (.getfield 40, 3) := by decide +kernel
theorem dX1_contradictingPairs_9 : decode cX1_contradictingPairs 9 = .ok (.if_icmp .ge 28, 3) := by decide +kernel
theorem dX1_contradictingPairs_12 : decode cX1_contradictingPairs 12 = .ok (.iload_n 1, 1) := by decide +kernel
theorem dX1_contradictingPairs_13 : decode cX1_contradictingPairs 13 = .ok (.aload_n 0, 1) := by decide +kernel
theorem dX1_contradictingPairs_14 : decode cX1_contradictingPairs 14 = .ok (.getfield 9, 3) := by decide +kernel
theorem dX1_contradictingPairs_17 : decode cX1_contradictingPairs 17 = .ok (.iload_n 2, 1) := by decide +kernel
theorem dX1_contradictingPairs_18 : decode cX1_contradictingPairs 18 = .ok (.iaload, 1) := by decide +kernel
theorem dX1_contradictingPairs_19 : decode cX1_contradictingPairs 19 = .ok (.aload_n 0, 1) := by decide +kernel
theorem dX1_contradictingPairs_20 : decode cX1_contradictingPairs 20 = .ok (.getfield 15, 3) := by decide +kernel
theorem dX1_contradictingPairs_23 : decode cX1_contradictingPairs 23 = .ok (.iload_n 2, 1) := by decide +kernel
theorem dX1_contradictingPairs_24 : decode cX1_contradictingPairs 24 = .ok (.iaload, 1) := by decide +kernel
theorem dX1_contradictingPairs_25 : decode cX1_contradictingPairs 25 = .ok (.iand, 1) := by decide +kernel
theorem dX1_contradictingPairs_26 : decode cX1_contradictingPairs 26 = .ok (.invokestatic 80, 3) := by decide +kernel
theorem dX1_contradictingPairs_29 : decode cX1_contradictingPairs 29 = .ok (.iadd, 1) := by decide +kernel
theorem dX1_contradictingPairs_30 : decode cX1_contradictingPairs 30 = .ok (.istore_n 1, 1) := by decide +kernel
theorem dX1_contradictingPairs_31 : decode cX1_contradictingPairs 31 = .ok (.iinc 2 1, 3) := by decide +kernel
theorem dX1_contradictingPairs_34 : decode cX1_contradictingPairs 34 = .ok (.goto (-30), 3) := by decide +kernel
theorem dX1_contradictingPairs_37 : decode cX1_contradictingPairs 37 = .ok (.iload_n 1, 1) := by decide +kernel
theorem dX1_contradictingPairs_38 : decode cX1_contradictingPairs 38 = .ok (.iconst 2, 1) := by decide +kernel
theorem dX1_contradictingPairs_39 : decode cX1_contradictingPairs 39 = .ok (.idiv, 1) := by decide +kernel
theorem dX1_contradictingPairs_40 : decode cX1_contradictingPairs 40 = .ok (.ireturn, 1) := by decide +kernel
set_option maxRecDepth 20000 in
theorem ggX1_orderedPairs_J6_bitCount_0f7a4 : GoodIn wsX1_orderedPairs wsJ6_bitCount_0f7a4 := goodIn_r _ [7, 8, 9, 10] (by decide +kernel) (by decide +kernel)
set_option maxRecDepth 20000 in
theorem gX1_orderedPairs_J6_bitCount_0f7a4 : GoodIn wsX1_orderedPairs (va_wsS RX1 80 yJ6_bitCount_0f7a4 wsJ6_bitCount_0f7a4) := goodIn_app (goodIn_of _ (by decide +kernel)) ggX1_orderedPairs_J6_bitCount_0f7a4
theorem dX1_orderedPairs_0 : decode cX1_orderedPairs 0 = .ok (.iconst 0, 1) := by decide +kernel
theorem dX1_orderedPairs_1 : decode cX1_orderedPairs 1 = .ok (.istore_n 1, 1) := by decide +kernel
theorem dX1_orderedPairs_2 : decode cX1_orderedPairs 2 = .ok (.iconst 0, 1) := by decide +kernel
theorem dX1_orderedPairs_3 : decode cX1_orderedPairs 3 = .ok (.istore_n 2, 1) := by decide +kernel
theorem dX1_orderedPairs_4 : decode cX1_orderedPairs 4 = .ok (.iload_n 2, 1) := by decide +kernel
theorem dX1_orderedPairs_5 : decode cX1_orderedPairs 5 = .ok (.aload_n 0, 1) := by decide +kernel
theorem dX1_orderedPairs_6 : decode cX1_orderedPairs 6 = .ok (.getfield 40, 3) := by decide +kernel
theorem dX1_orderedPairs_9 : decode cX1_orderedPairs 9 = .ok (.if_icmp .ge 30, 3) := by decide +kernel
theorem dX1_orderedPairs_12 : decode cX1_orderedPairs 12 = .ok (.iload_n 1, 1) := by decide +kernel
theorem dX1_orderedPairs_13 : decode cX1_orderedPairs 13 = .ok (.aload_n 0, 1) := by decide +kernel
theorem dX1_orderedPairs_14 : decode cX1_orderedPairs 14 = .ok (.getfield 9, 3) := by decide +kernel
theorem dX1_orderedPairs_17 : decode cX1_orderedPairs 17 = .ok (.iload_n 2, 1) := by decide +kernel
theorem dX1_orderedPairs_18 : decode cX1_orderedPairs 18 = .ok (.iaload, 1) := by decide +kernel
theorem dX1_orderedPairs_19 : decode cX1_orderedPairs 19 = .ok (.aload_n 0, 1) := by decide +kernel
theorem dX1_orderedPairs_20 : decode cX1_orderedPairs 20 = .ok (.getfield 15, 3) := by decide +kernel
theorem dX1_orderedPairs_23 : decode cX1_orderedPairs 23 = .ok (.iload_n 2, 1) := by decide +kernel
theorem dX1_orderedPairs_24 : decode cX1_orderedPairs 24 = .ok (.iaload, 1) := by decide +kernel
theorem dX1_orderedPairs_25 : decode cX1_orderedPairs 25 = .ok (.iconst (-1), 1) := by decide +kernel
theorem dX1_orderedPairs_26 : decode cX1_orderedPairs 26 = .ok (.ixor, 1) := by decide +kernel
theorem dX1_orderedPairs_27 : decode cX1_orderedPairs 27 = .ok (.iand, 1) := by decide +kernel
theorem dX1_orderedPairs_28 : decode cX1_orderedPairs 28 = .ok (.invokestatic 80, 3) := by decide +kernel
theorem dX1_orderedPairs_31 : decode cX1_orderedPairs 31 = .ok (.iadd, 1) := by decide +kernel
theorem dX1_orderedPairs_32 : decode cX1_orderedPairs 32 = .ok (.istore_n 1, 1) := by decide +kernel
theorem dX1_orderedPairs_33 : decode cX1_orderedPairs 33 = .ok (.iinc 2 1, 3) := by decide +kernel
theorem dX1_orderedPairs_36 : decode cX1_orderedPairs 36 = .ok (.goto (-32), 3) := by decide +kernel
theorem dX1_orderedPairs_39 : decode cX1_orderedPairs 39 = .ok (.iload_n 1, 1) := by decide +kernel
theorem dX1_orderedPairs_40 : decode cX1_orderedPairs 40 = .ok (.ireturn, 1) := by decide +kernel
set_option maxRecDepth 20000 in
theorem ggX1_ordersOf_X1_countOrdersOfSets : GoodIn wsX1_ordersOf wsX1_countOrdersOfSets := goodIn_r _ [7, 2, 8, 9, 10, 11, 12, 6, 13, 14, 15, 16, 17, 18, 19, 20, 21, 22, 23, 24, 25, 26] (by decide +kernel) (by decide +kernel)
set_option maxRecDepth 20000 in
theorem gX1_ordersOf_X1_countOrdersOfSets : GoodIn wsX1_ordersOf (wsV RX1 93 RX1 yX1_countOrdersOfSets wsX1_countOrdersOfSets) := goodIn_app (goodIn_of _ (by decide +kernel)) ggX1_ordersOf_X1_countOrdersOfSets
theorem dX1_ordersOf_0 : decode cX1_ordersOf 0 = .ok (.aload_n 0, 1) := by decide +kernel
theorem dX1_ordersOf_1 : decode cX1_ordersOf 1 = .ok (.getfield 33, 3) := by decide +kernel
theorem dX1_ordersOf_4 : decode cX1_ordersOf 4 = .ok (.ifCond .ne 12, 3) := by decide +kernel
theorem dX1_ordersOf_7 : decode cX1_ordersOf 7 = .ok (.aload_n 0, 1) := by decide +kernel
theorem dX1_ordersOf_8 : decode cX1_ordersOf 8 = .ok (.invokevirtual 93, 3) := by decide +kernel
theorem dX1_ordersOf_11 : decode cX1_ordersOf 11 = .ok (.aload_n 0, 1) := by decide +kernel
theorem dX1_ordersOf_12 : decode cX1_ordersOf 12 = .ok (.iconst 1, 1) := by decide +kernel
theorem dX1_ordersOf_13 : decode cX1_ordersOf 13 = .ok (.putfield 33, 3) := by decide +kernel
theorem dX1_ordersOf_16 : decode cX1_ordersOf 16 = .ok (.iload_n 1, 1) := by decide +kernel
theorem dX1_ordersOf_17 : decode cX1_ordersOf 17 = .ok (.ifCond .lt 19, 3) := by decide +kernel
theorem dX1_ordersOf_20 : decode cX1_ordersOf 20 = .ok (.iload_n 1, 1) := by decide +kernel
theorem dX1_ordersOf_21 : decode cX1_ordersOf 21 = .ok (.sipush 1024, 3) := by decide +kernel
theorem dX1_ordersOf_24 : decode cX1_ordersOf 24 = .ok (.if_icmp .ge 12, 3) := by decide +kernel
theorem dX1_ordersOf_27 : decode cX1_ordersOf 27 = .ok (.aload_n 0, 1) := by decide +kernel
theorem dX1_ordersOf_28 : decode cX1_ordersOf 28 = .ok (.getfield 30, 3) := by decide +kernel
theorem dX1_ordersOf_31 : decode cX1_ordersOf 31 = .ok (.iload_n 1, 1) := by decide +kernel
theorem dX1_ordersOf_32 : decode cX1_ordersOf 32 = .ok (.iaload, 1) := by decide +kernel
theorem dX1_ordersOf_33 : decode cX1_ordersOf 33 = .ok (.goto 4, 3) := by decide +kernel
theorem dX1_ordersOf_36 : decode cX1_ordersOf 36 = .ok (.iconst 0, 1) := by decide +kernel
theorem dX1_ordersOf_37 : decode cX1_ordersOf 37 = .ok (.ireturn, 1) := by decide +kernel
set_option maxRecDepth 20000 in
theorem ggX1_countOrdersOfSets_X1_allBooks : GoodIn wsX1_countOrdersOfSets wsX1_allBooks := goodIn_r _ [8, 2, 12, 13, 14, 15, 16, 17, 18, 19, 20, 21] (by decide +kernel) (by decide +kernel)
set_option maxRecDepth 20000 in
theorem gX1_countOrdersOfSets_X1_allBooks : GoodIn wsX1_countOrdersOfSets (wsV RX1 86 RX1 yX1_allBooks wsX1_allBooks) := goodIn_app (goodIn_of _ (by decide +kernel)) ggX1_countOrdersOfSets_X1_allBooks
set_option maxRecDepth 20000 in
theorem ggX1_countOrdersOfSets_X1_has : GoodIn wsX1_countOrdersOfSets wsX1_has := goodIn_r _ [11] (by decide +kernel) (by decide +kernel)
set_option maxRecDepth 20000 in
theorem gX1_countOrdersOfSets_X1_has : GoodIn wsX1_countOrdersOfSets (va_wsS RX1 61 yX1_has wsX1_has) := goodIn_app (goodIn_of _ (by decide +kernel)) ggX1_countOrdersOfSets_X1_has
theorem dX1_countOrdersOfSets_0 : decode cX1_countOrdersOfSets 0 = .ok (.aload_n 0, 1) := by decide +kernel
theorem dX1_countOrdersOfSets_1 : decode cX1_countOrdersOfSets 1 = .ok (.getfield 30, 3) := by decide +kernel
theorem dX1_countOrdersOfSets_4 : decode cX1_countOrdersOfSets 4 = .ok (.iconst 0, 1) := by decide +kernel
theorem dX1_countOrdersOfSets_5 : decode cX1_countOrdersOfSets 5 = .ok (.iconst 1, 1) := by decide +kernel
theorem dX1_countOrdersOfSets_6 : decode cX1_countOrdersOfSets 6 = .ok (.iastore, 1) := by decide +kernel
theorem dX1_countOrdersOfSets_7 : decode cX1_countOrdersOfSets 7 = .ok (.iconst 1, 1) := by decide +kernel
theorem dX1_countOrdersOfSets_8 : decode cX1_countOrdersOfSets 8 = .ok (.istore_n 1, 1) := by decide +kernel
theorem dX1_countOrdersOfSets_9 : decode cX1_countOrdersOfSets 9 = .ok (.iload_n 1, 1) := by decide +kernel
theorem dX1_countOrdersOfSets_10 : decode cX1_countOrdersOfSets 10 = .ok (.aload_n 0, 1) := by decide +kernel
theorem dX1_countOrdersOfSets_11 : decode cX1_countOrdersOfSets 11 = .ok (.invokevirtual 86, 3) := by decide +kernel
theorem dX1_countOrdersOfSets_14 : decode cX1_countOrdersOfSets 14 = .ok (.if_icmp .gt 66, 3) := by decide +kernel
theorem dX1_countOrdersOfSets_17 : decode cX1_countOrdersOfSets 17 = .ok (.iconst 0, 1) := by decide +kernel
theorem dX1_countOrdersOfSets_18 : decode cX1_countOrdersOfSets 18 = .ok (.istore_n 2, 1) := by decide +kernel
theorem dX1_countOrdersOfSets_19 : decode cX1_countOrdersOfSets 19 = .ok (.iconst 0, 1) := by decide +kernel
theorem dX1_countOrdersOfSets_20 : decode cX1_countOrdersOfSets 20 = .ok (.istore_n 3, 1) := by decide +kernel
theorem dX1_countOrdersOfSets_21 : decode cX1_countOrdersOfSets 21 = .ok (.iload_n 3, 1) := by decide +kernel
theorem dX1_countOrdersOfSets_22 : decode cX1_countOrdersOfSets 22 = .ok (.aload_n 0, 1) := by decide +kernel
theorem dX1_countOrdersOfSets_23 : decode cX1_countOrdersOfSets 23 = .ok (.getfield 40, 3) := by decide +kernel
theorem dX1_countOrdersOfSets_26 : decode cX1_countOrdersOfSets 26 = .ok (.if_icmp .ge 41, 3) := by decide +kernel
theorem dX1_countOrdersOfSets_29 : decode cX1_countOrdersOfSets 29 = .ok (.iload_n 1, 1) := by decide +kernel
theorem dX1_countOrdersOfSets_30 : decode cX1_countOrdersOfSets 30 = .ok (.iload_n 3, 1) := by decide +kernel
theorem dX1_countOrdersOfSets_31 : decode cX1_countOrdersOfSets 31 = .ok (.invokestatic 61, 3) := by decide +kernel
theorem dX1_countOrdersOfSets_34 : decode cX1_countOrdersOfSets 34 = .ok (.ifCond .eq 27, 3) := by decide +kernel
theorem dX1_countOrdersOfSets_37 : decode cX1_countOrdersOfSets 37 = .ok (.aload_n 0, 1) := by decide +kernel
theorem dX1_countOrdersOfSets_38 : decode cX1_countOrdersOfSets 38 = .ok (.getfield 9, 3) := by decide +kernel
theorem dX1_countOrdersOfSets_41 : decode cX1_countOrdersOfSets 41 = .ok (.iload_n 3, 1) := by decide +kernel
theorem dX1_countOrdersOfSets_42 : decode cX1_countOrdersOfSets 42 = .ok (.iaload, 1) := by decide +kernel
theorem dX1_countOrdersOfSets_43 : decode cX1_countOrdersOfSets 43 = .ok (.iload_n 1, 1) := by decide +kernel
theorem dX1_countOrdersOfSets_44 : decode cX1_countOrdersOfSets 44 = .ok (.iand, 1) := by decide +kernel
theorem dX1_countOrdersOfSets_45 : decode cX1_countOrdersOfSets 45 = .ok (.ifCond .ne 16, 3) := by decide +kernel
theorem dX1_countOrdersOfSets_48 : decode cX1_countOrdersOfSets 48 = .ok (.iload_n 2, 1) := by decide +kernel
theorem dX1_countOrdersOfSets_49 : decode cX1_countOrdersOfSets 49 = .ok (.aload_n 0, 1) := by decide +kernel
theorem dX1_countOrdersOfSets_50 : decode cX1_countOrdersOfSets 50 = .ok (.getfield 30, 3) := by decide +kernel
theorem dX1_countOrdersOfSets_53 : decode cX1_countOrdersOfSets 53 = .ok (.iload_n 1, 1) := by decide +kernel
theorem dX1_countOrdersOfSets_54 : decode cX1_countOrdersOfSets 54 = .ok (.iconst 1, 1) := by decide +kernel
theorem dX1_countOrdersOfSets_55 : decode cX1_countOrdersOfSets 55 = .ok (.iload_n 3, 1) := by decide +kernel
theorem dX1_countOrdersOfSets_56 : decode cX1_countOrdersOfSets 56 = .ok (.ishl, 1) := by decide +kernel
theorem dX1_countOrdersOfSets_57 : decode cX1_countOrdersOfSets 57 = .ok (.ixor, 1) := by decide +kernel
theorem dX1_countOrdersOfSets_58 : decode cX1_countOrdersOfSets 58 = .ok (.iaload, 1) := by decide +kernel
theorem dX1_countOrdersOfSets_59 : decode cX1_countOrdersOfSets 59 = .ok (.iadd, 1) := by decide +kernel
theorem dX1_countOrdersOfSets_60 : decode cX1_countOrdersOfSets 60 = .ok (.istore_n 2, 1) := by decide +kernel
theorem dX1_countOrdersOfSets_61 : decode cX1_countOrdersOfSets 61 = .ok (.iinc 3 1, 3) := by decide +kernel
theorem dX1_countOrdersOfSets_64 : decode cX1_countOrdersOfSets 64 = .ok (.goto (-43), 3) := by decide +kernel
theorem dX1_countOrdersOfSets_67 : decode cX1_countOrdersOfSets 67 = .ok (.aload_n 0, 1) := by decide +kernel
theorem dX1_countOrdersOfSets_68 : decode cX1_countOrdersOfSets 68 = .ok (.getfield 30, 3) := by decide +kernel
theorem dX1_countOrdersOfSets_71 : decode cX1_countOrdersOfSets 71 = .ok (.iload_n 1, 1) := by decide +kernel
theorem dX1_countOrdersOfSets_72 : decode cX1_countOrdersOfSets 72 = .ok (.iload_n 2, 1) := by decide +kernel
theorem dX1_countOrdersOfSets_73 : decode cX1_countOrdersOfSets 73 = .ok (.iastore, 1) := by decide +kernel
theorem dX1_countOrdersOfSets_74 : decode cX1_countOrdersOfSets 74 = .ok (.iinc 1 1, 3) := by decide +kernel
theorem dX1_countOrdersOfSets_77 : decode cX1_countOrdersOfSets 77 = .ok (.goto (-68), 3) := by decide +kernel
theorem dX1_countOrdersOfSets_80 : decode cX1_countOrdersOfSets 80 = .ok (.return_, 1) := by decide +kernel
def f_X1_contradictingPairs (x0_size : Int32) (f1 : Nat → Int32) (f2 : Nat → Int32) : Option (Int32) := (wl (u2 fun (l1_1 : Int32) (l2_2 : Int32) => (if x0_size ≤ l2_2 then some (Sum.inr l1_1) else (rdA f1 10 l2_2).bind (fun v4 => (rdA f2 10 l2_2).bind (fun v5 => (f_J6_bitCount_0f7a4 (v4 &&& v5)).bind (u1 fun (r6 : Int32) => some (Sum.inl ((l1_1 + r6), (l2_2 + 1)))))))) 9999 (0, 0)).bind (u1 fun (l1_3 : Int32) => gZ 2 (some (l1_3 / 2)))
theorem in_X1_contradictingPairs_X1 : ∀ w ∈ wsX10, w ∈ wsX1_contradictingPairs := by decide +kernel
theorem fl_X1_contradictingPairs_40 : Cond.fieldLink RX1 40 "ColophonHunt$Reading" "size" "I" ∈ wsX1_contradictingPairs := by decide +kernel
theorem fl_X1_contradictingPairs_9 : Cond.fieldLink RX1 9 "ColophonHunt$Reading" "before" "[I" ∈ wsX1_contradictingPairs := by decide +kernel
theorem fl_X1_contradictingPairs_15 : Cond.fieldLink RX1 15 "ColophonHunt$Reading" "behind" "[I" ∈ wsX1_contradictingPairs := by decide +kernel
theorem hd_X1_contradictingPairs : yX1_contradictingPairs.cls = RX1 ∧ yX1_contradictingPairs.cls ≠ "java/lang/invoke/MethodHandle" ∧ yX1_contradictingPairs.cls ≠ "java/lang/invoke/VarHandle" ∧ (parseMethodDescriptor yX1_contradictingPairs.desc).map (fun d => d.parameters.length) = some 0 := by decide +kernel
set_option maxRecDepth 100000 in
set_option maxHeartbeats 4000000 in
theorem c_X1_contradictingPairs (l : Launch) (D : va_G) (cI cS cL : ClassId) (a0 : Nat) (a1 : Nat) (a2 : Nat) (b0_2 : Nat) (b0_3 : Nat) (b0_4 : Nat) (b0_5 : Nat) (b0_6 : Nat) (x0_areOrdersCounted : Int32) (x0_isAnyOrder : Int32) (x0_size : Int32) (f1 : Nat → Int32) (f2 : Nat → Int32) (rr : Int32) (hc : f_X1_contradictingPairs x0_size f1 f2 = some rr) : KM l yX1_contradictingPairs wsX1_contradictingPairs { frames := 1, cells := 0, slots := 0, locals := 20 } D (tyS cI cS cL) [.ref a0] [(a0, .inr (1, [.ref a1, .ref a2, .ref b0_2, .ref b0_3, .ref b0_4, .ref b0_5, .ref b0_6, .int x0_areOrdersCounted, .int x0_isAnyOrder, .int x0_size])), (a1, .inl (cI, 10, .inl f1)), (a2, .inl (cI, 10, .inl f2))] (some (.int rr)) (fun w => w = [(a0, .inr (1, [.ref a1, .ref a2, .ref b0_2, .ref b0_3, .ref b0_4, .ref b0_5, .ref b0_6, .int x0_areOrdersCounted, .int x0_isAnyOrder, .int x0_size])), (a1, .inl (cI, 10, .inl f1)), (a2, .inl (cI, 10, .inl f2))]) 0 0 := by
  refine g_entry (cc := cX1_contradictingPairs) (nL := 3) (rt := (some .int)) (by decide) rfl (Nat.le_of_ble_eq_true rfl) ?_
  intro p e s m args below meth c A (X : GC p s m args c cX1_contradictingPairs 3 RX1 wsX1_contradictingPairs D (tyS cI cS cL) A) hr hlk _ _
  have h := hc
  unfold f_X1_contradictingPairs at h
  refine g_lv (lv' := [(0, .ref a0)]) [0] rfl ?_
  refine g_iconst (v := 0) X dX1_contradictingPairs_0 (by decide) ?_
  refine g_istore_n (lv' := [(1, .int 0), (0, .ref a0)]) X dX1_contradictingPairs_1 rfl (by decide) rfl ?_
  refine g_iconst (v := 0) X dX1_contradictingPairs_2 (by decide) ?_
  refine g_istore_n (lv' := [(2, .int 0), (1, .int 0), (0, .ref a0)]) X dX1_contradictingPairs_3 rfl (by decide) rfl ?_
  refine g_lv (lv' := [(0, .ref a0), (1, .int 0), (2, .int 0)]) [2, 1, 0] rfl ?_
  refine wl_g1 h (u2 fun l1_1 l2_2 => [(a0, .inr (1, [.ref a1, .ref a2, .ref b0_2, .ref b0_3, .ref b0_4, .ref b0_5, .ref b0_6, .int x0_areOrdersCounted, .int x0_isAnyOrder, .int x0_size])), (a1, .inl (cI, 10, .inl f1)), (a2, .inl (cI, 10, .inl f2))]) (u2 fun l1_1 l2_2 => [(0, .ref a0), (1, .int l1_1), (2, .int l2_2)]) rfl rfl (u1 fun l1_3 => [(a0, .inr (1, [.ref a1, .ref a2, .ref b0_2, .ref b0_3, .ref b0_4, .ref b0_5, .ref b0_6, .int x0_areOrdersCounted, .int x0_isAnyOrder, .int x0_size])), (a1, .inl (cI, 10, .inl f1)), (a2, .inl (cI, 10, .inl f2))]) (u1 fun l1_3 => [(1, .int l1_3)]) 37 ?_ ?_
  · rintro l1_3 h
    dsimp only [u1] at h ⊢
    refine g_iload_n X (j := 0) dX1_contradictingPairs_37 rfl ?_
    refine g_iconst (v := 2) X dX1_contradictingPairs_38 (by decide) ?_
    refine g_idiv X h dX1_contradictingPairs_39 (fun h => ?_)
    have h := Option.some.inj h
    subst h
    exact g_iret X hr hlk dX1_contradictingPairs_40 rfl rfl
  · rintro ⟨l1_1, l2_2⟩ o h hI hE
    dsimp only [u2] at h ⊢
    refine g_iload_n X (j := 2) dX1_contradictingPairs_4 rfl ?_
    refine g_aload_n X (j := 0) dX1_contradictingPairs_5 rfl ?_
    refine g_get (q0 := 0) (k := 9) (ci := 1) X in_X1_contradictingPairs_X1 fl_X1_contradictingPairs_40 rfl rfl (Nat.le_of_ble_eq_true rfl) rfl dX1_contradictingPairs_6 ?_
    refine g_icmp_ge (tgt := 37) X h dX1_contradictingPairs_9 (by decide) (fun h => ?_) (fun h => ?_)
    · refine g_lv (lv' := [(1, .int l1_1)]) [1] rfl ?_
      exact hE l1_1 (Option.some.inj h).symm
    · refine g_iload_n X (j := 1) dX1_contradictingPairs_12 rfl ?_
      refine g_aload_n X (j := 0) dX1_contradictingPairs_13 rfl ?_
      refine g_get (q0 := 0) (k := 0) (ci := 1) X in_X1_contradictingPairs_X1 fl_X1_contradictingPairs_9 rfl rfl (Nat.le_of_ble_eq_true rfl) rfl dX1_contradictingPairs_14 ?_
      refine g_iload_n X (j := 2) dX1_contradictingPairs_17 rfl ?_
      refine g_iald (q0 := 1) (t0 := 0) X h rfl rfl dX1_contradictingPairs_18 (fun v4 h => ?_)
      refine g_aload_n X (j := 0) dX1_contradictingPairs_19 rfl ?_
      refine g_get (q0 := 0) (k := 1) (ci := 1) X in_X1_contradictingPairs_X1 fl_X1_contradictingPairs_15 rfl rfl (Nat.le_of_ble_eq_true rfl) rfl dX1_contradictingPairs_20 ?_
      refine g_iload_n X (j := 2) dX1_contradictingPairs_23 rfl ?_
      refine g_iald (q0 := 2) (t0 := 0) X h rfl rfl dX1_contradictingPairs_24 (fun v5 h => ?_)
      refine g_iand X dX1_contradictingPairs_25 ?_
      obtain ⟨r6, hc, h⟩ := bd1 h
      refine g_callS0 (As := [.int (v4 &&& v5)]) (st := [.int l1_1]) X (c_J6_bitCount_0f7a4 l D cI cS cL (v4 &&& v5) r6 hc) gX1_contradictingPairs_J6_bitCount_0f7a4 rfl ⟨rfl, rfl⟩ hd_J6_bitCount_0f7a4.2 ⟨Nat.le_of_ble_eq_true rfl, Nat.le_of_ble_eq_true rfl⟩ ⟨Nat.zero_le _, Nat.zero_le _⟩ rfl (Nat.le_of_ble_eq_true rfl) rfl dX1_contradictingPairs_26 ?_
      refine g_iadd X dX1_contradictingPairs_29 ?_
      refine g_istore_n (lv' := [(1, .int (l1_1 + r6)), (0, .ref a0), (2, .int l2_2)]) X dX1_contradictingPairs_30 rfl (by decide) rfl ?_
      refine g_iinc (j := 2) (lv' := [(2, .int (l2_2 + 1)), (1, .int (l1_1 + r6)), (0, .ref a0)]) X (l2_2 + 1) dX1_contradictingPairs_31 rfl rfl (by decide) rfl ?_
      refine g_goto (tgt := 4) X dX1_contradictingPairs_34 (by decide) ?_
      refine g_lv (lv' := [(0, .ref a0), (1, .int (l1_1 + r6)), (2, .int (l2_2 + 1))]) [2, 1, 0] rfl ?_
      exact hI ((l1_1 + r6), (l2_2 + 1)) (Option.some.inj h).symm
def f_X1_orderedPairs (x0_size : Int32) (f1 : Nat → Int32) (f2 : Nat → Int32) : Option (Int32) := (wl (u2 fun (l1_1 : Int32) (l2_2 : Int32) => (if x0_size ≤ l2_2 then some (Sum.inr l1_1) else (rdA f1 10 l2_2).bind (fun v4 => (rdA f2 10 l2_2).bind (fun v5 => (f_J6_bitCount_0f7a4 (v4 &&& (v5 ^^^ (-1)))).bind (u1 fun (r6 : Int32) => some (Sum.inl ((l1_1 + r6), (l2_2 + 1)))))))) 9999 (0, 0)).bind (u1 fun (l1_3 : Int32) => some l1_3)
theorem in_X1_orderedPairs_X1 : ∀ w ∈ wsX10, w ∈ wsX1_orderedPairs := by decide +kernel
theorem fl_X1_orderedPairs_40 : Cond.fieldLink RX1 40 "ColophonHunt$Reading" "size" "I" ∈ wsX1_orderedPairs := by decide +kernel
theorem fl_X1_orderedPairs_9 : Cond.fieldLink RX1 9 "ColophonHunt$Reading" "before" "[I" ∈ wsX1_orderedPairs := by decide +kernel
theorem fl_X1_orderedPairs_15 : Cond.fieldLink RX1 15 "ColophonHunt$Reading" "behind" "[I" ∈ wsX1_orderedPairs := by decide +kernel
theorem hd_X1_orderedPairs : yX1_orderedPairs.cls = RX1 ∧ yX1_orderedPairs.cls ≠ "java/lang/invoke/MethodHandle" ∧ yX1_orderedPairs.cls ≠ "java/lang/invoke/VarHandle" ∧ (parseMethodDescriptor yX1_orderedPairs.desc).map (fun d => d.parameters.length) = some 0 := by decide +kernel
set_option maxRecDepth 100000 in
set_option maxHeartbeats 4000000 in
theorem c_X1_orderedPairs (l : Launch) (D : va_G) (cI cS cL : ClassId) (a0 : Nat) (a1 : Nat) (a2 : Nat) (b0_2 : Nat) (b0_3 : Nat) (b0_4 : Nat) (b0_5 : Nat) (b0_6 : Nat) (x0_areOrdersCounted : Int32) (x0_isAnyOrder : Int32) (x0_size : Int32) (f1 : Nat → Int32) (f2 : Nat → Int32) (rr : Int32) (hc : f_X1_orderedPairs x0_size f1 f2 = some rr) : KM l yX1_orderedPairs wsX1_orderedPairs { frames := 1, cells := 0, slots := 0, locals := 20 } D (tyS cI cS cL) [.ref a0] [(a0, .inr (1, [.ref a1, .ref a2, .ref b0_2, .ref b0_3, .ref b0_4, .ref b0_5, .ref b0_6, .int x0_areOrdersCounted, .int x0_isAnyOrder, .int x0_size])), (a1, .inl (cI, 10, .inl f1)), (a2, .inl (cI, 10, .inl f2))] (some (.int rr)) (fun w => w = [(a0, .inr (1, [.ref a1, .ref a2, .ref b0_2, .ref b0_3, .ref b0_4, .ref b0_5, .ref b0_6, .int x0_areOrdersCounted, .int x0_isAnyOrder, .int x0_size])), (a1, .inl (cI, 10, .inl f1)), (a2, .inl (cI, 10, .inl f2))]) 0 0 := by
  refine g_entry (cc := cX1_orderedPairs) (nL := 3) (rt := (some .int)) (by decide) rfl (Nat.le_of_ble_eq_true rfl) ?_
  intro p e s m args below meth c A (X : GC p s m args c cX1_orderedPairs 3 RX1 wsX1_orderedPairs D (tyS cI cS cL) A) hr hlk _ _
  have h := hc
  unfold f_X1_orderedPairs at h
  refine g_lv (lv' := [(0, .ref a0)]) [0] rfl ?_
  refine g_iconst (v := 0) X dX1_orderedPairs_0 (by decide) ?_
  refine g_istore_n (lv' := [(1, .int 0), (0, .ref a0)]) X dX1_orderedPairs_1 rfl (by decide) rfl ?_
  refine g_iconst (v := 0) X dX1_orderedPairs_2 (by decide) ?_
  refine g_istore_n (lv' := [(2, .int 0), (1, .int 0), (0, .ref a0)]) X dX1_orderedPairs_3 rfl (by decide) rfl ?_
  refine g_lv (lv' := [(0, .ref a0), (1, .int 0), (2, .int 0)]) [2, 1, 0] rfl ?_
  refine wl_g1 h (u2 fun l1_1 l2_2 => [(a0, .inr (1, [.ref a1, .ref a2, .ref b0_2, .ref b0_3, .ref b0_4, .ref b0_5, .ref b0_6, .int x0_areOrdersCounted, .int x0_isAnyOrder, .int x0_size])), (a1, .inl (cI, 10, .inl f1)), (a2, .inl (cI, 10, .inl f2))]) (u2 fun l1_1 l2_2 => [(0, .ref a0), (1, .int l1_1), (2, .int l2_2)]) rfl rfl (u1 fun l1_3 => [(a0, .inr (1, [.ref a1, .ref a2, .ref b0_2, .ref b0_3, .ref b0_4, .ref b0_5, .ref b0_6, .int x0_areOrdersCounted, .int x0_isAnyOrder, .int x0_size])), (a1, .inl (cI, 10, .inl f1)), (a2, .inl (cI, 10, .inl f2))]) (u1 fun l1_3 => [(1, .int l1_3)]) 39 ?_ ?_
  · rintro l1_3 h
    dsimp only [u1] at h ⊢
    refine g_iload_n X (j := 0) dX1_orderedPairs_39 rfl ?_
    have h := Option.some.inj h
    subst h
    exact g_iret X hr hlk dX1_orderedPairs_40 rfl rfl
  · rintro ⟨l1_1, l2_2⟩ o h hI hE
    dsimp only [u2] at h ⊢
    refine g_iload_n X (j := 2) dX1_orderedPairs_4 rfl ?_
    refine g_aload_n X (j := 0) dX1_orderedPairs_5 rfl ?_
    refine g_get (q0 := 0) (k := 9) (ci := 1) X in_X1_orderedPairs_X1 fl_X1_orderedPairs_40 rfl rfl (Nat.le_of_ble_eq_true rfl) rfl dX1_orderedPairs_6 ?_
    refine g_icmp_ge (tgt := 39) X h dX1_orderedPairs_9 (by decide) (fun h => ?_) (fun h => ?_)
    · refine g_lv (lv' := [(1, .int l1_1)]) [1] rfl ?_
      exact hE l1_1 (Option.some.inj h).symm
    · refine g_iload_n X (j := 1) dX1_orderedPairs_12 rfl ?_
      refine g_aload_n X (j := 0) dX1_orderedPairs_13 rfl ?_
      refine g_get (q0 := 0) (k := 0) (ci := 1) X in_X1_orderedPairs_X1 fl_X1_orderedPairs_9 rfl rfl (Nat.le_of_ble_eq_true rfl) rfl dX1_orderedPairs_14 ?_
      refine g_iload_n X (j := 2) dX1_orderedPairs_17 rfl ?_
      refine g_iald (q0 := 1) (t0 := 0) X h rfl rfl dX1_orderedPairs_18 (fun v4 h => ?_)
      refine g_aload_n X (j := 0) dX1_orderedPairs_19 rfl ?_
      refine g_get (q0 := 0) (k := 1) (ci := 1) X in_X1_orderedPairs_X1 fl_X1_orderedPairs_15 rfl rfl (Nat.le_of_ble_eq_true rfl) rfl dX1_orderedPairs_20 ?_
      refine g_iload_n X (j := 2) dX1_orderedPairs_23 rfl ?_
      refine g_iald (q0 := 2) (t0 := 0) X h rfl rfl dX1_orderedPairs_24 (fun v5 h => ?_)
      refine g_iconst (v := (-1)) X dX1_orderedPairs_25 (by decide) ?_
      refine g_ixor X dX1_orderedPairs_26 ?_
      refine g_iand X dX1_orderedPairs_27 ?_
      obtain ⟨r6, hc, h⟩ := bd1 h
      refine g_callS0 (As := [.int (v4 &&& (v5 ^^^ (-1)))]) (st := [.int l1_1]) X (c_J6_bitCount_0f7a4 l D cI cS cL (v4 &&& (v5 ^^^ (-1))) r6 hc) gX1_orderedPairs_J6_bitCount_0f7a4 rfl ⟨rfl, rfl⟩ hd_J6_bitCount_0f7a4.2 ⟨Nat.le_of_ble_eq_true rfl, Nat.le_of_ble_eq_true rfl⟩ ⟨Nat.zero_le _, Nat.zero_le _⟩ rfl (Nat.le_of_ble_eq_true rfl) rfl dX1_orderedPairs_28 ?_
      refine g_iadd X dX1_orderedPairs_31 ?_
      refine g_istore_n (lv' := [(1, .int (l1_1 + r6)), (0, .ref a0), (2, .int l2_2)]) X dX1_orderedPairs_32 rfl (by decide) rfl ?_
      refine g_iinc (j := 2) (lv' := [(2, .int (l2_2 + 1)), (1, .int (l1_1 + r6)), (0, .ref a0)]) X (l2_2 + 1) dX1_orderedPairs_33 rfl rfl (by decide) rfl ?_
      refine g_goto (tgt := 4) X dX1_orderedPairs_36 (by decide) ?_
      refine g_lv (lv' := [(0, .ref a0), (1, .int (l1_1 + r6)), (2, .int (l2_2 + 1))]) [2, 1, 0] rfl ?_
      exact hI ((l1_1 + r6), (l2_2 + 1)) (Option.some.inj h).symm
def f_X1_countOrdersOfSets (x0_size : Int32) (f1 : Nat → Int32) (f2 : Nat → Int32) : Option ((Nat → Int32)) := (wrA f2 1024 0 1).bind (fun g1 => (wl (u2 fun (l1_2 : Int32) (w3 : Nat → Int32) => (f_X1_allBooks x0_size).bind (u1 fun (r5 : Int32) => (if r5 < l1_2 then some (Sum.inr w3) else (wl (u2 fun (l2_6 : Int32) (l3_7 : Int32) => (if x0_size ≤ l3_7 then some (Sum.inr l2_6) else (f_X1_has l1_2 l3_7).bind (u1 fun (r9 : Int32) => (jn (u1 fun (l2_10 : Int32) => some (Sum.inl (l2_10, (l3_7 + 1)))) (fun K11 => (if r9 = 0 then K11 l2_6 else (rdA f1 10 l3_7).bind (fun v12 => (if (v12 &&& l1_2) = 0 then (rdA w3 1024 (l1_2 ^^^ ((1 : Int32) <<< (l3_7 &&& 31)))).bind (fun v13 => K11 (l2_6 + v13)) else K11 l2_6)))))))) 9999 (0, 0)).bind (u1 fun (l2_8 : Int32) => (wrA w3 1024 l1_2 l2_8).bind (fun g14 => some (Sum.inl ((l1_2 + 1), g14))))))) 9999 (1, g1)).bind (u1 fun (w4 : Nat → Int32) => some w4))
theorem in_X1_countOrdersOfSets_X1 : ∀ w ∈ wsX10, w ∈ wsX1_countOrdersOfSets := by decide +kernel
theorem fl_X1_countOrdersOfSets_30 : Cond.fieldLink RX1 30 "ColophonHunt$Reading" "ordersOfSet" "[I" ∈ wsX1_countOrdersOfSets := by decide +kernel
theorem fl_X1_countOrdersOfSets_40 : Cond.fieldLink RX1 40 "ColophonHunt$Reading" "size" "I" ∈ wsX1_countOrdersOfSets := by decide +kernel
theorem fl_X1_countOrdersOfSets_9 : Cond.fieldLink RX1 9 "ColophonHunt$Reading" "before" "[I" ∈ wsX1_countOrdersOfSets := by decide +kernel
theorem hd_X1_countOrdersOfSets : yX1_countOrdersOfSets.cls = RX1 ∧ yX1_countOrdersOfSets.cls ≠ "java/lang/invoke/MethodHandle" ∧ yX1_countOrdersOfSets.cls ≠ "java/lang/invoke/VarHandle" ∧ (parseMethodDescriptor yX1_countOrdersOfSets.desc).map (fun d => d.parameters.length) = some 0 := by decide +kernel
set_option maxRecDepth 100000 in
set_option maxHeartbeats 4000000 in
theorem c_X1_countOrdersOfSets (l : Launch) (D : va_G) (cI cS cL : ClassId) (a0 : Nat) (a1 : Nat) (a2 : Nat) (b0_1 : Nat) (b0_2 : Nat) (b0_3 : Nat) (b0_4 : Nat) (b0_5 : Nat) (x0_areOrdersCounted : Int32) (x0_isAnyOrder : Int32) (x0_size : Int32) (f1 : Nat → Int32) (f2 : Nat → Int32) (y0 : Nat → Int32) (hc : f_X1_countOrdersOfSets x0_size f1 f2 = some y0) : KM l yX1_countOrdersOfSets wsX1_countOrdersOfSets { frames := 1, cells := 0, slots := 0, locals := 21 } D (tyS cI cS cL) [.ref a0] [(a0, .inr (1, [.ref a1, .ref b0_1, .ref b0_2, .ref b0_3, .ref b0_4, .ref b0_5, .ref a2, .int x0_areOrdersCounted, .int x0_isAnyOrder, .int x0_size])), (a1, .inl (cI, 10, .inl f1)), (a2, .inl (cI, 1024, .inl f2))] none (fun w => w = [(a0, .inr (1, [.ref a1, .ref b0_1, .ref b0_2, .ref b0_3, .ref b0_4, .ref b0_5, .ref a2, .int x0_areOrdersCounted, .int x0_isAnyOrder, .int x0_size])), (a1, .inl (cI, 10, .inl f1)), (a2, .inl (cI, 1024, .inl y0))]) 0 0 := by
  refine g_entry (cc := cX1_countOrdersOfSets) (nL := 4) (rt := none) (by decide) rfl (Nat.le_of_ble_eq_true rfl) ?_
  intro p e s m args below meth c A (X : GC p s m args c cX1_countOrdersOfSets 4 RX1 wsX1_countOrdersOfSets D (tyS cI cS cL) A) hr hlk _ _
  have h := hc
  unfold f_X1_countOrdersOfSets at h
  refine g_lv (lv' := [(0, .ref a0)]) [0] rfl ?_
  refine g_aload_n X (j := 0) dX1_countOrdersOfSets_0 rfl ?_
  refine g_get (q0 := 0) (k := 6) (ci := 1) X in_X1_countOrdersOfSets_X1 fl_X1_countOrdersOfSets_30 rfl rfl (Nat.le_of_ble_eq_true rfl) rfl dX1_countOrdersOfSets_1 ?_
  refine g_iconst (v := 0) X dX1_countOrdersOfSets_4 (by decide) ?_
  refine g_iconst (v := 1) X dX1_countOrdersOfSets_5 (by decide) ?_
  refine g_iast (q0 := 2) (t0 := 0) (ws1 := fun g1 => [(a0, .inr (1, [.ref a1, .ref b0_1, .ref b0_2, .ref b0_3, .ref b0_4, .ref b0_5, .ref a2, .int x0_areOrdersCounted, .int x0_isAnyOrder, .int x0_size])), (a1, .inl (cI, 10, .inl f1)), (a2, .inl (cI, 1024, .inl g1))]) X h rfl rfl dX1_countOrdersOfSets_6 (fun _ => rfl) (fun g1 h => ?_)
  refine g_iconst (v := 1) X dX1_countOrdersOfSets_7 (by decide) ?_
  refine g_istore_n (lv' := [(1, .int 1), (0, .ref a0)]) X dX1_countOrdersOfSets_8 rfl (by decide) rfl ?_
  refine g_lv (lv' := [(0, .ref a0), (1, .int 1)]) [1, 0] rfl ?_
  refine wl_g1 h (u2 fun l1_2 w3 => [(a0, .inr (1, [.ref a1, .ref b0_1, .ref b0_2, .ref b0_3, .ref b0_4, .ref b0_5, .ref a2, .int x0_areOrdersCounted, .int x0_isAnyOrder, .int x0_size])), (a1, .inl (cI, 10, .inl f1)), (a2, .inl (cI, 1024, .inl w3))]) (u2 fun l1_2 w3 => [(0, .ref a0), (1, .int l1_2)]) rfl rfl (u1 fun w4 => [(a0, .inr (1, [.ref a1, .ref b0_1, .ref b0_2, .ref b0_3, .ref b0_4, .ref b0_5, .ref a2, .int x0_areOrdersCounted, .int x0_isAnyOrder, .int x0_size])), (a1, .inl (cI, 10, .inl f1)), (a2, .inl (cI, 1024, .inl w4))]) (u1 fun w4 => []) 80 ?_ ?_
  · rintro w4 h
    dsimp only [u1] at h ⊢
    have h := Option.some.inj h
    subst h
    exact g_vret X hr hlk dX1_countOrdersOfSets_80 rfl
  · rintro ⟨l1_2, w3⟩ o h hI hE
    dsimp only [u2] at h ⊢
    refine g_iload_n X (j := 1) dX1_countOrdersOfSets_9 rfl ?_
    refine g_aload_n X (j := 0) dX1_countOrdersOfSets_10 rfl ?_
    obtain ⟨r5, hc, h⟩ := bd1 h
    refine g_callV (q0 := 0) (ci := 1) (is := [0]) (As := []) (ws' := [(a0, .inr (1, [.ref a1, .ref b0_1, .ref b0_2, .ref b0_3, .ref b0_4, .ref b0_5, .ref a2, .int x0_areOrdersCounted, .int x0_isAnyOrder, .int x0_size])), (a1, .inl (cI, 10, .inl f1)), (a2, .inl (cI, 1024, .inl w3))]) (st := [.int l1_2]) X (c_X1_allBooks l D cI cS cL a0 a1 b0_1 b0_2 b0_3 b0_4 b0_5 a2 x0_areOrdersCounted x0_isAnyOrder x0_size r5 hc) gX1_countOrdersOfSets_X1_allBooks rfl ⟨rfl, rfl⟩ hd_X1_allBooks (by exact ⟨Nat.le_of_ble_eq_true rfl, Nat.le_of_ble_eq_true rfl⟩) ⟨Nat.zero_le _, Nat.zero_le _⟩ rfl rfl rfl rfl rfl rfl rfl (Nat.le_of_ble_eq_true rfl) rfl dX1_countOrdersOfSets_11 ?_
    refine g_icmp_gt (tgt := 80) X h dX1_countOrdersOfSets_14 (by decide) (fun h => ?_) (fun h => ?_)
    · refine g_lv (lv' := []) [] rfl ?_
      exact hE w3 (Option.some.inj h).symm
    · refine g_iconst (v := 0) X dX1_countOrdersOfSets_17 (by decide) ?_
      refine g_istore_n (lv' := [(2, .int 0), (0, .ref a0), (1, .int l1_2)]) X dX1_countOrdersOfSets_18 rfl (by decide) rfl ?_
      refine g_iconst (v := 0) X dX1_countOrdersOfSets_19 (by decide) ?_
      refine g_istore_n (lv' := [(3, .int 0), (2, .int 0), (0, .ref a0), (1, .int l1_2)]) X dX1_countOrdersOfSets_20 rfl (by decide) rfl ?_
      refine g_lv (lv' := [(0, .ref a0), (1, .int l1_2), (2, .int 0), (3, .int 0)]) [2, 3, 1, 0] rfl ?_
      refine wl_g1 h (u2 fun l2_6 l3_7 => [(a0, .inr (1, [.ref a1, .ref b0_1, .ref b0_2, .ref b0_3, .ref b0_4, .ref b0_5, .ref a2, .int x0_areOrdersCounted, .int x0_isAnyOrder, .int x0_size])), (a1, .inl (cI, 10, .inl f1)), (a2, .inl (cI, 1024, .inl w3))]) (u2 fun l2_6 l3_7 => [(0, .ref a0), (1, .int l1_2), (2, .int l2_6), (3, .int l3_7)]) rfl rfl (u1 fun l2_8 => [(a0, .inr (1, [.ref a1, .ref b0_1, .ref b0_2, .ref b0_3, .ref b0_4, .ref b0_5, .ref a2, .int x0_areOrdersCounted, .int x0_isAnyOrder, .int x0_size])), (a1, .inl (cI, 10, .inl f1)), (a2, .inl (cI, 1024, .inl w3))]) (u1 fun l2_8 => [(0, .ref a0), (1, .int l1_2), (2, .int l2_8)]) 67 ?_ ?_
      · rintro l2_8 h
        dsimp only [u1] at h ⊢
        refine g_aload_n X (j := 0) dX1_countOrdersOfSets_67 rfl ?_
        refine g_get (q0 := 0) (k := 6) (ci := 1) X in_X1_countOrdersOfSets_X1 fl_X1_countOrdersOfSets_30 rfl rfl (Nat.le_of_ble_eq_true rfl) rfl dX1_countOrdersOfSets_68 ?_
        refine g_iload_n X (j := 1) dX1_countOrdersOfSets_71 rfl ?_
        refine g_iload_n X (j := 2) dX1_countOrdersOfSets_72 rfl ?_
        refine g_iast (q0 := 2) (t0 := 0) (ws1 := fun g14 => [(a0, .inr (1, [.ref a1, .ref b0_1, .ref b0_2, .ref b0_3, .ref b0_4, .ref b0_5, .ref a2, .int x0_areOrdersCounted, .int x0_isAnyOrder, .int x0_size])), (a1, .inl (cI, 10, .inl f1)), (a2, .inl (cI, 1024, .inl g14))]) X h rfl rfl dX1_countOrdersOfSets_73 (fun _ => rfl) (fun g14 h => ?_)
        refine g_iinc (j := 1) (lv' := [(1, .int (l1_2 + 1)), (0, .ref a0), (2, .int l2_8)]) X (l1_2 + 1) dX1_countOrdersOfSets_74 rfl rfl (by decide) rfl ?_
        refine g_goto (tgt := 9) X dX1_countOrdersOfSets_77 (by decide) ?_
        refine g_lv (lv' := [(0, .ref a0), (1, .int (l1_2 + 1))]) [1, 0] rfl ?_
        exact hI ((l1_2 + 1), g14) (Option.some.inj h).symm
      · rintro ⟨l2_6, l3_7⟩ o h hI hE
        dsimp only [u2] at h ⊢
        refine g_iload_n X (j := 3) dX1_countOrdersOfSets_21 rfl ?_
        refine g_aload_n X (j := 0) dX1_countOrdersOfSets_22 rfl ?_
        refine g_get (q0 := 0) (k := 9) (ci := 1) X in_X1_countOrdersOfSets_X1 fl_X1_countOrdersOfSets_40 rfl rfl (Nat.le_of_ble_eq_true rfl) rfl dX1_countOrdersOfSets_23 ?_
        refine g_icmp_ge (tgt := 67) X h dX1_countOrdersOfSets_26 (by decide) (fun h => ?_) (fun h => ?_)
        · refine g_lv (lv' := [(0, .ref a0), (1, .int l1_2), (2, .int l2_6)]) [0, 1, 2] rfl ?_
          exact hE l2_6 (Option.some.inj h).symm
        · refine g_iload_n X (j := 1) dX1_countOrdersOfSets_29 rfl ?_
          refine g_iload_n X (j := 3) dX1_countOrdersOfSets_30 rfl ?_
          obtain ⟨r9, hc, h⟩ := bd1 h
          refine g_callS0 (As := [.int l1_2, .int l3_7]) (st := []) X (c_X1_has l D cI cS cL l1_2 l3_7 r9 hc) gX1_countOrdersOfSets_X1_has rfl ⟨rfl, rfl⟩ hd_X1_has.2 ⟨Nat.le_of_ble_eq_true rfl, Nat.le_of_ble_eq_true rfl⟩ ⟨Nat.zero_le _, Nat.zero_le _⟩ rfl (Nat.le_of_ble_eq_true rfl) rfl dX1_countOrdersOfSets_31 ?_
          refine jn_g h (u1 fun l2_10 => [(a0, .inr (1, [.ref a1, .ref b0_1, .ref b0_2, .ref b0_3, .ref b0_4, .ref b0_5, .ref a2, .int x0_areOrdersCounted, .int x0_isAnyOrder, .int x0_size])), (a1, .inl (cI, 10, .inl f1)), (a2, .inl (cI, 1024, .inl w3))]) (u1 fun l2_10 => [(0, .ref a0), (1, .int l1_2), (2, .int l2_10), (3, .int l3_7)]) (u1 fun l2_10 => []) 61 ?_ ?_
          · rintro l2_10 h
            dsimp only [u1] at h ⊢
            refine g_iinc (j := 3) (lv' := [(3, .int (l3_7 + 1)), (0, .ref a0), (1, .int l1_2), (2, .int l2_10)]) X (l3_7 + 1) dX1_countOrdersOfSets_61 rfl rfl (by decide) rfl ?_
            refine g_goto (tgt := 21) X dX1_countOrdersOfSets_64 (by decide) ?_
            refine g_lv (lv' := [(0, .ref a0), (1, .int l1_2), (2, .int l2_10), (3, .int (l3_7 + 1))]) [1, 2, 3, 0] rfl ?_
            exact hI (l2_10, (l3_7 + 1)) (Option.some.inj h).symm
          · intro K11 hK11 h
            refine g_if_eq (tgt := 61) X h dX1_countOrdersOfSets_34 (by decide) (fun h => ?_) (fun h => ?_)
            · exact hK11 l2_6 h
            · refine g_aload_n X (j := 0) dX1_countOrdersOfSets_37 rfl ?_
              refine g_get (q0 := 0) (k := 0) (ci := 1) X in_X1_countOrdersOfSets_X1 fl_X1_countOrdersOfSets_9 rfl rfl (Nat.le_of_ble_eq_true rfl) rfl dX1_countOrdersOfSets_38 ?_
              refine g_iload_n X (j := 3) dX1_countOrdersOfSets_41 rfl ?_
              refine g_iald (q0 := 1) (t0 := 0) X h rfl rfl dX1_countOrdersOfSets_42 (fun v12 h => ?_)
              refine g_iload_n X (j := 1) dX1_countOrdersOfSets_43 rfl ?_
              refine g_iand X dX1_countOrdersOfSets_44 ?_
              refine g_if_ne (tgt := 61) X h dX1_countOrdersOfSets_45 (by decide) (fun h => ?_) (fun h => ?_)
              · exact hK11 l2_6 h
              · refine g_iload_n X (j := 2) dX1_countOrdersOfSets_48 rfl ?_
                refine g_aload_n X (j := 0) dX1_countOrdersOfSets_49 rfl ?_
                refine g_get (q0 := 0) (k := 6) (ci := 1) X in_X1_countOrdersOfSets_X1 fl_X1_countOrdersOfSets_30 rfl rfl (Nat.le_of_ble_eq_true rfl) rfl dX1_countOrdersOfSets_50 ?_
                refine g_iload_n X (j := 1) dX1_countOrdersOfSets_53 rfl ?_
                refine g_iconst (v := 1) X dX1_countOrdersOfSets_54 (by decide) ?_
                refine g_iload_n X (j := 3) dX1_countOrdersOfSets_55 rfl ?_
                refine g_ishl X dX1_countOrdersOfSets_56 ?_
                refine g_ixor X dX1_countOrdersOfSets_57 ?_
                refine g_iald (q0 := 2) (t0 := 0) X h rfl rfl dX1_countOrdersOfSets_58 (fun v13 h => ?_)
                refine g_iadd X dX1_countOrdersOfSets_59 ?_
                refine g_istore_n (lv' := [(2, .int (l2_6 + v13)), (0, .ref a0), (1, .int l1_2), (3, .int l3_7)]) X dX1_countOrdersOfSets_60 rfl (by decide) rfl ?_
                refine g_lv (lv' := [(0, .ref a0), (1, .int l1_2), (2, .int (l2_6 + v13)), (3, .int l3_7)]) [1, 2, 0, 3] rfl ?_
                exact hK11 (l2_6 + v13) h
def f_X1_ordersOf (p1 : Int32) (x0_areOrdersCounted : Int32) (x0_size : Int32) (f1 : Nat → Int32) (f2 : Nat → Int32) : Option (Int32 × Int32 × (Nat → Int32)) := (jn (u2 fun (w1 : Int32) (w2 : Nat → Int32) => (jn (u1 fun (s4 : Int32) => some (s4, w1, w2)) (fun K5 => jn (u0 (K5 0)) (fun K6 => (if p1 < 0 then K6 () else (if 1024 ≤ p1 then K6 () else (rdA w2 1024 p1).bind (fun v7 => K5 v7))))))) (fun K3 => (if x0_areOrdersCounted = 0 then (f_X1_countOrdersOfSets x0_size f1 f2).bind (u1 fun (o9 : Nat → Int32) => K3 (1, o9)) else K3 (x0_areOrdersCounted, f2))))
theorem in_X1_ordersOf_X1 : ∀ w ∈ wsX10, w ∈ wsX1_ordersOf := by decide +kernel
theorem fl_X1_ordersOf_33 : Cond.fieldLink RX1 33 "ColophonHunt$Reading" "areOrdersCounted" "Z" ∈ wsX1_ordersOf := by decide +kernel
theorem fl_X1_ordersOf_30 : Cond.fieldLink RX1 30 "ColophonHunt$Reading" "ordersOfSet" "[I" ∈ wsX1_ordersOf := by decide +kernel
theorem hd_X1_ordersOf : yX1_ordersOf.cls = RX1 ∧ yX1_ordersOf.cls ≠ "java/lang/invoke/MethodHandle" ∧ yX1_ordersOf.cls ≠ "java/lang/invoke/VarHandle" ∧ (parseMethodDescriptor yX1_ordersOf.desc).map (fun d => d.parameters.length) = some 1 := by decide +kernel
set_option maxRecDepth 100000 in
set_option maxHeartbeats 4000000 in
theorem c_X1_ordersOf (l : Launch) (D : va_G) (cI cS cL : ClassId) (a0 : Nat) (a1 : Nat) (a2 : Nat) (b0_1 : Nat) (b0_2 : Nat) (b0_3 : Nat) (b0_4 : Nat) (b0_5 : Nat) (p1 : Int32) (x0_areOrdersCounted : Int32) (x0_isAnyOrder : Int32) (x0_size : Int32) (f1 : Nat → Int32) (f2 : Nat → Int32) (rr : Int32) (y0 : Int32) (y1 : Nat → Int32) (hc : f_X1_ordersOf p1 x0_areOrdersCounted x0_size f1 f2 = some (rr, y0, y1)) : KM l yX1_ordersOf wsX1_ordersOf { frames := 2, cells := 0, slots := 0, locals := 44 } D (tyS cI cS cL) [.ref a0, .int p1] [(a0, .inr (1, [.ref a1, .ref b0_1, .ref b0_2, .ref b0_3, .ref b0_4, .ref b0_5, .ref a2, .int x0_areOrdersCounted, .int x0_isAnyOrder, .int x0_size])), (a1, .inl (cI, 10, .inl f1)), (a2, .inl (cI, 1024, .inl f2))] (some (.int rr)) (fun w => w = [(a0, .inr (1, [.ref a1, .ref b0_1, .ref b0_2, .ref b0_3, .ref b0_4, .ref b0_5, .ref a2, .int y0, .int x0_isAnyOrder, .int x0_size])), (a1, .inl (cI, 10, .inl f1)), (a2, .inl (cI, 1024, .inl y1))]) 0 0 := by
  refine g_entry (cc := cX1_ordersOf) (nL := 2) (rt := (some .int)) (by decide) rfl (Nat.le_of_ble_eq_true rfl) ?_
  intro p e s m args below meth c A (X : GC p s m args c cX1_ordersOf 2 RX1 wsX1_ordersOf D (tyS cI cS cL) A) hr hlk _ _
  have h := hc
  unfold f_X1_ordersOf at h
  refine g_lv (lv' := [(0, .ref a0), (1, .int p1)]) [0, 1] rfl ?_
  refine g_aload_n X (j := 0) dX1_ordersOf_0 rfl ?_
  refine g_get (q0 := 0) (k := 7) (ci := 1) X in_X1_ordersOf_X1 fl_X1_ordersOf_33 rfl rfl (Nat.le_of_ble_eq_true rfl) rfl dX1_ordersOf_1 ?_
  refine jn_g h (u2 fun w1 w2 => [(a0, .inr (1, [.ref a1, .ref b0_1, .ref b0_2, .ref b0_3, .ref b0_4, .ref b0_5, .ref a2, .int w1, .int x0_isAnyOrder, .int x0_size])), (a1, .inl (cI, 10, .inl f1)), (a2, .inl (cI, 1024, .inl w2))]) (u2 fun w1 w2 => [(0, .ref a0), (1, .int p1)]) (u2 fun w1 w2 => []) 16 ?_ ?_
  · rintro ⟨w1, w2⟩ h
    dsimp only [u2] at h ⊢
    refine g_iload_n X (j := 1) dX1_ordersOf_16 rfl ?_
    refine jn_g h (u1 fun s4 => [(a0, .inr (1, [.ref a1, .ref b0_1, .ref b0_2, .ref b0_3, .ref b0_4, .ref b0_5, .ref a2, .int w1, .int x0_isAnyOrder, .int x0_size])), (a1, .inl (cI, 10, .inl f1)), (a2, .inl (cI, 1024, .inl w2))]) (u1 fun s4 => []) (u1 fun s4 => [.int s4]) 37 ?_ ?_
    · rintro s4 h
      dsimp only [u1] at h ⊢
      have h := Option.some.inj h
      simp only [Prod.mk.injEq] at h
      obtain ⟨rfl, rfl, rfl⟩ := h
      exact g_iret X hr hlk dX1_ordersOf_37 rfl rfl
    · intro K5 hK5 h
      refine jn_g h (u0 ([(a0, .inr (1, [.ref a1, .ref b0_1, .ref b0_2, .ref b0_3, .ref b0_4, .ref b0_5, .ref a2, .int w1, .int x0_isAnyOrder, .int x0_size])), (a1, .inl (cI, 10, .inl f1)), (a2, .inl (cI, 1024, .inl w2))])) (u0 ([])) (u0 ([])) 36 ?_ ?_
      · rintro ⟨⟩ h
        dsimp only [u0] at h ⊢
        refine g_iconst (v := 0) X dX1_ordersOf_36 (by decide) ?_
        exact hK5 0 h
      · intro K6 hK6 h
        refine g_if_lt (tgt := 36) X h dX1_ordersOf_17 (by decide) (fun h => ?_) (fun h => ?_)
        · refine g_lv (lv' := []) [] rfl ?_
          exact hK6 () h
        · refine g_iload_n X (j := 1) dX1_ordersOf_20 rfl ?_
          refine g_sipush (v := 1024) X dX1_ordersOf_21 (by decide) ?_
          refine g_icmp_ge (tgt := 36) X h dX1_ordersOf_24 (by decide) (fun h => ?_) (fun h => ?_)
          · refine g_lv (lv' := []) [] rfl ?_
            exact hK6 () h
          · refine g_aload_n X (j := 0) dX1_ordersOf_27 rfl ?_
            refine g_get (q0 := 0) (k := 6) (ci := 1) X in_X1_ordersOf_X1 fl_X1_ordersOf_30 rfl rfl (Nat.le_of_ble_eq_true rfl) rfl dX1_ordersOf_28 ?_
            refine g_iload_n X (j := 1) dX1_ordersOf_31 rfl ?_
            refine g_iald (q0 := 2) (t0 := 0) X h rfl rfl dX1_ordersOf_32 (fun v7 h => ?_)
            refine g_goto (tgt := 37) X dX1_ordersOf_33 (by decide) ?_
            refine g_lv (lv' := []) [] rfl ?_
            exact hK5 v7 h
  · intro K3 hK3 h
    refine g_if_ne (tgt := 16) X h dX1_ordersOf_4 (by decide) (fun h => ?_) (fun h => ?_)
    · exact hK3 (x0_areOrdersCounted, f2) h
    · refine g_aload_n X (j := 0) dX1_ordersOf_7 rfl ?_
      obtain ⟨o9, hc, h⟩ := bd1 h
      refine g_callV (q0 := 0) (ci := 1) (is := [0, 1, 2]) (As := []) (ws' := [(a0, .inr (1, [.ref a1, .ref b0_1, .ref b0_2, .ref b0_3, .ref b0_4, .ref b0_5, .ref a2, .int x0_areOrdersCounted, .int x0_isAnyOrder, .int x0_size])), (a1, .inl (cI, 10, .inl f1)), (a2, .inl (cI, 1024, .inl o9))]) (st := []) X (c_X1_countOrdersOfSets l D cI cS cL a0 a1 a2 b0_1 b0_2 b0_3 b0_4 b0_5 x0_areOrdersCounted x0_isAnyOrder x0_size f1 f2 o9 hc) gX1_ordersOf_X1_countOrdersOfSets rfl ⟨rfl, rfl⟩ hd_X1_countOrdersOfSets (by exact ⟨Nat.le_of_ble_eq_true rfl, Nat.le_of_ble_eq_true rfl⟩) ⟨Nat.zero_le _, Nat.zero_le _⟩ rfl rfl rfl rfl rfl rfl rfl (Nat.le_of_ble_eq_true rfl) rfl dX1_ordersOf_8 ?_
      refine g_aload_n X (j := 0) dX1_ordersOf_11 rfl ?_
      refine g_iconst (v := 1) X dX1_ordersOf_12 (by decide) ?_
      refine g_put (q0 := 0) (k := 7) (ci := 1) (ws' := [(a0, .inr (1, [.ref a1, .ref b0_1, .ref b0_2, .ref b0_3, .ref b0_4, .ref b0_5, .ref a2, .int 1, .int x0_isAnyOrder, .int x0_size])), (a1, .inl (cI, 10, .inl f1)), (a2, .inl (cI, 1024, .inl o9))]) X tyX1_ok nmX1 in_X1_ordersOf_X1 fl_X1_ordersOf_33 rfl rfl (Nat.le_of_ble_eq_true rfl) rfl rfl rfl (Nat.le_of_ble_eq_true rfl) dX1_ordersOf_13 rfl ?_
      exact hK3 (1, o9) h
