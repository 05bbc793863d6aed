set_option maxRecDepth 20000 in
theorem ggX1_leastWrongBooks_X1_allBooks : GoodIn wsX1_leastWrongBooks wsX1_allBooks := goodIn_r _ [6, 7, 29, 30, 31, 32, 33, 34, 35, 36, 37, 38] (by decide +kernel) (by decide +kernel)
set_option maxRecDepth 20000 in
theorem gX1_leastWrongBooks_X1_allBooks : GoodIn wsX1_leastWrongBooks (wsV RX1 86 RX1 yX1_allBooks wsX1_allBooks) := goodIn_app (goodIn_of _ (by decide +kernel)) ggX1_leastWrongBooks_X1_allBooks
set_option maxRecDepth 20000 in
theorem ggX1_leastWrongBooks_J6_bitCount_0f7a4 : GoodIn wsX1_leastWrongBooks wsJ6_bitCount_0f7a4 := goodIn_r _ [11, 12, 13, 14] (by decide +kernel) (by decide +kernel)
set_option maxRecDepth 20000 in
theorem gX1_leastWrongBooks_J6_bitCount_0f7a4 : GoodIn wsX1_leastWrongBooks (va_wsS RX1 80 yJ6_bitCount_0f7a4 wsJ6_bitCount_0f7a4) := goodIn_app (goodIn_of _ (by decide +kernel)) ggX1_leastWrongBooks_J6_bitCount_0f7a4
set_option maxRecDepth 20000 in
theorem ggX1_leastWrongBooks_X1_ordersOf : GoodIn wsX1_leastWrongBooks wsX1_ordersOf := goodIn_r _ [18, 19, 20, 21, 22, 23, 5, 24, 7, 25, 2, 3, 4, 6, 26, 27, 28, 29, 30, 31, 32, 33, 34, 35, 36, 37, 38] (by decide +kernel) (by decide +kernel)
set_option maxRecDepth 20000 in
theorem gX1_leastWrongBooks_X1_ordersOf : GoodIn wsX1_leastWrongBooks (wsV RX1 90 RX1 yX1_ordersOf wsX1_ordersOf) := goodIn_app (goodIn_of _ (by decide +kernel)) ggX1_leastWrongBooks_X1_ordersOf
theorem dX1_leastWrongBooks_0 : decode cX1_leastWrongBooks 0 = .ok (.aload_n 0, 1) := by decide +kernel
theorem dX1_leastWrongBooks_1 : decode cX1_leastWrongBooks 1 = .ok (.getfield 37, 3) := by decide +kernel
theorem dX1_leastWrongBooks_4 : decode cX1_leastWrongBooks 4 = .ok (.ifCond .eq 5, 3) := by decide +kernel
theorem dX1_leastWrongBooks_7 : decode cX1_leastWrongBooks 7 = .ok (.iconst 0, 1) := by decide +kernel
theorem dX1_leastWrongBooks_8 : decode cX1_leastWrongBooks 8 = .ok (.ireturn, 1) := by decide +kernel
theorem dX1_leastWrongBooks_9 : decode cX1_leastWrongBooks 9 = .ok (.aload_n 0, 1) := by decide +kernel
theorem dX1_leastWrongBooks_10 : decode cX1_leastWrongBooks 10 = .ok (.invokevirtual 86, 3) := by decide +kernel
theorem dX1_leastWrongBooks_13 : decode cX1_leastWrongBooks 13 = .ok (.istore_n 1, 1) := by decide +kernel
theorem dX1_leastWrongBooks_14 : decode cX1_leastWrongBooks 14 = .ok (.iconst 0, 1) := by decide +kernel
theorem dX1_leastWrongBooks_15 : decode cX1_leastWrongBooks 15 = .ok (.istore_n 2, 1) := by decide +kernel
theorem dX1_leastWrongBooks_16 : decode cX1_leastWrongBooks 16 = .ok (.iload_n 2, 1) := by decide +kernel
theorem dX1_leastWrongBooks_17 : decode cX1_leastWrongBooks 17 = .ok (.aload_n 0, 1) := by decide +kernel
theorem dX1_leastWrongBooks_18 : decode cX1_leastWrongBooks 18 = .ok (.invokevirtual 86, 3) := by decide +kernel
theorem dX1_leastWrongBooks_21 : decode cX1_leastWrongBooks 21 = .ok (.if_icmp .gt 35, 3) := by decide +kernel
theorem dX1_leastWrongBooks_24 : decode cX1_leastWrongBooks 24 = .ok (.iload_n 2, 1) := by decide +kernel
theorem dX1_leastWrongBooks_25 : decode cX1_leastWrongBooks 25 = .ok (.invokestatic 80, 3) := by decide +kernel
theorem dX1_leastWrongBooks_28 : decode cX1_leastWrongBooks 28 = .ok (.iload_n 1, 1) := by decide +kernel
theorem dX1_leastWrongBooks_29 : decode cX1_leastWrongBooks 29 = .ok (.invokestatic 80, 3) := by decide +kernel
theorem dX1_leastWrongBooks_32 : decode cX1_leastWrongBooks 32 = .ok (.if_icmp .ge 18, 3) := by decide +kernel
theorem dX1_leastWrongBooks_35 : decode cX1_leastWrongBooks 35 = .ok (.aload_n 0, 1) := by decide +kernel
theorem dX1_leastWrongBooks_36 : decode cX1_leastWrongBooks 36 = .ok (.aload_n 0, 1) := by decide +kernel
theorem dX1_leastWrongBooks_37 : decode cX1_leastWrongBooks 37 = .ok (.invokevirtual 86, 3) := by decide +kernel
theorem dX1_leastWrongBooks_40 : decode cX1_leastWrongBooks 40 = .ok (.iload_n 2, 1) := by decide +kernel
theorem dX1_leastWrongBooks_41 : decode cX1_leastWrongBooks 41 = .ok (.ixor, 1) := by decide +kernel
theorem dX1_leastWrongBooks_42 : decode cX1_leastWrongBooks 42 = .ok (.invokevirtual 90, 3) := by decide +kernel
theorem dX1_leastWrongBooks_45 : decode cX1_leastWrongBooks 45 = .ok (.ifCond .le 5, 3) := by decide +kernel
theorem dX1_leastWrongBooks_48 : decode cX1_leastWrongBooks 48 = .ok (.iload_n 2, 1) := by decide +kernel
theorem dX1_leastWrongBooks_49 : decode cX1_leastWrongBooks 49 = .ok (.istore_n 1, 1) := by decide +kernel
theorem dX1_leastWrongBooks_50 : decode cX1_leastWrongBooks 50 = .ok (.iinc 2 1, 3) := by decide +kernel
theorem dX1_leastWrongBooks_53 : decode cX1_leastWrongBooks 53 = .ok (.goto (-37), 3) := by decide +kernel
theorem dX1_leastWrongBooks_56 : decode cX1_leastWrongBooks 56 = .ok (.iload_n 1, 1) := by decide +kernel
theorem dX1_leastWrongBooks_57 : decode cX1_leastWrongBooks 57 = .ok (.ireturn, 1) := by decide +kernel
def f_X1_leastWrongBooks (x0_areOrdersCounted : Int32) (x0_isAnyOrder : Int32) (x0_size : Int32) (f1 : Nat → Int32) (f2 : Nat → Int32) : Option (Int32 × Int32 × (Nat → Int32)) := (if x0_isAnyOrder = 0 then (f_X1_allBooks x0_size).bind (u1 fun (r1 : Int32) => (wl (u4 fun (l1_2 : Int32) (l2_3 : Int32) (w4 : Int32) (w5 : Nat → Int32) => (f_X1_allBooks x0_size).bind (u1 fun (r9 : Int32) => (if r9 < l2_3 then some (Sum.inr (l1_2, w4, w5)) else (f_J6_bitCount_0f7a4 l2_3).bind (u1 fun (r10 : Int32) => (f_J6_bitCount_0f7a4 l1_2).bind (u1 fun (r11 : Int32) => (jn (u3 fun (l1_12 : Int32) (w13 : Int32) (w14 : Nat → Int32) => some (Sum.inl (l1_12, (l2_3 + 1), w13, w14))) (fun K15 => (if r11 ≤ r10 then K15 (l1_2, w4, w5) else (f_X1_allBooks x0_size).bind (u1 fun (r16 : Int32) => (f_X1_ordersOf (r16 ^^^ l2_3) w4 x0_size f1 w5).bind (u3 fun (r17 : Int32) (o18 : Int32) (o19 : Nat → Int32) => (if r17 ≤ 0 then K15 (l1_2, o18, o19) else K15 (l2_3, o18, o19)))))))))))) 9999 (r1, 0, x0_areOrdersCounted, f2)).bind (u3 fun (l1_6 : Int32) (w7 : Int32) (w8 : Nat → Int32) => some (l1_6, w7, w8))) else some (0, x0_areOrdersCounted, f2))
theorem in_X1_leastWrongBooks_X1 : ∀ w ∈ wsX10, w ∈ wsX1_leastWrongBooks := by decide +kernel
theorem fl_X1_leastWrongBooks_37 : Cond.fieldLink RX1 37 "ColophonHunt$Reading" "isAnyOrder" "Z" ∈ wsX1_leastWrongBooks := by decide +kernel
theorem hd_X1_leastWrongBooks : yX1_leastWrongBooks.cls = RX1 ∧ yX1_leastWrongBooks.cls ≠ "java/lang/invoke/MethodHandle" ∧ yX1_leastWrongBooks.cls ≠ "java/lang/invoke/VarHandle" ∧ (parseMethodDescriptor yX1_leastWrongBooks.desc).map (fun d => d.parameters.length) = some 0 := by decide +kernel
set_option maxRecDepth 100000 in
set_option maxHeartbeats 4000000 in
theorem c_X1_leastWrongBooks (l : Launch) (D : va_G) (cI cS cL : ClassId) (a0 : Nat) (a1 : Nat) (a2 : Nat) (b0_1 : Nat) (b0_2 : Nat) (b0_3 : Nat) (b0_4 : Nat) (b0_5 : Nat) (x0_areOrdersCounted : Int32) (x0_isAnyOrder : Int32) (x0_size : Int32) (f1 : Nat → Int32) (f2 : Nat → Int32) (rr : Int32) (y0 : Int32) (y1 : Nat → Int32) (hc : f_X1_leastWrongBooks x0_areOrdersCounted x0_isAnyOrder x0_size f1 f2 = some (rr, y0, y1)) : KM l yX1_leastWrongBooks wsX1_leastWrongBooks { frames := 3, cells := 0, slots := 0, locals := 65 } D (tyS cI cS cL) [.ref a0] [(a0, .inr (1, [.ref a1, .ref b0_1, .ref b0_2, .ref b0_3, .ref b0_4, .ref b0_5, .ref a2, .int x0_areOrdersCounted, .int x0_isAnyOrder, .int x0_size])), (a1, .inl (cI, 10, .inl f1)), (a2, .inl (cI, 1024, .inl f2))] (some (.int rr)) (fun w => w = [(a0, .inr (1, [.ref a1, .ref b0_1, .ref b0_2, .ref b0_3, .ref b0_4, .ref b0_5, .ref a2, .int y0, .int x0_isAnyOrder, .int x0_size])), (a1, .inl (cI, 10, .inl f1)), (a2, .inl (cI, 1024, .inl y1))]) 0 0 := by
  refine g_entry (cc := cX1_leastWrongBooks) (nL := 3) (rt := (some .int)) (by decide) rfl (Nat.le_of_ble_eq_true rfl) ?_
  intro p e s m args below meth c A (X : GC p s m args c cX1_leastWrongBooks 3 RX1 wsX1_leastWrongBooks D (tyS cI cS cL) A) hr hlk _ _
  have h := hc
  unfold f_X1_leastWrongBooks at h
  refine g_lv (lv' := [(0, .ref a0)]) [0] rfl ?_
  refine g_aload_n X (j := 0) dX1_leastWrongBooks_0 rfl ?_
  refine g_get (q0 := 0) (k := 8) (ci := 1) X in_X1_leastWrongBooks_X1 fl_X1_leastWrongBooks_37 rfl rfl (Nat.le_of_ble_eq_true rfl) rfl dX1_leastWrongBooks_1 ?_
  refine g_if_eq (tgt := 9) X h dX1_leastWrongBooks_4 (by decide) (fun h => ?_) (fun h => ?_)
  · refine g_aload_n X (j := 0) dX1_leastWrongBooks_9 rfl ?_
    obtain ⟨r1, hc, h⟩ := bd1 h
    refine g_callV (q0 := 0) (ci := 1) (is := [0]) (As := []) (ws' := [(a0, .inr (1, [.ref a1, .ref b0_1, .ref b0_2, .ref b0_3, .ref b0_4, .ref b0_5, .ref a2, .int x0_areOrdersCounted, .int x0_isAnyOrder, .int x0_size])), (a1, .inl (cI, 10, .inl f1)), (a2, .inl (cI, 1024, .inl f2))]) (st := []) X (c_X1_allBooks l D cI cS cL a0 a1 b0_1 b0_2 b0_3 b0_4 b0_5 a2 x0_areOrdersCounted x0_isAnyOrder x0_size r1 hc) gX1_leastWrongBooks_X1_allBooks rfl ⟨rfl, rfl⟩ hd_X1_allBooks (by exact ⟨Nat.le_of_ble_eq_true rfl, Nat.le_of_ble_eq_true rfl⟩) ⟨Nat.zero_le _, Nat.zero_le _⟩ rfl rfl rfl rfl rfl rfl rfl (Nat.le_of_ble_eq_true rfl) rfl dX1_leastWrongBooks_10 ?_
    refine g_istore_n (lv' := [(1, .int r1), (0, .ref a0)]) X dX1_leastWrongBooks_13 rfl (by decide) rfl ?_
    refine g_iconst (v := 0) X dX1_leastWrongBooks_14 (by decide) ?_
    refine g_istore_n (lv' := [(2, .int 0), (1, .int r1), (0, .ref a0)]) X dX1_leastWrongBooks_15 rfl (by decide) rfl ?_
    refine g_lv (lv' := [(0, .ref a0), (1, .int r1), (2, .int 0)]) [2, 1, 0] rfl ?_
    refine wl_g1 h (u4 fun l1_2 l2_3 w4 w5 => [(a0, .inr (1, [.ref a1, .ref b0_1, .ref b0_2, .ref b0_3, .ref b0_4, .ref b0_5, .ref a2, .int w4, .int x0_isAnyOrder, .int x0_size])), (a1, .inl (cI, 10, .inl f1)), (a2, .inl (cI, 1024, .inl w5))]) (u4 fun l1_2 l2_3 w4 w5 => [(0, .ref a0), (1, .int l1_2), (2, .int l2_3)]) rfl rfl (u3 fun l1_6 w7 w8 => [(a0, .inr (1, [.ref a1, .ref b0_1, .ref b0_2, .ref b0_3, .ref b0_4, .ref b0_5, .ref a2, .int w7, .int x0_isAnyOrder, .int x0_size])), (a1, .inl (cI, 10, .inl f1)), (a2, .inl (cI, 1024, .inl w8))]) (u3 fun l1_6 w7 w8 => [(1, .int l1_6)]) 56 ?_ ?_
    · rintro ⟨l1_6, w7, w8⟩ h
      dsimp only [u3] at h ⊢
      refine g_iload_n X (j := 0) dX1_leastWrongBooks_56 rfl ?_
      have h := Option.some.inj h
      simp only [Prod.mk.injEq] at h
      obtain ⟨rfl, rfl, rfl⟩ := h
      exact g_iret X hr hlk dX1_leastWrongBooks_57 rfl rfl
    · rintro ⟨l1_2, l2_3, w4, w5⟩ o h hI hE
      dsimp only [u4] at h ⊢
      refine g_iload_n X (j := 2) dX1_leastWrongBooks_16 rfl ?_
      refine g_aload_n X (j := 0) dX1_leastWrongBooks_17 rfl ?_
      obtain ⟨r9, hc, h⟩ := bd1 h
      refine g_callV (q0 := 0) (ci := 1) (is := [0]) (As := []) (ws' := [(a0, .inr (1, [.ref a1, .ref b0_1, .ref b0_2, .ref b0_3, .ref b0_4, .ref b0_5, .ref a2, .int w4, .int x0_isAnyOrder, .int x0_size])), (a1, .inl (cI, 10, .inl f1)), (a2, .inl (cI, 1024, .inl w5))]) (st := [.int l2_3]) X (c_X1_allBooks l D cI cS cL a0 a1 b0_1 b0_2 b0_3 b0_4 b0_5 a2 w4 x0_isAnyOrder x0_size r9 hc) gX1_leastWrongBooks_X1_allBooks rfl ⟨rfl, rfl⟩ hd_X1_allBooks (by exact ⟨Nat.le_of_ble_eq_true rfl, Nat.le_of_ble_eq_true rfl⟩) ⟨Nat.zero_le _, Nat.zero_le _⟩ rfl rfl rfl rfl rfl rfl rfl (Nat.le_of_ble_eq_true rfl) rfl dX1_leastWrongBooks_18 ?_
      refine g_icmp_gt (tgt := 56) X h dX1_leastWrongBooks_21 (by decide) (fun h => ?_) (fun h => ?_)
      · refine g_lv (lv' := [(1, .int l1_2)]) [1] rfl ?_
        exact hE (l1_2, w4, w5) (Option.some.inj h).symm
      · refine g_iload_n X (j := 2) dX1_leastWrongBooks_24 rfl ?_
        obtain ⟨r10, hc, h⟩ := bd1 h
        refine g_callS0 (As := [.int l2_3]) (st := []) X (c_J6_bitCount_0f7a4 l D cI cS cL l2_3 r10 hc) gX1_leastWrongBooks_J6_bitCount_0f7a4 rfl ⟨rfl, rfl⟩ hd_J6_bitCount_0f7a4.2 ⟨Nat.le_of_ble_eq_true rfl, Nat.le_of_ble_eq_true rfl⟩ ⟨Nat.zero_le _, Nat.zero_le _⟩ rfl (Nat.le_of_ble_eq_true rfl) rfl dX1_leastWrongBooks_25 ?_
        refine g_iload_n X (j := 1) dX1_leastWrongBooks_28 rfl ?_
        obtain ⟨r11, hc, h⟩ := bd1 h
        refine g_callS0 (As := [.int l1_2]) (st := [.int r10]) X (c_J6_bitCount_0f7a4 l D cI cS cL l1_2 r11 hc) gX1_leastWrongBooks_J6_bitCount_0f7a4 rfl ⟨rfl, rfl⟩ hd_J6_bitCount_0f7a4.2 ⟨Nat.le_of_ble_eq_true rfl, Nat.le_of_ble_eq_true rfl⟩ ⟨Nat.zero_le _, Nat.zero_le _⟩ rfl (Nat.le_of_ble_eq_true rfl) rfl dX1_leastWrongBooks_29 ?_
        refine jn_g h (u3 fun l1_12 w13 w14 => [(a0, .inr (1, [.ref a1, .ref b0_1, .ref b0_2, .ref b0_3, .ref b0_4, .ref b0_5, .ref a2, .int w13, .int x0_isAnyOrder, .int x0_size])), (a1, .inl (cI, 10, .inl f1)), (a2, .inl (cI, 1024, .inl w14))]) (u3 fun l1_12 w13 w14 => [(0, .ref a0), (1, .int l1_12), (2, .int l2_3)]) (u3 fun l1_12 w13 w14 => []) 50 ?_ ?_
        · rintro ⟨l1_12, w13, w14⟩ h
          dsimp only [u3] at h ⊢
          refine g_iinc (j := 2) (lv' := [(2, .int (l2_3 + 1)), (0, .ref a0), (1, .int l1_12)]) X (l2_3 + 1) dX1_leastWrongBooks_50 rfl rfl (by decide) rfl ?_
          refine g_goto (tgt := 16) X dX1_leastWrongBooks_53 (by decide) ?_
          refine g_lv (lv' := [(0, .ref a0), (1, .int l1_12), (2, .int (l2_3 + 1))]) [1, 2, 0] rfl ?_
          exact hI (l1_12, (l2_3 + 1), w13, w14) (Option.some.inj h).symm
        · intro K15 hK15 h
          refine g_icmp_ge (tgt := 50) X h dX1_leastWrongBooks_32 (by decide) (fun h => ?_) (fun h => ?_)
          · exact hK15 (l1_2, w4, w5) h
          · refine g_aload_n X (j := 0) dX1_leastWrongBooks_35 rfl ?_
            refine g_aload_n X (j := 0) dX1_leastWrongBooks_36 rfl ?_
            obtain ⟨r16, hc, h⟩ := bd1 h
            refine g_callV (q0 := 0) (ci := 1) (is := [0]) (As := []) (ws' := [(a0, .inr (1, [.ref a1, .ref b0_1, .ref b0_2, .ref b0_3, .ref b0_4, .ref b0_5, .ref a2, .int w4, .int x0_isAnyOrder, .int x0_size])), (a1, .inl (cI, 10, .inl f1)), (a2, .inl (cI, 1024, .inl w5))]) (st := [.ref a0]) X (c_X1_allBooks l D cI cS cL a0 a1 b0_1 b0_2 b0_3 b0_4 b0_5 a2 w4 x0_isAnyOrder x0_size r16 hc) gX1_leastWrongBooks_X1_allBooks rfl ⟨rfl, rfl⟩ hd_X1_allBooks (by exact ⟨Nat.le_of_ble_eq_true rfl, Nat.le_of_ble_eq_true rfl⟩) ⟨Nat.zero_le _, Nat.zero_le _⟩ rfl rfl rfl rfl rfl rfl rfl (Nat.le_of_ble_eq_true rfl) rfl dX1_leastWrongBooks_37 ?_
            refine g_iload_n X (j := 2) dX1_leastWrongBooks_40 rfl ?_
            refine g_ixor X dX1_leastWrongBooks_41 ?_
            obtain ⟨r17, o18, o19, hc, h⟩ := bd3 h
            refine g_callV (q0 := 0) (ci := 1) (is := [0, 1, 2]) (As := [.int (r16 ^^^ l2_3)]) (ws' := [(a0, .inr (1, [.ref a1, .ref b0_1, .ref b0_2, .ref b0_3, .ref b0_4, .ref b0_5, .ref a2, .int o18, .int x0_isAnyOrder, .int x0_size])), (a1, .inl (cI, 10, .inl f1)), (a2, .inl (cI, 1024, .inl o19))]) (st := []) X (c_X1_ordersOf l D cI cS cL a0 a1 a2 b0_1 b0_2 b0_3 b0_4 b0_5 (r16 ^^^ l2_3) w4 x0_isAnyOrder x0_size f1 w5 r17 o18 o19 hc) gX1_leastWrongBooks_X1_ordersOf rfl ⟨rfl, rfl⟩ hd_X1_ordersOf (by exact ⟨Nat.le_of_ble_eq_true rfl, Nat.le_of_ble_eq_true rfl⟩) ⟨Nat.zero_le _, Nat.zero_le _⟩ rfl rfl rfl rfl rfl rfl rfl (Nat.le_of_ble_eq_true rfl) rfl dX1_leastWrongBooks_42 ?_
            refine g_if_le (tgt := 50) X h dX1_leastWrongBooks_45 (by decide) (fun h => ?_) (fun h => ?_)
            · exact hK15 (l1_2, o18, o19) h
            · refine g_iload_n X (j := 2) dX1_leastWrongBooks_48 rfl ?_
              refine g_istore_n (lv' := [(1, .int l2_3), (0, .ref a0), (2, .int l2_3)]) X dX1_leastWrongBooks_49 rfl (by decide) rfl ?_
              refine g_lv (lv' := [(0, .ref a0), (1, .int l2_3), (2, .int l2_3)]) [1, 0, 2] rfl ?_
              exact hK15 (l2_3, o18, o19) h
  · refine g_iconst (v := 0) X dX1_leastWrongBooks_7 (by decide) ?_
    have h := Option.some.inj h
    simp only [Prod.mk.injEq] at h
    obtain ⟨rfl, rfl, rfl⟩ := h
    exact g_iret X hr hlk dX1_leastWrongBooks_8 rfl rfl
