set_option maxRecDepth 20000 in
theorem ggX2_copyFrom_X2_clear : GoodIn wsX2_copyFrom wsX2_clear := goodIn_r _ [5, 6, 19, 20, 21, 22, 23] (by decide +kernel) (by decide +kernel)
set_option maxRecDepth 20000 in
theorem gX2_copyFrom_X2_clear : GoodIn wsX2_copyFrom (wsV RX2 32 RX2 yX2_clear wsX2_clear) := goodIn_app (goodIn_of _ (by decide +kernel)) ggX2_copyFrom_X2_clear
set_option maxRecDepth 20000 in
theorem ggX2_copyFrom_X2_addAll : GoodIn wsX2_copyFrom wsX2_addAll := goodIn_r _ [10, 6, 11, 12, 13, 14, 15, 16, 17, 4, 18, 19, 20, 21, 22, 23] (by decide +kernel) (by decide +kernel)
set_option maxRecDepth 20000 in
theorem gX2_copyFrom_X2_addAll : GoodIn wsX2_copyFrom (wsV RX2 35 RX2 yX2_addAll wsX2_addAll) := goodIn_app (goodIn_of _ (by decide +kernel)) ggX2_copyFrom_X2_addAll
theorem dX2_copyFrom_0 : decode cX2_copyFrom 0 = .ok (.aload_n 0, 1) := by decide +kernel
theorem dX2_copyFrom_1 : decode cX2_copyFrom 1 = .ok (.invokevirtual 32, 3) := by decide +kernel
theorem dX2_copyFrom_4 : decode cX2_copyFrom 4 = .ok (.aload_n 0, 1) := by decide +kernel
theorem dX2_copyFrom_5 : decode cX2_copyFrom 5 = .ok (.aload_n 1, 1) := by decide +kernel
theorem dX2_copyFrom_6 : decode cX2_copyFrom 6 = .ok (.invokevirtual 35, 3) := by decide +kernel
theorem dX2_copyFrom_9 : decode cX2_copyFrom 9 = .ok (.return_, 1) := by decide +kernel
theorem dX2_show_0 : decode cX2_show 0 = .ok (.iconst 1, 1) := by decide +kernel
theorem dX2_show_1 : decode cX2_show 1 = .ok (.iload_n 2, 1) := by decide +kernel
theorem dX2_show_2 : decode cX2_show 2 = .ok (.ishl, 1) := by decide +kernel
theorem dX2_show_3 : decode cX2_show 3 = .ok (.istore 4, 2) := by decide +kernel
theorem dX2_show_5 : decode cX2_show 5 = .ok (.aload_n 0, 1) := by decide +kernel
theorem dX2_show_6 : decode cX2_show 6 = .ok (.getfield 15, 3) := by decide +kernel
theorem dX2_show_9 : decode cX2_show 9 = .ok (.iload_n 1, 1) := by decide +kernel
theorem dX2_show_10 : decode cX2_show 10 = .ok (.iload_n 3, 1) := by decide +kernel
theorem dX2_show_11 : decode cX2_show 11 = .ok (.ifCond .eq 15, 3) := by decide +kernel
theorem dX2_show_14 : decode cX2_show 14 = .ok (.aload_n 0, 1) := by decide +kernel
theorem dX2_show_15 : decode cX2_show 15 = .ok (.getfield 15, 3) := by decide +kernel
theorem dX2_show_18 : decode cX2_show 18 = .ok (.iload_n 1, 1) := by decide +kernel
theorem dX2_show_19 : decode cX2_show 19 = .ok (.iaload, 1) := by decide +kernel
theorem dX2_show_20 : decode cX2_show 20 = .ok (.iload 4, 2) := by decide +kernel
theorem dX2_show_22 : decode cX2_show 22 = .ok (.ior, 1) := by decide +kernel
theorem dX2_show_23 : decode cX2_show 23 = .ok (.goto 14, 3) := by decide +kernel
theorem dX2_show_26 : decode cX2_show 26 = .ok (.aload_n 0, 1) := by decide +kernel
theorem dX2_show_27 : decode cX2_show 27 = .ok (.getfield 15, 3) := by decide +kernel
theorem dX2_show_30 : decode cX2_show 30 = .ok (.iload_n 1, 1) := by decide +kernel
theorem dX2_show_31 : decode cX2_show 31 = .ok (.iaload, 1) := by decide +kernel
theorem dX2_show_32 : decode cX2_show 32 = .ok (.iload 4, 2) := by decide +kernel
theorem dX2_show_34 : decode cX2_show 34 = .ok (.iconst (-1), 1) := by decide +kernel
theorem dX2_show_35 : decode cX2_show 35 = .ok (.ixor, 1) := by decide +kernel
theorem dX2_show_36 : decode cX2_show 36 = .ok (.iand, 1) := by decide +kernel
theorem dX2_show_37 : decode cX2_show 37 = .ok (.iastore, 1) := by decide +kernel
theorem dX2_show_38 : decode cX2_show 38 = .ok (.return_, 1) := by decide +kernel
theorem dX2_reasonsAhead_0 : decode cX2_reasonsAhead 0 = .ok (.iconst 0, 1) := by decide +kernel
theorem dX2_reasonsAhead_1 : decode cX2_reasonsAhead 1 = .ok (.istore_n 3, 1) := by decide +kernel
theorem dX2_reasonsAhead_2 : decode cX2_reasonsAhead 2 = .ok (.aload_n 0, 1) := by decide +kernel
theorem dX2_reasonsAhead_3 : decode cX2_reasonsAhead 3 = .ok (.getfield 9, 3) := by decide +kernel
theorem dX2_reasonsAhead_6 : decode cX2_reasonsAhead 6 = .ok (.iload_n 1, 1) := by decide +kernel
theorem dX2_reasonsAhead_7 : decode cX2_reasonsAhead 7 = .ok (.iaload, 1) := by decide +kernel
theorem dX2_reasonsAhead_8 : decode cX2_reasonsAhead 8 = .ok (.aload_n 0, 1) := by decide +kernel
theorem dX2_reasonsAhead_9 : decode cX2_reasonsAhead 9 = .ok (.getfield 9, 3) := by decide +kernel
theorem dX2_reasonsAhead_12 : decode cX2_reasonsAhead 12 = .ok (.iload_n 2, 1) := by decide +kernel
theorem dX2_reasonsAhead_13 : decode cX2_reasonsAhead 13 = .ok (.iaload, 1) := by decide +kernel
theorem dX2_reasonsAhead_14 : decode cX2_reasonsAhead 14 = .ok (.if_icmp .ne 52, 3) := by decide +kernel
theorem dX2_reasonsAhead_17 : decode cX2_reasonsAhead 17 = .ok (.aload_n 0, 1) := by decide +kernel
theorem dX2_reasonsAhead_18 : decode cX2_reasonsAhead 18 = .ok (.getfield 15, 3) := by decide +kernel
theorem dX2_reasonsAhead_21 : decode cX2_reasonsAhead 21 = .ok (.iload_n 2, 1) := by decide +kernel
theorem dX2_reasonsAhead_22 : decode cX2_reasonsAhead 22 = .ok (.iaload, 1) := by decide +kernel
theorem dX2_reasonsAhead_23 : decode cX2_reasonsAhead 23 = .ok (.aload_n 0, 1) := by decide +kernel
theorem dX2_reasonsAhead_24 : decode cX2_reasonsAhead 24 = .ok (.getfield 15, 3) := by decide +kernel
theorem dX2_reasonsAhead_27 : decode cX2_reasonsAhead 27 = .ok (.iload_n 1, 1) := by decide +kernel
theorem dX2_reasonsAhead_28 : decode cX2_reasonsAhead 28 = .ok (.iaload, 1) := by decide +kernel
theorem dX2_reasonsAhead_29 : decode cX2_reasonsAhead 29 = .ok (.iconst (-1), 1) := by decide +kernel
theorem dX2_reasonsAhead_30 : decode cX2_reasonsAhead 30 = .ok (.ixor, 1) := by decide +kernel
theorem dX2_reasonsAhead_31 : decode cX2_reasonsAhead 31 = .ok (.iand, 1) := by decide +kernel
theorem dX2_reasonsAhead_32 : decode cX2_reasonsAhead 32 = .ok (.ifCond .eq 6, 3) := by decide +kernel
theorem dX2_reasonsAhead_35 : decode cX2_reasonsAhead 35 = .ok (.iinc 3 1, 3) := by decide +kernel
theorem dX2_reasonsAhead_38 : decode cX2_reasonsAhead 38 = .ok (.aload_n 0, 1) := by decide +kernel
theorem dX2_reasonsAhead_39 : decode cX2_reasonsAhead 39 = .ok (.getfield 18, 3) := by decide +kernel
theorem dX2_reasonsAhead_42 : decode cX2_reasonsAhead 42 = .ok (.iload_n 1, 1) := by decide +kernel
theorem dX2_reasonsAhead_43 : decode cX2_reasonsAhead 43 = .ok (.iaload, 1) := by decide +kernel
theorem dX2_reasonsAhead_44 : decode cX2_reasonsAhead 44 = .ok (.iconst (-1), 1) := by decide +kernel
theorem dX2_reasonsAhead_45 : decode cX2_reasonsAhead 45 = .ok (.if_icmp .eq 21, 3) := by decide +kernel
theorem dX2_reasonsAhead_48 : decode cX2_reasonsAhead 48 = .ok (.aload_n 0, 1) := by decide +kernel
theorem dX2_reasonsAhead_49 : decode cX2_reasonsAhead 49 = .ok (.getfield 18, 3) := by decide +kernel
theorem dX2_reasonsAhead_52 : decode cX2_reasonsAhead 52 = .ok (.iload_n 1, 1) := by decide +kernel
theorem dX2_reasonsAhead_53 : decode cX2_reasonsAhead 53 = .ok (.iaload, 1) := by decide +kernel
theorem dX2_reasonsAhead_54 : decode cX2_reasonsAhead 54 = .ok (.aload_n 0, 1) := by decide +kernel
theorem dX2_reasonsAhead_55 : decode cX2_reasonsAhead 55 = .ok (.getfield 18, 3) := by decide +kernel
theorem dX2_reasonsAhead_58 : decode cX2_reasonsAhead 58 = .ok (.iload_n 2, 1) := by decide +kernel
theorem dX2_reasonsAhead_59 : decode cX2_reasonsAhead 59 = .ok (.iaload, 1) := by decide +kernel
theorem dX2_reasonsAhead_60 : decode cX2_reasonsAhead 60 = .ok (.if_icmp .ge 6, 3) := by decide +kernel
theorem dX2_reasonsAhead_63 : decode cX2_reasonsAhead 63 = .ok (.iinc 3 2, 3) := by decide +kernel
theorem dX2_reasonsAhead_66 : decode cX2_reasonsAhead 66 = .ok (.aload_n 0, 1) := by decide +kernel
theorem dX2_reasonsAhead_67 : decode cX2_reasonsAhead 67 = .ok (.getfield 21, 3) := by decide +kernel
theorem dX2_reasonsAhead_70 : decode cX2_reasonsAhead 70 = .ok (.iload_n 1, 1) := by decide +kernel
theorem dX2_reasonsAhead_71 : decode cX2_reasonsAhead 71 = .ok (.iaload, 1) := by decide +kernel
theorem dX2_reasonsAhead_72 : decode cX2_reasonsAhead 72 = .ok (.iconst (-1), 1) := by decide +kernel
theorem dX2_reasonsAhead_73 : decode cX2_reasonsAhead 73 = .ok (.if_icmp .eq 21, 3) := by decide +kernel
theorem dX2_reasonsAhead_76 : decode cX2_reasonsAhead 76 = .ok (.aload_n 0, 1) := by decide +kernel
theorem dX2_reasonsAhead_77 : decode cX2_reasonsAhead 77 = .ok (.getfield 21, 3) := by decide +kernel
theorem dX2_reasonsAhead_80 : decode cX2_reasonsAhead 80 = .ok (.iload_n 1, 1) := by decide +kernel
theorem dX2_reasonsAhead_81 : decode cX2_reasonsAhead 81 = .ok (.iaload, 1) := by decide +kernel
theorem dX2_reasonsAhead_82 : decode cX2_reasonsAhead 82 = .ok (.aload_n 0, 1) := by decide +kernel
theorem dX2_reasonsAhead_83 : decode cX2_reasonsAhead 83 = .ok (.getfield 21, 3) := by decide +kernel
theorem dX2_reasonsAhead_86 : decode cX2_reasonsAhead 86 = .ok (.iload_n 2, 1) := by decide +kernel
theorem dX2_reasonsAhead_87 : decode cX2_reasonsAhead 87 = .ok (.iaload, 1) := by decide +kernel
theorem dX2_reasonsAhead_88 : decode cX2_reasonsAhead 88 = .ok (.if_icmp .ge 6, 3) := by decide +kernel
theorem dX2_reasonsAhead_91 : decode cX2_reasonsAhead 91 = .ok (.iinc 3 4, 3) := by decide +kernel
theorem dX2_reasonsAhead_94 : decode cX2_reasonsAhead 94 = .ok (.iload_n 3, 1) := by decide +kernel
theorem dX2_reasonsAhead_95 : decode cX2_reasonsAhead 95 = .ok (.ireturn, 1) := by decide +kernel
theorem dX2_booksWithYear_0 : decode cX2_booksWithYear 0 = .ok (.iconst 0, 1) := by decide +kernel
theorem dX2_booksWithYear_1 : decode cX2_booksWithYear 1 = .ok (.istore_n 1, 1) := by decide +kernel
theorem dX2_booksWithYear_2 : decode cX2_booksWithYear 2 = .ok (.iconst 0, 1) := by decide +kernel
theorem dX2_booksWithYear_3 : decode cX2_booksWithYear 3 = .ok (.istore_n 2, 1) := by decide +kernel
theorem dX2_booksWithYear_4 : decode cX2_booksWithYear 4 = .ok (.iload_n 2, 1) := by decide +kernel
theorem dX2_booksWithYear_5 : decode cX2_booksWithYear 5 = .ok (.aload_n 0, 1) := by decide +kernel
theorem dX2_booksWithYear_6 : decode cX2_booksWithYear 6 = .ok (.getfield 24, 3) := by decide +kernel
theorem dX2_booksWithYear_9 : decode cX2_booksWithYear 9 = .ok (.if_icmp .ge 22, 3) := by decide +kernel
theorem dX2_booksWithYear_12 : decode cX2_booksWithYear 12 = .ok (.aload_n 0, 1) := by decide +kernel
theorem dX2_booksWithYear_13 : decode cX2_booksWithYear 13 = .ok (.getfield 21, 3) := by decide +kernel
theorem dX2_booksWithYear_16 : decode cX2_booksWithYear 16 = .ok (.iload_n 2, 1) := by decide +kernel
theorem dX2_booksWithYear_17 : decode cX2_booksWithYear 17 = .ok (.iaload, 1) := by decide +kernel
theorem dX2_booksWithYear_18 : decode cX2_booksWithYear 18 = .ok (.iconst (-1), 1) := by decide +kernel
theorem dX2_booksWithYear_19 : decode cX2_booksWithYear 19 = .ok (.if_icmp .eq 6, 3) := by decide +kernel
theorem dX2_booksWithYear_22 : decode cX2_booksWithYear 22 = .ok (.iinc 1 1, 3) := by decide +kernel
theorem dX2_booksWithYear_25 : decode cX2_booksWithYear 25 = .ok (.iinc 2 1, 3) := by decide +kernel
theorem dX2_booksWithYear_28 : decode cX2_booksWithYear 28 = .ok (.goto (-24), 3) := by decide +kernel
theorem dX2_booksWithYear_31 : decode cX2_booksWithYear 31 = .ok (.iload_n 1, 1) := by decide +kernel
theorem dX2_booksWithYear_32 : decode cX2_booksWithYear 32 = .ok (.ireturn, 1) := by decide +kernel
theorem dX2_booksOfPress_0 : decode cX2_booksOfPress 0 = .ok (.iconst 0, 1) := by decide +kernel
theorem dX2_booksOfPress_1 : decode cX2_booksOfPress 1 = .ok (.istore_n 2, 1) := by decide +kernel
theorem dX2_booksOfPress_2 : decode cX2_booksOfPress 2 = .ok (.iconst 0, 1) := by decide +kernel
theorem dX2_booksOfPress_3 : decode cX2_booksOfPress 3 = .ok (.istore_n 3, 1) := by decide +kernel
theorem dX2_booksOfPress_4 : decode cX2_booksOfPress 4 = .ok (.iload_n 3, 1) := by decide +kernel
theorem dX2_booksOfPress_5 : decode cX2_booksOfPress 5 = .ok (.aload_n 0, 1) := by decide +kernel
theorem dX2_booksOfPress_6 : decode cX2_booksOfPress 6 = .ok (.getfield 24, 3) := by decide +kernel
theorem dX2_booksOfPress_9 : decode cX2_booksOfPress 9 = .ok (.if_icmp .ge 22, 3) := by decide +kernel
theorem dX2_booksOfPress_12 : decode cX2_booksOfPress 12 = .ok (.aload_n 0, 1) := by decide +kernel
theorem dX2_booksOfPress_13 : decode cX2_booksOfPress 13 = .ok (.getfield 9, 3) := by decide +kernel
theorem dX2_booksOfPress_16 : decode cX2_booksOfPress 16 = .ok (.iload_n 3, 1) := by decide +kernel
theorem dX2_booksOfPress_17 : decode cX2_booksOfPress 17 = .ok (.iaload, 1) := by decide +kernel
theorem dX2_booksOfPress_18 : decode cX2_booksOfPress 18 = .ok (.iload_n 1, 1) := by decide +kernel
theorem dX2_booksOfPress_19 : decode cX2_booksOfPress 19 = .ok (.if_icmp .ne 6, 3) := by decide +kernel
theorem dX2_booksOfPress_22 : decode cX2_booksOfPress 22 = .ok (.iinc 2 1, 3) := by decide +kernel
theorem dX2_booksOfPress_25 : decode cX2_booksOfPress 25 = .ok (.iinc 3 1, 3) := by decide +kernel
theorem dX2_booksOfPress_28 : decode cX2_booksOfPress 28 = .ok (.goto (-24), 3) := by decide +kernel
theorem dX2_booksOfPress_31 : decode cX2_booksOfPress 31 = .ok (.iload_n 2, 1) := by decide +kernel
theorem dX2_booksOfPress_32 : decode cX2_booksOfPress 32 = .ok (.ireturn, 1) := by decide +kernel
def f_X2_copyFrom (x0_size : Int32) (f1 : Nat → Int32) (f2 : Nat → Int32) (f3 : Nat → Int32) (f4 : Nat → Int32) (x5_size : Int32) (f6 : Nat → Int32) (f7 : Nat → Int32) (f8 : Nat → Int32) (f9 : Nat → Int32) : Option (Int32 × (Nat → Int32) × (Nat → Int32) × (Nat → Int32) × (Nat → Int32)) := (f_X2_clear x0_size).bind (u1 fun (o2 : Int32) => (f_X2_addAll o2 f1 f2 f3 f4 x5_size f6 f7 f8 f9).bind (u5 fun (o4 : Int32) (o5 : Nat → Int32) (o6 : Nat → Int32) (o7 : Nat → Int32) (o8 : Nat → Int32) => some (o4, o5, o6, o7, o8)))
theorem hd_X2_copyFrom : yX2_copyFrom.cls = RX2 ∧ yX2_copyFrom.cls ≠ "java/lang/invoke/MethodHandle" ∧ yX2_copyFrom.cls ≠ "java/lang/invoke/VarHandle" ∧ (parseMethodDescriptor yX2_copyFrom.desc).map (fun d => d.parameters.length) = some 1 := by decide +kernel
set_option maxRecDepth 100000 in
set_option maxHeartbeats 4000000 in
theorem c_X2_copyFrom (l : Launch) (D : va_G) (cI cS cL : ClassId) (a0 : Nat) (a1 : Nat) (a2 : Nat) (a3 : Nat) (a4 : Nat) (a5 : Nat) (a6 : Nat) (a7 : Nat) (a8 : Nat) (a9 : Nat) (x0_size : Int32) (f1 : Nat → Int32) (f2 : Nat → Int32) (f3 : Nat → Int32) (f4 : Nat → Int32) (x5_size : Int32) (f6 : Nat → Int32) (f7 : Nat → Int32) (f8 : Nat → Int32) (f9 : Nat → Int32) (y0 : Int32) (y1 : Nat → Int32) (y2 : Nat → Int32) (y3 : Nat → Int32) (y4 : Nat → Int32) (hc : f_X2_copyFrom x0_size f1 f2 f3 f4 x5_size f6 f7 f8 f9 = some (y0, y1, y2, y3, y4)) : KM l yX2_copyFrom wsX2_copyFrom { frames := 2, cells := 0, slots := 0, locals := 46 } D (tyS cI cS cL) [.ref a0, .ref a5] [(a0, .inr (2, [.ref a1, .ref a2, .ref a3, .ref a4, .int x0_size])), (a1, .inl (cI, 10, .inl f1)), (a2, .inl (cI, 10, .inl f2)), (a3, .inl (cI, 10, .inl f3)), (a4, .inl (cI, 10, .inl f4)), (a5, .inr (2, [.ref a6, .ref a7, .ref a8, .ref a9, .int x5_size])), (a6, .inl (cI, 10, .inl f6)), (a7, .inl (cI, 10, .inl f7)), (a8, .inl (cI, 10, .inl f8)), (a9, .inl (cI, 10, .inl f9))] none (fun w => w = [(a0, .inr (2, [.ref a1, .ref a2, .ref a3, .ref a4, .int y0])), (a1, .inl (cI, 10, .inl y1)), (a2, .inl (cI, 10, .inl y2)), (a3, .inl (cI, 10, .inl y3)), (a4, .inl (cI, 10, .inl y4)), (a5, .inr (2, [.ref a6, .ref a7, .ref a8, .ref a9, .int x5_size])), (a6, .inl (cI, 10, .inl f6)), (a7, .inl (cI, 10, .inl f7)), (a8, .inl (cI, 10, .inl f8)), (a9, .inl (cI, 10, .inl f9))]) 0 0 := by
  refine g_entry (cc := cX2_copyFrom) (nL := 2) (rt := none) (by decide) rfl (Nat.le_of_ble_eq_true rfl) ?_
  intro p e s m args below meth c A (X : GC p s m args c cX2_copyFrom 2 RX2 wsX2_copyFrom D (tyS cI cS cL) A) hr hlk _ _
  have h := hc
  unfold f_X2_copyFrom at h
  refine g_lv (lv' := [(0, .ref a0), (1, .ref a5)]) [0, 1] rfl ?_
  refine g_aload_n X (j := 0) dX2_copyFrom_0 rfl ?_
  obtain ⟨o2, hc, h⟩ := bd1 h
  refine g_callV (q0 := 0) (ci := 2) (is := [0]) (As := []) (ws' := [(a0, .inr (2, [.ref a1, .ref a2, .ref a3, .ref a4, .int o2])), (a1, .inl (cI, 10, .inl f1)), (a2, .inl (cI, 10, .inl f2)), (a3, .inl (cI, 10, .inl f3)), (a4, .inl (cI, 10, .inl f4)), (a5, .inr (2, [.ref a6, .ref a7, .ref a8, .ref a9, .int x5_size])), (a6, .inl (cI, 10, .inl f6)), (a7, .inl (cI, 10, .inl f7)), (a8, .inl (cI, 10, .inl f8)), (a9, .inl (cI, 10, .inl f9))]) (st := []) X (c_X2_clear l D cI cS cL a0 a1 a2 a3 a4 x0_size o2 hc) gX2_copyFrom_X2_clear rfl ⟨rfl, rfl⟩ hd_X2_clear (by exact ⟨Nat.le_of_ble_eq_true rfl, Nat.le_of_ble_eq_true rfl⟩) ⟨Nat.zero_le _, Nat.zero_le _⟩ rfl rfl rfl rfl rfl rfl rfl (Nat.le_of_ble_eq_true rfl) rfl dX2_copyFrom_1 ?_
  refine g_aload_n X (j := 0) dX2_copyFrom_4 rfl ?_
  refine g_aload_n X (j := 1) dX2_copyFrom_5 rfl ?_
  obtain ⟨o4, o5, o6, o7, o8, hc, h⟩ := bd5 h
  refine g_callV (q0 := 0) (ci := 2) (is := [0, 1, 2, 3, 4, 5, 6, 7, 8, 9]) (As := [.ref a5]) (ws' := [(a0, .inr (2, [.ref a1, .ref a2, .ref a3, .ref a4, .int o4])), (a1, .inl (cI, 10, .inl o5)), (a2, .inl (cI, 10, .inl o6)), (a3, .inl (cI, 10, .inl o7)), (a4, .inl (cI, 10, .inl o8)), (a5, .inr (2, [.ref a6, .ref a7, .ref a8, .ref a9, .int x5_size])), (a6, .inl (cI, 10, .inl f6)), (a7, .inl (cI, 10, .inl f7)), (a8, .inl (cI, 10, .inl f8)), (a9, .inl (cI, 10, .inl f9))]) (st := []) X (c_X2_addAll l D cI cS cL a0 a1 a2 a3 a4 a5 a6 a7 a8 a9 o2 f1 f2 f3 f4 x5_size f6 f7 f8 f9 o4 o5 o6 o7 o8 hc) gX2_copyFrom_X2_addAll rfl ⟨rfl, rfl⟩ hd_X2_addAll (by exact ⟨Nat.le_of_ble_eq_true rfl, Nat.le_of_ble_eq_true rfl⟩) ⟨Nat.zero_le _, Nat.zero_le _⟩ rfl rfl rfl rfl rfl rfl rfl (Nat.le_of_ble_eq_true rfl) rfl dX2_copyFrom_6 ?_
  have h := Option.some.inj h
  simp only [Prod.mk.injEq] at h
  obtain ⟨rfl, rfl, rfl, rfl, rfl⟩ := h
  exact g_vret X hr hlk dX2_copyFrom_9 rfl
def f_X2_show (p1 : Int32) (p2 : Int32) (p3 : Int32) (f1 : Nat → Int32) : Option ((Nat → Int32)) := (jn (u1 fun (s1 : Int32) => (wrA f1 10 p1 s1).bind (fun g3 => some g3)) (fun K2 => (if p3 = 0 then (rdA f1 10 p1).bind (fun v4 => K2 (v4 &&& (((1 : Int32) <<< (p2 &&& 31)) ^^^ (-1)))) else (rdA f1 10 p1).bind (fun v5 => K2 (v5 ||| ((1 : Int32) <<< (p2 &&& 31)))))))
theorem in_X2_show_X2 : ∀ w ∈ wsX20, w ∈ wsX2_show := by decide +kernel
theorem fl_X2_show_15 : Cond.fieldLink RX2 15 "ColophonHunt$Shelf" "letters" "[I" ∈ wsX2_show := by decide +kernel
theorem hd_X2_show : yX2_show.cls = RX2 ∧ yX2_show.cls ≠ "java/lang/invoke/MethodHandle" ∧ yX2_show.cls ≠ "java/lang/invoke/VarHandle" ∧ (parseMethodDescriptor yX2_show.desc).map (fun d => d.parameters.length) = some 3 := by decide +kernel
set_option maxRecDepth 100000 in
set_option maxHeartbeats 4000000 in
theorem c_X2_show (l : Launch) (D : va_G) (cI cS cL : ClassId) (a0 : Nat) (a1 : Nat) (b0_0 : Nat) (b0_2 : Nat) (b0_3 : Nat) (p1 : Int32) (p2 : Int32) (p3 : Int32) (x0_size : Int32) (f1 : Nat → Int32) (y0 : Nat → Int32) (hc : f_X2_show p1 p2 p3 f1 = some y0) : KM l yX2_show wsX2_show { frames := 0, cells := 0, slots := 0, locals := 0 } D (tyS cI cS cL) [.ref a0, .int p1, .int p2, .int p3] [(a0, .inr (2, [.ref b0_0, .ref a1, .ref b0_2, .ref b0_3, .int x0_size])), (a1, .inl (cI, 10, .inl f1))] none (fun w => w = [(a0, .inr (2, [.ref b0_0, .ref a1, .ref b0_2, .ref b0_3, .int x0_size])), (a1, .inl (cI, 10, .inl y0))]) 0 0 := by
  refine g_entry (cc := cX2_show) (nL := 5) (rt := none) (by decide) rfl (Nat.le_of_ble_eq_true rfl) ?_
  intro p e s m args below meth c A (X : GC p s m args c cX2_show 5 RX2 wsX2_show D (tyS cI cS cL) A) hr hlk _ _
  have h := hc
  unfold f_X2_show at h
  refine g_lv (lv' := [(0, .ref a0), (1, .int p1), (2, .int p2), (3, .int p3)]) [0, 1, 2, 3] rfl ?_
  refine g_iconst (v := 1) X dX2_show_0 (by decide) ?_
  refine g_iload_n X (j := 2) dX2_show_1 rfl ?_
  refine g_ishl X dX2_show_2 ?_
  refine g_istore (lv' := [(4, .int ((1 : Int32) <<< (p2 &&& 31))), (0, .ref a0), (1, .int p1), (2, .int p2), (3, .int p3)]) X dX2_show_3 (by decide) rfl ?_
  refine g_aload_n X (j := 1) dX2_show_5 rfl ?_
  refine g_get (q0 := 0) (k := 1) (ci := 2) X in_X2_show_X2 fl_X2_show_15 rfl rfl (Nat.le_of_ble_eq_true rfl) rfl dX2_show_6 ?_
  refine g_iload_n X (j := 2) dX2_show_9 rfl ?_
  refine g_iload_n X (j := 4) dX2_show_10 rfl ?_
  refine jn_g h (u1 fun s1 => [(a0, .inr (2, [.ref b0_0, .ref a1, .ref b0_2, .ref b0_3, .int x0_size])), (a1, .inl (cI, 10, .inl f1))]) (u1 fun s1 => []) (u1 fun s1 => [.int s1, .int p1, .ref a1]) 37 ?_ ?_
  · rintro s1 h
    dsimp only [u1] at h ⊢
    refine g_iast (q0 := 1) (t0 := 0) (ws1 := fun g3 => [(a0, .inr (2, [.ref b0_0, .ref a1, .ref b0_2, .ref b0_3, .int x0_size])), (a1, .inl (cI, 10, .inl g3))]) X h rfl rfl dX2_show_37 (fun _ => rfl) (fun g3 h => ?_)
    have h := Option.some.inj h
    subst h
    exact g_vret X hr hlk dX2_show_38 rfl
  · intro K2 hK2 h
    refine g_if_eq (tgt := 26) X h dX2_show_11 (by decide) (fun h => ?_) (fun h => ?_)
    · refine g_aload_n X (j := 1) dX2_show_26 rfl ?_
      refine g_get (q0 := 0) (k := 1) (ci := 2) X in_X2_show_X2 fl_X2_show_15 rfl rfl (Nat.le_of_ble_eq_true rfl) rfl dX2_show_27 ?_
      refine g_iload_n X (j := 2) dX2_show_30 rfl ?_
      refine g_iald (q0 := 1) (t0 := 0) X h rfl rfl dX2_show_31 (fun v4 h => ?_)
      refine g_iload X (j := 0) dX2_show_32 rfl ?_
      refine g_iconst (v := (-1)) X dX2_show_34 (by decide) ?_
      refine g_ixor X dX2_show_35 ?_
      refine g_iand X dX2_show_36 ?_
      refine g_lv (lv' := []) [] rfl ?_
      exact hK2 (v4 &&& (((1 : Int32) <<< (p2 &&& 31)) ^^^ (-1))) h
    · refine g_aload_n X (j := 1) dX2_show_14 rfl ?_
      refine g_get (q0 := 0) (k := 1) (ci := 2) X in_X2_show_X2 fl_X2_show_15 rfl rfl (Nat.le_of_ble_eq_true rfl) rfl dX2_show_15 ?_
      refine g_iload_n X (j := 2) dX2_show_18 rfl ?_
      refine g_iald (q0 := 1) (t0 := 0) X h rfl rfl dX2_show_19 (fun v5 h => ?_)
      refine g_iload X (j := 0) dX2_show_20 rfl ?_
      refine g_ior X dX2_show_22 ?_
      refine g_goto (tgt := 37) X dX2_show_23 (by decide) ?_
      refine g_lv (lv' := []) [] rfl ?_
      exact hK2 (v5 ||| ((1 : Int32) <<< (p2 &&& 31))) h
def f_X2_reasonsAhead (p1 : Int32) (p2 : Int32) (f1 : Nat → Int32) (f2 : Nat → Int32) (f3 : Nat → Int32) (f4 : Nat → Int32) : Option (Int32) := (rdA f1 10 p1).bind (fun v1 => (rdA f1 10 p2).bind (fun v2 => (jn (u1 fun (l3_3 : Int32) => (rdA f4 10 p1).bind (fun v5 => (jn (u1 fun (l3_6 : Int32) => some l3_6) (fun K7 => (if v5 = (-1) then K7 l3_3 else (rdA f4 10 p1).bind (fun v8 => (rdA f4 10 p2).bind (fun v9 => (if v9 ≤ v8 then K7 l3_3 else K7 (l3_3 + 4))))))))) (fun K4 => (if v1 = v2 then (rdA f2 10 p2).bind (fun v10 => (rdA f2 10 p1).bind (fun v11 => (jn (u1 fun (l3_12 : Int32) => (rdA f3 10 p1).bind (fun v14 => (if v14 = (-1) then K4 l3_12 else (rdA f3 10 p1).bind (fun v15 => (rdA f3 10 p2).bind (fun v16 => (if v16 ≤ v15 then K4 l3_12 else K4 (l3_12 + 2))))))) (fun K13 => (if (v10 &&& (v11 ^^^ (-1))) = 0 then K13 0 else K13 (0 + 1)))))) else K4 0)))))
theorem in_X2_reasonsAhead_X2 : ∀ w ∈ wsX20, w ∈ wsX2_reasonsAhead := by decide +kernel
theorem fl_X2_reasonsAhead_9 : Cond.fieldLink RX2 9 "ColophonHunt$Shelf" "presses" "[I" ∈ wsX2_reasonsAhead := by decide +kernel
theorem fl_X2_reasonsAhead_21 : Cond.fieldLink RX2 21 "ColophonHunt$Shelf" "years" "[I" ∈ wsX2_reasonsAhead := by decide +kernel
theorem fl_X2_reasonsAhead_15 : Cond.fieldLink RX2 15 "ColophonHunt$Shelf" "letters" "[I" ∈ wsX2_reasonsAhead := by decide +kernel
theorem fl_X2_reasonsAhead_18 : Cond.fieldLink RX2 18 "ColophonHunt$Shelf" "moulds" "[I" ∈ wsX2_reasonsAhead := by decide +kernel
theorem hd_X2_reasonsAhead : yX2_reasonsAhead.cls = RX2 ∧ yX2_reasonsAhead.cls ≠ "java/lang/invoke/MethodHandle" ∧ yX2_reasonsAhead.cls ≠ "java/lang/invoke/VarHandle" ∧ (parseMethodDescriptor yX2_reasonsAhead.desc).map (fun d => d.parameters.length) = some 2 := by decide +kernel
set_option maxRecDepth 100000 in
set_option maxHeartbeats 4000000 in
theorem c_X2_reasonsAhead (l : Launch) (D : va_G) (cI cS cL : ClassId) (a0 : Nat) (a1 : Nat) (a2 : Nat) (a3 : Nat) (a4 : Nat) (p1 : Int32) (p2 : Int32) (x0_size : Int32) (f1 : Nat → Int32) (f2 : Nat → Int32) (f3 : Nat → Int32) (f4 : Nat → Int32) (rr : Int32) (hc : f_X2_reasonsAhead p1 p2 f1 f2 f3 f4 = some rr) : KM l yX2_reasonsAhead wsX2_reasonsAhead { frames := 0, cells := 0, slots := 0, locals := 0 } D (tyS cI cS cL) [.ref a0, .int p1, .int p2] [(a0, .inr (2, [.ref a1, .ref a2, .ref a3, .ref a4, .int x0_size])), (a1, .inl (cI, 10, .inl f1)), (a2, .inl (cI, 10, .inl f2)), (a3, .inl (cI, 10, .inl f3)), (a4, .inl (cI, 10, .inl f4))] (some (.int rr)) (fun w => w = [(a0, .inr (2, [.ref a1, .ref a2, .ref a3, .ref a4, .int x0_size])), (a1, .inl (cI, 10, .inl f1)), (a2, .inl (cI, 10, .inl f2)), (a3, .inl (cI, 10, .inl f3)), (a4, .inl (cI, 10, .inl f4))]) 0 0 := by
  refine g_entry (cc := cX2_reasonsAhead) (nL := 4) (rt := (some .int)) (by decide) rfl (Nat.le_of_ble_eq_true rfl) ?_
  intro p e s m args below meth c A (X : GC p s m args c cX2_reasonsAhead 4 RX2 wsX2_reasonsAhead D (tyS cI cS cL) A) hr hlk _ _
  have h := hc
  unfold f_X2_reasonsAhead at h
  refine g_lv (lv' := [(0, .ref a0), (1, .int p1), (2, .int p2)]) [0, 1, 2] rfl ?_
  refine g_iconst (v := 0) X dX2_reasonsAhead_0 (by decide) ?_
  refine g_istore_n (lv' := [(3, .int 0), (0, .ref a0), (1, .int p1), (2, .int p2)]) X dX2_reasonsAhead_1 rfl (by decide) rfl ?_
  refine g_aload_n X (j := 1) dX2_reasonsAhead_2 rfl ?_
  refine g_get (q0 := 0) (k := 0) (ci := 2) X in_X2_reasonsAhead_X2 fl_X2_reasonsAhead_9 rfl rfl (Nat.le_of_ble_eq_true rfl) rfl dX2_reasonsAhead_3 ?_
  refine g_iload_n X (j := 2) dX2_reasonsAhead_6 rfl ?_
  refine g_iald (q0 := 1) (t0 := 0) X h rfl rfl dX2_reasonsAhead_7 (fun v1 h => ?_)
  refine g_aload_n X (j := 1) dX2_reasonsAhead_8 rfl ?_
  refine g_get (q0 := 0) (k := 0) (ci := 2) X in_X2_reasonsAhead_X2 fl_X2_reasonsAhead_9 rfl rfl (Nat.le_of_ble_eq_true rfl) rfl dX2_reasonsAhead_9 ?_
  refine g_iload_n X (j := 3) dX2_reasonsAhead_12 rfl ?_
  refine g_iald (q0 := 1) (t0 := 0) X h rfl rfl dX2_reasonsAhead_13 (fun v2 h => ?_)
  refine jn_g h (u1 fun l3_3 => [(a0, .inr (2, [.ref a1, .ref a2, .ref a3, .ref a4, .int x0_size])), (a1, .inl (cI, 10, .inl f1)), (a2, .inl (cI, 10, .inl f2)), (a3, .inl (cI, 10, .inl f3)), (a4, .inl (cI, 10, .inl f4))]) (u1 fun l3_3 => [(0, .ref a0), (1, .int p1), (2, .int p2), (3, .int l3_3)]) (u1 fun l3_3 => []) 66 ?_ ?_
  · rintro l3_3 h
    dsimp only [u1] at h ⊢
    refine g_aload_n X (j := 0) dX2_reasonsAhead_66 rfl ?_
    refine g_get (q0 := 0) (k := 3) (ci := 2) X in_X2_reasonsAhead_X2 fl_X2_reasonsAhead_21 rfl rfl (Nat.le_of_ble_eq_true rfl) rfl dX2_reasonsAhead_67 ?_
    refine g_iload_n X (j := 1) dX2_reasonsAhead_70 rfl ?_
    refine g_iald (q0 := 4) (t0 := 0) X h rfl rfl dX2_reasonsAhead_71 (fun v5 h => ?_)
    refine g_iconst (v := (-1)) X dX2_reasonsAhead_72 (by decide) ?_
    refine jn_g h (u1 fun l3_6 => [(a0, .inr (2, [.ref a1, .ref a2, .ref a3, .ref a4, .int x0_size])), (a1, .inl (cI, 10, .inl f1)), (a2, .inl (cI, 10, .inl f2)), (a3, .inl (cI, 10, .inl f3)), (a4, .inl (cI, 10, .inl f4))]) (u1 fun l3_6 => [(3, .int l3_6)]) (u1 fun l3_6 => []) 94 ?_ ?_
    · rintro l3_6 h
      dsimp only [u1] at h ⊢
      refine g_iload_n X (j := 0) dX2_reasonsAhead_94 rfl ?_
      have h := Option.some.inj h
      subst h
      exact g_iret X hr hlk dX2_reasonsAhead_95 rfl rfl
    · intro K7 hK7 h
      refine g_icmp_eq (tgt := 94) X h dX2_reasonsAhead_73 (by decide) (fun h => ?_) (fun h => ?_)
      · refine g_lv (lv' := [(3, .int l3_3)]) [3] rfl ?_
        exact hK7 l3_3 h
      · refine g_aload_n X (j := 0) dX2_reasonsAhead_76 rfl ?_
        refine g_get (q0 := 0) (k := 3) (ci := 2) X in_X2_reasonsAhead_X2 fl_X2_reasonsAhead_21 rfl rfl (Nat.le_of_ble_eq_true rfl) rfl dX2_reasonsAhead_77 ?_
        refine g_iload_n X (j := 1) dX2_reasonsAhead_80 rfl ?_
        refine g_iald (q0 := 4) (t0 := 0) X h rfl rfl dX2_reasonsAhead_81 (fun v8 h => ?_)
        refine g_aload_n X (j := 0) dX2_reasonsAhead_82 rfl ?_
        refine g_get (q0 := 0) (k := 3) (ci := 2) X in_X2_reasonsAhead_X2 fl_X2_reasonsAhead_21 rfl rfl (Nat.le_of_ble_eq_true rfl) rfl dX2_reasonsAhead_83 ?_
        refine g_iload_n X (j := 2) dX2_reasonsAhead_86 rfl ?_
        refine g_iald (q0 := 4) (t0 := 0) X h rfl rfl dX2_reasonsAhead_87 (fun v9 h => ?_)
        refine g_icmp_ge (tgt := 94) X h dX2_reasonsAhead_88 (by decide) (fun h => ?_) (fun h => ?_)
        · refine g_lv (lv' := [(3, .int l3_3)]) [3] rfl ?_
          exact hK7 l3_3 h
        · refine g_iinc (j := 3) (lv' := [(3, .int (l3_3 + 4)), (0, .ref a0), (1, .int p1), (2, .int p2)]) X (l3_3 + 4) dX2_reasonsAhead_91 rfl rfl (by decide) rfl ?_
          refine g_lv (lv' := [(3, .int (l3_3 + 4))]) [0] rfl ?_
          exact hK7 (l3_3 + 4) h
  · intro K4 hK4 h
    refine g_icmp_ne (tgt := 66) X h dX2_reasonsAhead_14 (by decide) (fun h => ?_) (fun h => ?_)
    · refine g_lv (lv' := [(0, .ref a0), (1, .int p1), (2, .int p2), (3, .int 0)]) [1, 2, 3, 0] rfl ?_
      exact hK4 0 h
    · refine g_aload_n X (j := 1) dX2_reasonsAhead_17 rfl ?_
      refine g_get (q0 := 0) (k := 1) (ci := 2) X in_X2_reasonsAhead_X2 fl_X2_reasonsAhead_15 rfl rfl (Nat.le_of_ble_eq_true rfl) rfl dX2_reasonsAhead_18 ?_
      refine g_iload_n X (j := 3) dX2_reasonsAhead_21 rfl ?_
      refine g_iald (q0 := 2) (t0 := 0) X h rfl rfl dX2_reasonsAhead_22 (fun v10 h => ?_)
      refine g_aload_n X (j := 1) dX2_reasonsAhead_23 rfl ?_
      refine g_get (q0 := 0) (k := 1) (ci := 2) X in_X2_reasonsAhead_X2 fl_X2_reasonsAhead_15 rfl rfl (Nat.le_of_ble_eq_true rfl) rfl dX2_reasonsAhead_24 ?_
      refine g_iload_n X (j := 2) dX2_reasonsAhead_27 rfl ?_
      refine g_iald (q0 := 2) (t0 := 0) X h rfl rfl dX2_reasonsAhead_28 (fun v11 h => ?_)
      refine g_iconst (v := (-1)) X dX2_reasonsAhead_29 (by decide) ?_
      refine g_ixor X dX2_reasonsAhead_30 ?_
      refine g_iand X dX2_reasonsAhead_31 ?_
      refine jn_g h (u1 fun l3_12 => [(a0, .inr (2, [.ref a1, .ref a2, .ref a3, .ref a4, .int x0_size])), (a1, .inl (cI, 10, .inl f1)), (a2, .inl (cI, 10, .inl f2)), (a3, .inl (cI, 10, .inl f3)), (a4, .inl (cI, 10, .inl f4))]) (u1 fun l3_12 => [(0, .ref a0), (1, .int p1), (2, .int p2), (3, .int l3_12)]) (u1 fun l3_12 => []) 38 ?_ ?_
      · rintro l3_12 h
        dsimp only [u1] at h ⊢
        refine g_aload_n X (j := 0) dX2_reasonsAhead_38 rfl ?_
        refine g_get (q0 := 0) (k := 2) (ci := 2) X in_X2_reasonsAhead_X2 fl_X2_reasonsAhead_18 rfl rfl (Nat.le_of_ble_eq_true rfl) rfl dX2_reasonsAhead_39 ?_
        refine g_iload_n X (j := 1) dX2_reasonsAhead_42 rfl ?_
        refine g_iald (q0 := 3) (t0 := 0) X h rfl rfl dX2_reasonsAhead_43 (fun v14 h => ?_)
        refine g_iconst (v := (-1)) X dX2_reasonsAhead_44 (by decide) ?_
        refine g_icmp_eq (tgt := 66) X h dX2_reasonsAhead_45 (by decide) (fun h => ?_) (fun h => ?_)
        · exact hK4 l3_12 h
        · refine g_aload_n X (j := 0) dX2_reasonsAhead_48 rfl ?_
          refine g_get (q0 := 0) (k := 2) (ci := 2) X in_X2_reasonsAhead_X2 fl_X2_reasonsAhead_18 rfl rfl (Nat.le_of_ble_eq_true rfl) rfl dX2_reasonsAhead_49 ?_
          refine g_iload_n X (j := 1) dX2_reasonsAhead_52 rfl ?_
          refine g_iald (q0 := 3) (t0 := 0) X h rfl rfl dX2_reasonsAhead_53 (fun v15 h => ?_)
          refine g_aload_n X (j := 0) dX2_reasonsAhead_54 rfl ?_
          refine g_get (q0 := 0) (k := 2) (ci := 2) X in_X2_reasonsAhead_X2 fl_X2_reasonsAhead_18 rfl rfl (Nat.le_of_ble_eq_true rfl) rfl dX2_reasonsAhead_55 ?_
          refine g_iload_n X (j := 2) dX2_reasonsAhead_58 rfl ?_
          refine g_iald (q0 := 3) (t0 := 0) X h rfl rfl dX2_reasonsAhead_59 (fun v16 h => ?_)
          refine g_icmp_ge (tgt := 66) X h dX2_reasonsAhead_60 (by decide) (fun h => ?_) (fun h => ?_)
          · exact hK4 l3_12 h
          · refine g_iinc (j := 3) (lv' := [(3, .int (l3_12 + 2)), (0, .ref a0), (1, .int p1), (2, .int p2)]) X (l3_12 + 2) dX2_reasonsAhead_63 rfl rfl (by decide) rfl ?_
            refine g_lv (lv' := [(0, .ref a0), (1, .int p1), (2, .int p2), (3, .int (l3_12 + 2))]) [1, 2, 3, 0] rfl ?_
            exact hK4 (l3_12 + 2) h
      · intro K13 hK13 h
        refine g_if_eq (tgt := 38) X h dX2_reasonsAhead_32 (by decide) (fun h => ?_) (fun h => ?_)
        · refine g_lv (lv' := [(0, .ref a0), (1, .int p1), (2, .int p2), (3, .int 0)]) [1, 2, 3, 0] rfl ?_
          exact hK13 0 h
        · refine g_iinc (j := 0) (lv' := [(3, .int (0 + 1)), (0, .ref a0), (1, .int p1), (2, .int p2)]) X (0 + 1) dX2_reasonsAhead_35 rfl rfl (by decide) rfl ?_
          refine g_lv (lv' := [(0, .ref a0), (1, .int p1), (2, .int p2), (3, .int (0 + 1))]) [1, 2, 3, 0] rfl ?_
          exact hK13 (0 + 1) h
def f_X2_booksWithYear (x0_size : Int32) (f1 : Nat → Int32) : Option (Int32) := (wl (u2 fun (l1_1 : Int32) (l2_2 : Int32) => (if x0_size ≤ l2_2 then some (Sum.inr l1_1) else (rdA f1 10 l2_2).bind (fun v4 => (jn (u1 fun (l1_5 : Int32) => some (Sum.inl (l1_5, (l2_2 + 1)))) (fun K6 => (if v4 = (-1) then K6 l1_1 else K6 (l1_1 + 1))))))) 9999 (0, 0)).bind (u1 fun (l1_3 : Int32) => some l1_3)
theorem in_X2_booksWithYear_X2 : ∀ w ∈ wsX20, w ∈ wsX2_booksWithYear := by decide +kernel
theorem fl_X2_booksWithYear_24 : Cond.fieldLink RX2 24 "ColophonHunt$Shelf" "size" "I" ∈ wsX2_booksWithYear := by decide +kernel
theorem fl_X2_booksWithYear_21 : Cond.fieldLink RX2 21 "ColophonHunt$Shelf" "years" "[I" ∈ wsX2_booksWithYear := by decide +kernel
theorem hd_X2_booksWithYear : yX2_booksWithYear.cls = RX2 ∧ yX2_booksWithYear.cls ≠ "java/lang/invoke/MethodHandle" ∧ yX2_booksWithYear.cls ≠ "java/lang/invoke/VarHandle" ∧ (parseMethodDescriptor yX2_booksWithYear.desc).map (fun d => d.parameters.length) = some 0 := by decide +kernel
set_option maxRecDepth 100000 in
set_option maxHeartbeats 4000000 in
theorem c_X2_booksWithYear (l : Launch) (D : va_G) (cI cS cL : ClassId) (a0 : Nat) (a1 : Nat) (b0_0 : Nat) (b0_1 : Nat) (b0_2 : Nat) (x0_size : Int32) (f1 : Nat → Int32) (rr : Int32) (hc : f_X2_booksWithYear x0_size f1 = some rr) : KM l yX2_booksWithYear wsX2_booksWithYear { frames := 0, cells := 0, slots := 0, locals := 0 } D (tyS cI cS cL) [.ref a0] [(a0, .inr (2, [.ref b0_0, .ref b0_1, .ref b0_2, .ref a1, .int x0_size])), (a1, .inl (cI, 10, .inl f1))] (some (.int rr)) (fun w => w = [(a0, .inr (2, [.ref b0_0, .ref b0_1, .ref b0_2, .ref a1, .int x0_size])), (a1, .inl (cI, 10, .inl f1))]) 0 0 := by
  refine g_entry (cc := cX2_booksWithYear) (nL := 3) (rt := (some .int)) (by decide) rfl (Nat.le_of_ble_eq_true rfl) ?_
  intro p e s m args below meth c A (X : GC p s m args c cX2_booksWithYear 3 RX2 wsX2_booksWithYear D (tyS cI cS cL) A) hr hlk _ _
  have h := hc
  unfold f_X2_booksWithYear at h
  refine g_lv (lv' := [(0, .ref a0)]) [0] rfl ?_
  refine g_iconst (v := 0) X dX2_booksWithYear_0 (by decide) ?_
  refine g_istore_n (lv' := [(1, .int 0), (0, .ref a0)]) X dX2_booksWithYear_1 rfl (by decide) rfl ?_
  refine g_iconst (v := 0) X dX2_booksWithYear_2 (by decide) ?_
  refine g_istore_n (lv' := [(2, .int 0), (1, .int 0), (0, .ref a0)]) X dX2_booksWithYear_3 rfl (by decide) rfl ?_
  refine g_lv (lv' := [(0, .ref a0), (1, .int 0), (2, .int 0)]) [2, 1, 0] rfl ?_
  refine wl_g1 h (u2 fun l1_1 l2_2 => [(a0, .inr (2, [.ref b0_0, .ref b0_1, .ref b0_2, .ref a1, .int x0_size])), (a1, .inl (cI, 10, .inl f1))]) (u2 fun l1_1 l2_2 => [(0, .ref a0), (1, .int l1_1), (2, .int l2_2)]) rfl rfl (u1 fun l1_3 => [(a0, .inr (2, [.ref b0_0, .ref b0_1, .ref b0_2, .ref a1, .int x0_size])), (a1, .inl (cI, 10, .inl f1))]) (u1 fun l1_3 => [(1, .int l1_3)]) 31 ?_ ?_
  · rintro l1_3 h
    dsimp only [u1] at h ⊢
    refine g_iload_n X (j := 0) dX2_booksWithYear_31 rfl ?_
    have h := Option.some.inj h
    subst h
    exact g_iret X hr hlk dX2_booksWithYear_32 rfl rfl
  · rintro ⟨l1_1, l2_2⟩ o h hI hE
    dsimp only [u2] at h ⊢
    refine g_iload_n X (j := 2) dX2_booksWithYear_4 rfl ?_
    refine g_aload_n X (j := 0) dX2_booksWithYear_5 rfl ?_
    refine g_get (q0 := 0) (k := 4) (ci := 2) X in_X2_booksWithYear_X2 fl_X2_booksWithYear_24 rfl rfl (Nat.le_of_ble_eq_true rfl) rfl dX2_booksWithYear_6 ?_
    refine g_icmp_ge (tgt := 31) X h dX2_booksWithYear_9 (by decide) (fun h => ?_) (fun h => ?_)
    · refine g_lv (lv' := [(1, .int l1_1)]) [1] rfl ?_
      exact hE l1_1 (Option.some.inj h).symm
    · refine g_aload_n X (j := 0) dX2_booksWithYear_12 rfl ?_
      refine g_get (q0 := 0) (k := 3) (ci := 2) X in_X2_booksWithYear_X2 fl_X2_booksWithYear_21 rfl rfl (Nat.le_of_ble_eq_true rfl) rfl dX2_booksWithYear_13 ?_
      refine g_iload_n X (j := 2) dX2_booksWithYear_16 rfl ?_
      refine g_iald (q0 := 1) (t0 := 0) X h rfl rfl dX2_booksWithYear_17 (fun v4 h => ?_)
      refine g_iconst (v := (-1)) X dX2_booksWithYear_18 (by decide) ?_
      refine jn_g h (u1 fun l1_5 => [(a0, .inr (2, [.ref b0_0, .ref b0_1, .ref b0_2, .ref a1, .int x0_size])), (a1, .inl (cI, 10, .inl f1))]) (u1 fun l1_5 => [(0, .ref a0), (1, .int l1_5), (2, .int l2_2)]) (u1 fun l1_5 => []) 25 ?_ ?_
      · rintro l1_5 h
        dsimp only [u1] at h ⊢
        refine g_iinc (j := 2) (lv' := [(2, .int (l2_2 + 1)), (0, .ref a0), (1, .int l1_5)]) X (l2_2 + 1) dX2_booksWithYear_25 rfl rfl (by decide) rfl ?_
        refine g_goto (tgt := 4) X dX2_booksWithYear_28 (by decide) ?_
        refine g_lv (lv' := [(0, .ref a0), (1, .int l1_5), (2, .int (l2_2 + 1))]) [1, 2, 0] rfl ?_
        exact hI (l1_5, (l2_2 + 1)) (Option.some.inj h).symm
      · intro K6 hK6 h
        refine g_icmp_eq (tgt := 25) X h dX2_booksWithYear_19 (by decide) (fun h => ?_) (fun h => ?_)
        · exact hK6 l1_1 h
        · refine g_iinc (j := 1) (lv' := [(1, .int (l1_1 + 1)), (0, .ref a0), (2, .int l2_2)]) X (l1_1 + 1) dX2_booksWithYear_22 rfl rfl (by decide) rfl ?_
          refine g_lv (lv' := [(0, .ref a0), (1, .int (l1_1 + 1)), (2, .int l2_2)]) [1, 0, 2] rfl ?_
          exact hK6 (l1_1 + 1) h
def f_X2_booksOfPress (p1 : Int32) (x0_size : Int32) (f1 : Nat → Int32) : Option (Int32) := (wl (u2 fun (l2_1 : Int32) (l3_2 : Int32) => (if x0_size ≤ l3_2 then some (Sum.inr l2_1) else (rdA f1 10 l3_2).bind (fun v4 => (jn (u1 fun (l2_5 : Int32) => some (Sum.inl (l2_5, (l3_2 + 1)))) (fun K6 => (if v4 = p1 then K6 (l2_1 + 1) else K6 l2_1)))))) 9999 (0, 0)).bind (u1 fun (l2_3 : Int32) => some l2_3)
theorem in_X2_booksOfPress_X2 : ∀ w ∈ wsX20, w ∈ wsX2_booksOfPress := by decide +kernel
theorem fl_X2_booksOfPress_24 : Cond.fieldLink RX2 24 "ColophonHunt$Shelf" "size" "I" ∈ wsX2_booksOfPress := by decide +kernel
theorem fl_X2_booksOfPress_9 : Cond.fieldLink RX2 9 "ColophonHunt$Shelf" "presses" "[I" ∈ wsX2_booksOfPress := by decide +kernel
theorem hd_X2_booksOfPress : yX2_booksOfPress.cls = RX2 ∧ yX2_booksOfPress.cls ≠ "java/lang/invoke/MethodHandle" ∧ yX2_booksOfPress.cls ≠ "java/lang/invoke/VarHandle" ∧ (parseMethodDescriptor yX2_booksOfPress.desc).map (fun d => d.parameters.length) = some 1 := by decide +kernel
set_option maxRecDepth 100000 in
set_option maxHeartbeats 4000000 in
theorem c_X2_booksOfPress (l : Launch) (D : va_G) (cI cS cL : ClassId) (a0 : Nat) (a1 : Nat) (b0_1 : Nat) (b0_2 : Nat) (b0_3 : Nat) (p1 : Int32) (x0_size : Int32) (f1 : Nat → Int32) (rr : Int32) (hc : f_X2_booksOfPress p1 x0_size f1 = some rr) : KM l yX2_booksOfPress wsX2_booksOfPress { frames := 0, cells := 0, slots := 0, locals := 0 } D (tyS cI cS cL) [.ref a0, .int p1] [(a0, .inr (2, [.ref a1, .ref b0_1, .ref b0_2, .ref b0_3, .int x0_size])), (a1, .inl (cI, 10, .inl f1))] (some (.int rr)) (fun w => w = [(a0, .inr (2, [.ref a1, .ref b0_1, .ref b0_2, .ref b0_3, .int x0_size])), (a1, .inl (cI, 10, .inl f1))]) 0 0 := by
  refine g_entry (cc := cX2_booksOfPress) (nL := 4) (rt := (some .int)) (by decide) rfl (Nat.le_of_ble_eq_true rfl) ?_
  intro p e s m args below meth c A (X : GC p s m args c cX2_booksOfPress 4 RX2 wsX2_booksOfPress D (tyS cI cS cL) A) hr hlk _ _
  have h := hc
  unfold f_X2_booksOfPress at h
  refine g_lv (lv' := [(0, .ref a0), (1, .int p1)]) [0, 1] rfl ?_
  refine g_iconst (v := 0) X dX2_booksOfPress_0 (by decide) ?_
  refine g_istore_n (lv' := [(2, .int 0), (0, .ref a0), (1, .int p1)]) X dX2_booksOfPress_1 rfl (by decide) rfl ?_
  refine g_iconst (v := 0) X dX2_booksOfPress_2 (by decide) ?_
  refine g_istore_n (lv' := [(3, .int 0), (2, .int 0), (0, .ref a0), (1, .int p1)]) X dX2_booksOfPress_3 rfl (by decide) rfl ?_
  refine g_lv (lv' := [(0, .ref a0), (1, .int p1), (2, .int 0), (3, .int 0)]) [2, 3, 1, 0] rfl ?_
  refine wl_g1 h (u2 fun l2_1 l3_2 => [(a0, .inr (2, [.ref a1, .ref b0_1, .ref b0_2, .ref b0_3, .int x0_size])), (a1, .inl (cI, 10, .inl f1))]) (u2 fun l2_1 l3_2 => [(0, .ref a0), (1, .int p1), (2, .int l2_1), (3, .int l3_2)]) rfl rfl (u1 fun l2_3 => [(a0, .inr (2, [.ref a1, .ref b0_1, .ref b0_2, .ref b0_3, .int x0_size])), (a1, .inl (cI, 10, .inl f1))]) (u1 fun l2_3 => [(2, .int l2_3)]) 31 ?_ ?_
  · rintro l2_3 h
    dsimp only [u1] at h ⊢
    refine g_iload_n X (j := 0) dX2_booksOfPress_31 rfl ?_
    have h := Option.some.inj h
    subst h
    exact g_iret X hr hlk dX2_booksOfPress_32 rfl rfl
  · rintro ⟨l2_1, l3_2⟩ o h hI hE
    dsimp only [u2] at h ⊢
    refine g_iload_n X (j := 3) dX2_booksOfPress_4 rfl ?_
    refine g_aload_n X (j := 0) dX2_booksOfPress_5 rfl ?_
    refine g_get (q0 := 0) (k := 4) (ci := 2) X in_X2_booksOfPress_X2 fl_X2_booksOfPress_24 rfl rfl (Nat.le_of_ble_eq_true rfl) rfl dX2_booksOfPress_6 ?_
    refine g_icmp_ge (tgt := 31) X h dX2_booksOfPress_9 (by decide) (fun h => ?_) (fun h => ?_)
    · refine g_lv (lv' := [(2, .int l2_1)]) [2] rfl ?_
      exact hE l2_1 (Option.some.inj h).symm
    · refine g_aload_n X (j := 0) dX2_booksOfPress_12 rfl ?_
      refine g_get (q0 := 0) (k := 0) (ci := 2) X in_X2_booksOfPress_X2 fl_X2_booksOfPress_9 rfl rfl (Nat.le_of_ble_eq_true rfl) rfl dX2_booksOfPress_13 ?_
      refine g_iload_n X (j := 3) dX2_booksOfPress_16 rfl ?_
      refine g_iald (q0 := 1) (t0 := 0) X h rfl rfl dX2_booksOfPress_17 (fun v4 h => ?_)
      refine g_iload_n X (j := 1) dX2_booksOfPress_18 rfl ?_
      refine jn_g h (u1 fun l2_5 => [(a0, .inr (2, [.ref a1, .ref b0_1, .ref b0_2, .ref b0_3, .int x0_size])), (a1, .inl (cI, 10, .inl f1))]) (u1 fun l2_5 => [(0, .ref a0), (1, .int p1), (2, .int l2_5), (3, .int l3_2)]) (u1 fun l2_5 => []) 25 ?_ ?_
      · rintro l2_5 h
        dsimp only [u1] at h ⊢
        refine g_iinc (j := 3) (lv' := [(3, .int (l3_2 + 1)), (0, .ref a0), (1, .int p1), (2, .int l2_5)]) X (l3_2 + 1) dX2_booksOfPress_25 rfl rfl (by decide) rfl ?_
        refine g_goto (tgt := 4) X dX2_booksOfPress_28 (by decide) ?_
        refine g_lv (lv' := [(0, .ref a0), (1, .int p1), (2, .int l2_5), (3, .int (l3_2 + 1))]) [1, 2, 3, 0] rfl ?_
        exact hI (l2_5, (l3_2 + 1)) (Option.some.inj h).symm
      · intro K6 hK6 h
        refine g_icmp_ne (tgt := 25) X h dX2_booksOfPress_19 (by decide) (fun h => ?_) (fun h => ?_)
        · exact hK6 l2_1 h
        · refine g_iinc (j := 2) (lv' := [(2, .int (l2_1 + 1)), (0, .ref a0), (1, .int p1), (3, .int l3_2)]) X (l2_1 + 1) dX2_booksOfPress_22 rfl rfl (by decide) rfl ?_
          refine g_lv (lv' := [(0, .ref a0), (1, .int p1), (2, .int (l2_1 + 1)), (3, .int l3_2)]) [1, 2, 0, 3] rfl ?_
          exact hK6 (l2_1 + 1) h
