set_option maxRecDepth 20000 in
theorem ggL_order_X4_order : GoodIn wsL_order wsX4_order := goodIn_ca (goodIn_r _ [6, 7, 8, 9, 10, 11, 5, 12, 13, 14, 15, 16, 17, 18, 19, 20, 21, 22, 23, 24, 25, 26, 27, 28, 29, 30, 31, 32, 33, 34, 35, 36, 37, 38, 39, 40, 41, 42, 43, 44, 45, 46, 47, 48, 49, 50, 51, 52, 53, 54, 55, 56, 57, 58, 59, 60, 61, 62, 63, 64, 65, 66, 67, 68, 69, 70, 71, 72, 73, 74, 75, 76, 77, 78, 79, 80, 81, 82, 83, 84, 85, 86, 87, 88, 89, 90, 91, 92, 93, 94] (by decide +kernel) (by decide +kernel)) (goodIn_sub (fun _ h => List.mem_cons_of_mem _ (List.mem_append_right _ h)) (by decide +kernel))
set_option maxRecDepth 20000 in
theorem gL_order_X4_order : GoodIn wsL_order (wsV RL 56 RX4 yX4_order wsX4_order) := goodIn_app (goodIn_of _ (by decide +kernel)) ggL_order_X4_order
theorem dL_order_0 : decode cL_order 0 = .ok (.aload_n 2, 1) := by decide +kernel
theorem dL_order_1 : decode cL_order 1 = .ok (.iconst 0, 1) := by decide +kernel
theorem dL_order_2 : decode cL_order 2 = .ok (.aload_n 0, 1) := by decide +kernel
theorem dL_order_3 : decode cL_order 3 = .ok (.iload_n 1, 1) := by decide +kernel
theorem dL_order_4 : decode cL_order 4 = .ok (.invokevirtual 56, 3) := by decide +kernel
theorem dL_order_7 : decode cL_order 7 = .ok (.i2l, 1) := by decide +kernel
theorem dL_order_8 : decode cL_order 8 = .ok (.lastore, 1) := by decide +kernel
theorem dL_order_9 : decode cL_order 9 = .ok (.goto 6, 3) := by decide +kernel
theorem dL_order_12 : decode cL_order 12 = .ok (.astore_n 3, 1) := by decide +kernel
theorem dL_order_13 : decode cL_order 13 = .ok (.iconst 1, 1) := by decide +kernel
theorem dL_order_14 : decode cL_order 14 = .ok (.ireturn, 1) := by decide +kernel
theorem dL_order_15 : decode cL_order 15 = .ok (.iconst 0, 1) := by decide +kernel
theorem dL_order_16 : decode cL_order 16 = .ok (.ireturn, 1) := by decide +kernel
set_option maxRecDepth 20000 in
theorem ggL_place_X4_place : GoodIn wsL_place wsX4_place := goodIn_ca (goodIn_ca (goodIn_r _ [7, 8, 9, 10, 11, 12, 13, 14, 6, 15, 16, 17, 18, 19, 20, 21, 22, 23, 24, 25, 26, 27, 28, 29, 30, 31, 32, 33, 34, 35, 36, 37, 38, 39, 40, 41, 42, 43, 44, 45, 46, 47, 48, 49, 50, 51, 52, 53, 54, 55, 56, 57, 58, 59, 60, 61, 62, 63, 64, 65, 66, 67, 68, 69, 70, 71, 72, 73, 74, 75, 76, 77, 78, 79, 80, 81, 82, 83, 84, 85, 86, 87, 88, 89, 90, 91, 92, 93, 94, 95, 96, 97, 98, 99, 100, 101, 102, 103, 104, 105, 106, 107, 108, 109, 110, 111, 112, 113, 114, 115, 116, 117, 118, 119, 120, 121, 122, 123, 124, 125, 126, 127, 128, 129, 130] (by decide +kernel) (by decide +kernel)) (goodIn_sub (fun _ h => List.mem_cons_of_mem _ (List.mem_append_left _ (List.mem_append_right _ h))) (by decide +kernel))) (goodIn_sub (fun _ h => List.mem_cons_of_mem _ (List.mem_append_right _ h)) (by decide +kernel))
set_option maxRecDepth 20000 in
theorem gL_place_X4_place : GoodIn wsL_place (wsV RL 59 RX4 yX4_place wsX4_place) := goodIn_app (goodIn_of _ (by decide +kernel)) ggL_place_X4_place
theorem dL_place_0 : decode cL_place 0 = .ok (.aload_n 3, 1) := by decide +kernel
theorem dL_place_1 : decode cL_place 1 = .ok (.iconst 0, 1) := by decide +kernel
theorem dL_place_2 : decode cL_place 2 = .ok (.aload_n 0, 1) := by decide +kernel
theorem dL_place_3 : decode cL_place 3 = .ok (.iload_n 1, 1) := by decide +kernel
theorem dL_place_4 : decode cL_place 4 = .ok (.iload_n 2, 1) := by decide +kernel
theorem dL_place_5 : decode cL_place 5 = .ok (.invokevirtual 59, 3) := by decide +kernel
theorem dL_place_8 : decode cL_place 8 = .ok (.i2l, 1) := by decide +kernel
theorem dL_place_9 : decode cL_place 9 = .ok (.lastore, 1) := by decide +kernel
theorem dL_place_10 : decode cL_place 10 = .ok (.goto 11, 3) := by decide +kernel
theorem dL_place_13 : decode cL_place 13 = .ok (.astore 4, 2) := by decide +kernel
theorem dL_place_15 : decode cL_place 15 = .ok (.iconst 1, 1) := by decide +kernel
theorem dL_place_16 : decode cL_place 16 = .ok (.ireturn, 1) := by decide +kernel
theorem dL_place_17 : decode cL_place 17 = .ok (.astore 4, 2) := by decide +kernel
theorem dL_place_19 : decode cL_place 19 = .ok (.iconst 2, 1) := by decide +kernel
theorem dL_place_20 : decode cL_place 20 = .ok (.ireturn, 1) := by decide +kernel
theorem dL_place_21 : decode cL_place 21 = .ok (.iconst 0, 1) := by decide +kernel
theorem dL_place_22 : decode cL_place 22 = .ok (.ireturn, 1) := by decide +kernel
set_option maxRecDepth 20000 in
theorem ggL_wrong_X4_wrong : GoodIn wsL_wrong wsX4_wrong := goodIn_ca (goodIn_r _ [6, 7, 8, 9, 10, 11, 5, 12, 13, 14, 15, 16, 17, 18, 19, 20, 21, 22, 23, 24, 25, 26, 27, 28, 29, 30, 31, 32, 33, 34, 35, 36, 37, 38, 39, 40, 41, 42, 43, 44, 45, 46, 47, 48, 49, 50, 51, 52, 53, 54, 55, 56, 57, 58, 59, 60, 61, 62, 63, 64, 65, 66, 67, 68, 69, 70, 71, 72, 73, 74, 75, 76, 77, 78, 79, 80, 81, 82, 83, 84, 85, 86, 87, 88, 89, 90, 91, 92, 93, 94, 95, 96, 97, 98, 99, 100, 101, 102, 103, 104, 105, 106, 107, 108, 109, 110, 111] (by decide +kernel) (by decide +kernel)) (goodIn_sub (fun _ h => List.mem_cons_of_mem _ (List.mem_append_right _ h)) (by decide +kernel))
set_option maxRecDepth 20000 in
theorem gL_wrong_X4_wrong : GoodIn wsL_wrong (wsV RL 62 RX4 yX4_wrong wsX4_wrong) := goodIn_app (goodIn_of _ (by decide +kernel)) ggL_wrong_X4_wrong
theorem dL_wrong_0 : decode cL_wrong 0 = .ok (.aload_n 2, 1) := by decide +kernel
theorem dL_wrong_1 : decode cL_wrong 1 = .ok (.iconst 0, 1) := by decide +kernel
theorem dL_wrong_2 : decode cL_wrong 2 = .ok (.aload_n 0, 1) := by decide +kernel
theorem dL_wrong_3 : decode cL_wrong 3 = .ok (.iload_n 1, 1) := by decide +kernel
theorem dL_wrong_4 : decode cL_wrong 4 = .ok (.invokevirtual 62, 3) := by decide +kernel
theorem dL_wrong_7 : decode cL_wrong 7 = .ok (.i2l, 1) := by decide +kernel
theorem dL_wrong_8 : decode cL_wrong 8 = .ok (.lastore, 1) := by decide +kernel
theorem dL_wrong_9 : decode cL_wrong 9 = .ok (.goto 6, 3) := by decide +kernel
theorem dL_wrong_12 : decode cL_wrong 12 = .ok (.astore_n 3, 1) := by decide +kernel
theorem dL_wrong_13 : decode cL_wrong 13 = .ok (.iconst 1, 1) := by decide +kernel
theorem dL_wrong_14 : decode cL_wrong 14 = .ok (.ireturn, 1) := by decide +kernel
theorem dL_wrong_15 : decode cL_wrong 15 = .ok (.iconst 0, 1) := by decide +kernel
theorem dL_wrong_16 : decode cL_wrong 16 = .ok (.ireturn, 1) := by decide +kernel
set_option maxRecDepth 20000 in
theorem ggL_tells_X4_tells : GoodIn wsL_tells wsX4_tells := goodIn_ca (goodIn_r _ [6, 7, 8, 9, 10, 5, 11, 12, 13, 14, 15, 16, 17, 18, 19, 20, 21, 22, 23, 24, 25, 26, 27, 28, 29, 30, 31, 32, 33, 34, 35, 36, 37, 38, 39, 40, 41, 42, 43, 44, 45, 46, 47, 48, 49, 50, 51, 52, 53, 54, 55, 56, 57, 58, 59, 60, 61, 62, 63, 64, 65, 66, 67, 68, 69, 70, 71, 72, 73, 74, 75, 76, 77, 78, 79, 80, 81, 82, 83, 84, 85, 86, 87, 88, 89, 90, 91, 92, 93, 94, 95, 96, 97, 98, 99, 100, 101, 102, 103, 104, 105, 106, 107, 108, 109, 110, 111, 112, 113, 114, 115, 116, 117, 118, 119, 120, 121, 122, 123, 124, 125, 126, 127, 128, 129, 130, 131, 132, 133, 134] (by decide +kernel) (by decide +kernel)) (goodIn_sub (fun _ h => List.mem_cons_of_mem _ (List.mem_append_right _ h)) (by decide +kernel))
set_option maxRecDepth 20000 in
theorem gL_tells_X4_tells : GoodIn wsL_tells (wsV RL 65 RX4 yX4_tells wsX4_tells) := goodIn_app (goodIn_of _ (by decide +kernel)) ggL_tells_X4_tells
theorem dL_tells_0 : decode cL_tells 0 = .ok (.aload_n 2, 1) := by decide +kernel
theorem dL_tells_1 : decode cL_tells 1 = .ok (.iconst 0, 1) := by decide +kernel
theorem dL_tells_2 : decode cL_tells 2 = .ok (.aload_n 0, 1) := by decide +kernel
theorem dL_tells_3 : decode cL_tells 3 = .ok (.iload_n 1, 1) := by decide +kernel
theorem dL_tells_4 : decode cL_tells 4 = .ok (.invokevirtual 65, 3) := by decide +kernel
theorem dL_tells_7 : decode cL_tells 7 = .ok (.i2l, 1) := by decide +kernel
theorem dL_tells_8 : decode cL_tells 8 = .ok (.lastore, 1) := by decide +kernel
theorem dL_tells_9 : decode cL_tells 9 = .ok (.goto 6, 3) := by decide +kernel
theorem dL_tells_12 : decode cL_tells 12 = .ok (.astore_n 3, 1) := by decide +kernel
theorem dL_tells_13 : decode cL_tells 13 = .ok (.iconst 1, 1) := by decide +kernel
theorem dL_tells_14 : decode cL_tells 14 = .ok (.ireturn, 1) := by decide +kernel
theorem dL_tells_15 : decode cL_tells 15 = .ok (.iconst 0, 1) := by decide +kernel
theorem dL_tells_16 : decode cL_tells 16 = .ok (.ireturn, 1) := by decide +kernel
set_option maxRecDepth 20000 in
theorem ggL_ifYear_X4_ifYear : GoodIn wsL_ifYear wsX4_ifYear := goodIn_ca (goodIn_ca (goodIn_r _ [7, 8, 9, 10, 11, 12, 13, 14, 6, 15, 16, 17, 18, 19, 20, 21, 22, 23, 24, 25, 26, 27, 28, 29, 30, 31, 32, 33, 34, 35, 36, 37, 38, 39, 40, 41, 42, 43, 44, 45, 46, 47, 48, 49, 50, 51, 52, 53, 54, 55, 56, 57, 58, 59, 60, 61, 62, 63, 64, 65, 66, 67, 68, 69, 70, 71, 72, 73, 74, 75, 76, 77, 78, 79, 80, 81, 82, 83, 84, 85, 86, 87, 88, 89, 90, 91, 92, 93, 94, 95, 96, 97, 98, 99, 100, 101, 102, 103, 104, 105, 106, 107, 108, 109, 110, 111, 112, 113, 114, 115, 116, 117, 118, 119, 120, 121, 122, 123, 124, 125, 126, 127, 128, 129, 130, 131, 132, 133, 134, 135, 136, 137, 138, 139, 140] (by decide +kernel) (by decide +kernel)) (goodIn_sub (fun _ h => List.mem_cons_of_mem _ (List.mem_append_left _ (List.mem_append_right _ h))) (by decide +kernel))) (goodIn_sub (fun _ h => List.mem_cons_of_mem _ (List.mem_append_right _ h)) (by decide +kernel))
set_option maxRecDepth 20000 in
theorem gL_ifYear_X4_ifYear : GoodIn wsL_ifYear (wsV RL 68 RX4 yX4_ifYear wsX4_ifYear) := goodIn_app (goodIn_of _ (by decide +kernel)) ggL_ifYear_X4_ifYear
theorem dL_ifYear_0 : decode cL_ifYear 0 = .ok (.aload 4, 2) := by decide +kernel
theorem dL_ifYear_2 : decode cL_ifYear 2 = .ok (.iconst 0, 1) := by decide +kernel
theorem dL_ifYear_3 : decode cL_ifYear 3 = .ok (.aload_n 0, 1) := by decide +kernel
theorem dL_ifYear_4 : decode cL_ifYear 4 = .ok (.iload_n 1, 1) := by decide +kernel
theorem dL_ifYear_5 : decode cL_ifYear 5 = .ok (.iload_n 2, 1) := by decide +kernel
theorem dL_ifYear_6 : decode cL_ifYear 6 = .ok (.iload_n 3, 1) := by decide +kernel
theorem dL_ifYear_7 : decode cL_ifYear 7 = .ok (.invokevirtual 68, 3) := by decide +kernel
theorem dL_ifYear_10 : decode cL_ifYear 10 = .ok (.i2l, 1) := by decide +kernel
theorem dL_ifYear_11 : decode cL_ifYear 11 = .ok (.lastore, 1) := by decide +kernel
theorem dL_ifYear_12 : decode cL_ifYear 12 = .ok (.goto 11, 3) := by decide +kernel
theorem dL_ifYear_15 : decode cL_ifYear 15 = .ok (.astore 5, 2) := by decide +kernel
theorem dL_ifYear_17 : decode cL_ifYear 17 = .ok (.iconst 1, 1) := by decide +kernel
theorem dL_ifYear_18 : decode cL_ifYear 18 = .ok (.ireturn, 1) := by decide +kernel
theorem dL_ifYear_19 : decode cL_ifYear 19 = .ok (.astore 5, 2) := by decide +kernel
theorem dL_ifYear_21 : decode cL_ifYear 21 = .ok (.iconst 2, 1) := by decide +kernel
theorem dL_ifYear_22 : decode cL_ifYear 22 = .ok (.ireturn, 1) := by decide +kernel
theorem dL_ifYear_23 : decode cL_ifYear 23 = .ok (.iconst 0, 1) := by decide +kernel
theorem dL_ifYear_24 : decode cL_ifYear 24 = .ok (.ireturn, 1) := by decide +kernel
theorem hk_L_order_13 : Cond.classLink RL 13 "java/lang/IllegalArgumentException" ∈ wsL_order := by decide +kernel
def f_L_order (p1 : Int32) (x0_isReadingOld : Int32) (x1_size : Int32) (f2 : Nat → Int32) (f3 : Nat → Int32) (f4 : Nat → Int32) (f5 : Nat → Int32) (x6_areOrdersCounted : Int32) (x6_isAnyOrder : Int32) (x6_size : Int32) (f7 : Nat → Int32) (f8 : Nat → Int32) (f9 : Nat → Int32) (f10 : Nat → Int32) (f11 : Nat → Int32) (f12 : Nat → Int32) (fout : Nat → Int64) : Option (Int32 × Int32 × Int32 × Int32 × Int32 × (Nat → Int32) × (Nat → Int32) × (Nat → Int32) × (Nat → Int32) × (Nat → Int32) × (Nat → Int32) × (Nat → Int64)) := (f_X4_order p1 x0_isReadingOld x1_size f2 f3 f4 f5 x6_areOrdersCounted x6_isAnyOrder x6_size f7 f8 f9 f10 f11 f12).bind (u11 fun (rc : Int32 ⊕ String) (y0 : Int32) (y1 : Int32) (y2 : Int32) (y3 : Int32) (y4 : Nat → Int32) (y5 : Nat → Int32) (y6 : Nat → Int32) (y7 : Nat → Int32) (y8 : Nat → Int32) (y9 : Nat → Int32) => match rc with | .inl v => (wrL fout 1 0 v.toInt64).bind (fun g => some (0, y0, y1, y2, y3, y4, y5, y6, y7, y8, y9, g)) | .inr E => if E = "java/lang/IllegalArgumentException" then some (1, y0, y1, y2, y3, y4, y5, y6, y7, y8, y9, fout) else none)
theorem hd_L_order : yL_order.cls = RL ∧ yL_order.cls ≠ "java/lang/invoke/MethodHandle" ∧ yL_order.cls ≠ "java/lang/invoke/VarHandle" ∧ (parseMethodDescriptor yL_order.desc).map (fun d => d.parameters.length) = some 3 := by decide +kernel
set_option maxRecDepth 100000 in
set_option maxHeartbeats 8000000 in
theorem c_L_order (l : Launch) (hlt : l.stackTraces = false) (D : va_G) (cI cS cL : ClassId) (a0 : Nat) (a1 : Nat) (a2 : Nat) (a3 : Nat) (a4 : Nat) (a5 : Nat) (a6 : Nat) (a7 : Nat) (a8 : Nat) (a9 : Nat) (a10 : Nat) (a11 : Nat) (a12 : Nat) (b0_1 : Nat) (b0_2 : Nat) (b0_4 : Nat) (b0_5 : Nat) (b0_6 : Nat) (b6_6 : Nat) (p1 : Int32) (x0_length : Int32) (x0_isReadingOld : Int32) (x1_size : Int32) (f2 : Nat → Int32) (f3 : Nat → Int32) (f4 : Nat → Int32) (f5 : Nat → Int32) (x6_areOrdersCounted : Int32) (x6_isAnyOrder : Int32) (x6_size : Int32) (f7 : Nat → Int32) (f8 : Nat → Int32) (f9 : Nat → Int32) (f10 : Nat → Int32) (f11 : Nat → Int32) (f12 : Nat → Int32) (aout : Nat) (fout : Nat → Int64) (rr : Int32) (z0 : Int32) (z1 : Int32) (z2 : Int32) (z3 : Int32) (z4 : Nat → Int32) (z5 : Nat → Int32) (z6 : Nat → Int32) (z7 : Nat → Int32) (z8 : Nat → Int32) (z9 : Nat → Int32) (gout : Nat → Int64) (hc : f_L_order p1 x0_isReadingOld x1_size f2 f3 f4 f5 x6_areOrdersCounted x6_isAnyOrder x6_size f7 f8 f9 f10 f11 f12 fout = some (rr, z0, z1, z2, z3, z4, z5, z6, z7, z8, z9, gout)) : KW l yL_order wsL_order { frames := 7, cells := 1, slots := 6, locals := 109 } D (tyS cI cS cL) [.ref a0, .int p1, .ref aout] [(a0, .inr (4, [.ref a1, .ref b0_1, .ref b0_2, .ref a6, .ref b0_4, .ref b0_5, .ref b0_6, .int x0_length, .int x0_isReadingOld])), (a1, .inr (2, [.ref a2, .ref a3, .ref a4, .ref a5, .int x1_size])), (a2, .inl (cI, 10, .inl f2)), (a3, .inl (cI, 10, .inl f3)), (a4, .inl (cI, 10, .inl f4)), (a5, .inl (cI, 10, .inl f5)), (a6, .inr (1, [.ref a7, .ref a8, .ref a9, .ref a10, .ref a11, .ref a12, .ref b6_6, .int x6_areOrdersCounted, .int x6_isAnyOrder, .int x6_size])), (a7, .inl (cI, 10, .inl f7)), (a8, .inl (cI, 10, .inl f8)), (a9, .inl (cI, 10, .inl f9)), (a10, .inl (cI, 10, .inl f10)), (a11, .inl (cI, 10, .inl f11)), (a12, .inl (cI, 10, .inl f12)), (aout, .inl (cL, 1, .inr (.inl fout)))] rr (fun w => w = [(a0, .inr (4, [.ref a1, .ref b0_1, .ref b0_2, .ref a6, .ref b0_4, .ref b0_5, .ref b0_6, .int x0_length, .int z0])), (a1, .inr (2, [.ref a2, .ref a3, .ref a4, .ref a5, .int x1_size])), (a2, .inl (cI, 10, .inl f2)), (a3, .inl (cI, 10, .inl f3)), (a4, .inl (cI, 10, .inl f4)), (a5, .inl (cI, 10, .inl f5)), (a6, .inr (1, [.ref a7, .ref a8, .ref a9, .ref a10, .ref a11, .ref a12, .ref b6_6, .int z1, .int z2, .int z3])), (a7, .inl (cI, 10, .inl z4)), (a8, .inl (cI, 10, .inl z5)), (a9, .inl (cI, 10, .inl z6)), (a10, .inl (cI, 10, .inl z7)), (a11, .inl (cI, 10, .inl z8)), (a12, .inl (cI, 10, .inl z9)), (aout, .inl (cL, 1, .inr (.inl gout)))]) := by
  refine g_entryW (cc := cL_order) (nL := 4) (rt := (some .int)) (by decide) rfl (Nat.le_of_ble_eq_true rfl) ?_
  intro p e s m args below meth c A (X : GC p s m args c cL_order 4 RL wsL_order D (tyS cI cS cL) A) Y hT hr hlk
  have h := hc
  unfold f_L_order at h
  refine g_lv (lv' := [(0, .ref a0), (1, .int p1), (2, .ref aout)]) [0, 1, 2] rfl ?_
  obtain ⟨rc, y0, y1, y2, y3, y4, y5, y6, y7, y8, y9, hc, h⟩ := bd11 h
  refine g_aload_n X (j := 2) dL_order_0 rfl ?_
  refine g_iconst (v := 0) X dL_order_1 (by decide) ?_
  refine g_aload_n X (j := 0) dL_order_2 rfl ?_
  refine g_iload_n X (j := 1) dL_order_3 rfl ?_
  refine g_callX (q0 := 0) (ci := 4) (n := 1) (is := [0, 1, 2, 3, 4, 5, 6, 7, 8, 9, 10, 11, 12]) (isR := [13]) (wr := [(aout, .inl (cL, 1, .inr (.inl fout)))]) (As := [.int p1]) (st := [.int 0, .ref aout]) (cells' := 1) (slots' := 6) X Y (c_X4_order l hlt D cI cS cL a0 a1 a2 a3 a4 a5 a6 a7 a8 a9 a10 a11 a12 b0_1 b0_2 b0_4 b0_5 b0_6 b6_6 p1 x0_length x0_isReadingOld x1_size f2 f3 f4 f5 x6_areOrdersCounted x6_isAnyOrder x6_size f7 f8 f9 f10 f11 f12 rc y0 y1 y2 y3 y4 y5 y6 y7 y8 y9 hc) gL_order_X4_order rfl ⟨rfl, rfl⟩ hd_X4_order (by exact ⟨Nat.le_of_ble_eq_true rfl, Nat.le_of_ble_eq_true rfl⟩) rfl rfl ⟨(Nat.le_of_ble_eq_true rfl), (Nat.le_of_ble_eq_true rfl)⟩ rfl rfl rfl (by decide +kernel) rfl rfl (by decide +kernel) rfl (Nat.le_of_ble_eq_true rfl) rfl dL_order_4 (fun E hE => ?_) (fun v hv => ?_)
  · subst hE
    dsimp only at h
    rintro _ rfl
    by_cases hq : E = "java/lang/IllegalArgumentException"
    · subst hq
      have h := if_t h rfl
      refine g_catch1 (hh := []) (x := (0, 9, 12, 13)) X Y (by decide +kernel) hT (by decide) (by decide) hk_L_order_13 (fun q => ?_)
      refine g_astore_n (lv' := [(3, .ref q), (0, .ref a0), (1, .int p1), (2, .ref aout)]) X dL_order_12 rfl (by decide) rfl ?_
      refine g_iconst (v := 1) X dL_order_13 (by decide) ?_
      refine g_ws (ws' := [(a0, .inr (4, [.ref a1, .ref b0_1, .ref b0_2, .ref a6, .ref b0_4, .ref b0_5, .ref b0_6, .int x0_length, .int y0])), (a1, .inr (2, [.ref a2, .ref a3, .ref a4, .ref a5, .int x1_size])), (a2, .inl (cI, 10, .inl f2)), (a3, .inl (cI, 10, .inl f3)), (a4, .inl (cI, 10, .inl f4)), (a5, .inl (cI, 10, .inl f5)), (a6, .inr (1, [.ref a7, .ref a8, .ref a9, .ref a10, .ref a11, .ref a12, .ref b6_6, .int y1, .int y2, .int y3])), (a7, .inl (cI, 10, .inl y4)), (a8, .inl (cI, 10, .inl y5)), (a9, .inl (cI, 10, .inl y6)), (a10, .inl (cI, 10, .inl y7)), (a11, .inl (cI, 10, .inl y8)), (a12, .inl (cI, 10, .inl y9)), (aout, .inl (cL, 1, .inr (.inl fout)))]) [1, 2, 3, 4, 5, 6, 7, 8, 9, 10, 11, 12, 13, 0] rfl (by decide +kernel) ?_
      have h := Option.some.inj h
      simp only [Prod.mk.injEq] at h
      obtain ⟨rfl, rfl, rfl, rfl, rfl, rfl, rfl, rfl, rfl, rfl, rfl, rfl⟩ := h
      exact g_iret X hr hlk dL_order_14 rfl rfl
    have h := if_f h hq
    cases h
  · subst hv
    dsimp only at h
    rintro _ rfl
    refine g_ws (ws' := [(a0, .inr (4, [.ref a1, .ref b0_1, .ref b0_2, .ref a6, .ref b0_4, .ref b0_5, .ref b0_6, .int x0_length, .int y0])), (a1, .inr (2, [.ref a2, .ref a3, .ref a4, .ref a5, .int x1_size])), (a2, .inl (cI, 10, .inl f2)), (a3, .inl (cI, 10, .inl f3)), (a4, .inl (cI, 10, .inl f4)), (a5, .inl (cI, 10, .inl f5)), (a6, .inr (1, [.ref a7, .ref a8, .ref a9, .ref a10, .ref a11, .ref a12, .ref b6_6, .int y1, .int y2, .int y3])), (a7, .inl (cI, 10, .inl y4)), (a8, .inl (cI, 10, .inl y5)), (a9, .inl (cI, 10, .inl y6)), (a10, .inl (cI, 10, .inl y7)), (a11, .inl (cI, 10, .inl y8)), (a12, .inl (cI, 10, .inl y9)), (aout, .inl (cL, 1, .inr (.inl fout)))]) [1, 2, 3, 4, 5, 6, 7, 8, 9, 10, 11, 12, 13, 0] rfl (by decide +kernel) ?_
    refine g_i2l X dL_order_7 ?_
    refine g_last (q0 := 13) (t0 := 2) (ws1 := fun g => [(a0, .inr (4, [.ref a1, .ref b0_1, .ref b0_2, .ref a6, .ref b0_4, .ref b0_5, .ref b0_6, .int x0_length, .int y0])), (a1, .inr (2, [.ref a2, .ref a3, .ref a4, .ref a5, .int x1_size])), (a2, .inl (cI, 10, .inl f2)), (a3, .inl (cI, 10, .inl f3)), (a4, .inl (cI, 10, .inl f4)), (a5, .inl (cI, 10, .inl f5)), (a6, .inr (1, [.ref a7, .ref a8, .ref a9, .ref a10, .ref a11, .ref a12, .ref b6_6, .int y1, .int y2, .int y3])), (a7, .inl (cI, 10, .inl y4)), (a8, .inl (cI, 10, .inl y5)), (a9, .inl (cI, 10, .inl y6)), (a10, .inl (cI, 10, .inl y7)), (a11, .inl (cI, 10, .inl y8)), (a12, .inl (cI, 10, .inl y9)), (aout, .inl (cL, 1, .inr (.inl g)))]) X h rfl rfl dL_order_8 (fun _ => rfl) (fun g h => ?_)
    refine g_goto (tgt := 15) X dL_order_9 (by decide) ?_
    refine g_iconst (v := 0) X dL_order_15 (by decide) ?_
    have h := Option.some.inj h
    simp only [Prod.mk.injEq] at h
    obtain ⟨rfl, rfl, rfl, rfl, rfl, rfl, rfl, rfl, rfl, rfl, rfl, rfl⟩ := h
    exact g_iret X hr hlk dL_order_16 rfl rfl
theorem hk_L_place_21 : Cond.classLink RL 21 "java/lang/IndexOutOfBoundsException" ∈ wsL_place := by decide +kernel
theorem hk_L_place_13 : Cond.classLink RL 13 "java/lang/IllegalArgumentException" ∈ wsL_place := by decide +kernel
def f_L_place (p1 : Int32) (p2 : Int32) (x0_isReadingOld : Int32) (x1_size : Int32) (f2 : Nat → Int32) (f3 : Nat → Int32) (f4 : Nat → Int32) (f5 : Nat → Int32) (x6_areOrdersCounted : Int32) (x6_isAnyOrder : Int32) (x6_size : Int32) (f7 : Nat → Int32) (f8 : Nat → Int32) (f9 : Nat → Int32) (f10 : Nat → Int32) (f11 : Nat → Int32) (f12 : Nat → Int32) (f13 : Nat → Int32) (fout : Nat → Int64) : Option (Int32 × Int32 × Int32 × Int32 × Int32 × (Nat → Int32) × (Nat → Int32) × (Nat → Int32) × (Nat → Int32) × (Nat → Int32) × (Nat → Int32) × (Nat → Int32) × (Nat → Int64)) := (f_X4_place p1 p2 x0_isReadingOld x1_size f2 f3 f4 f5 x6_areOrdersCounted x6_isAnyOrder x6_size f7 f8 f9 f10 f11 f12 f13).bind (u12 fun (rc : Int32 ⊕ String) (y0 : Int32) (y1 : Int32) (y2 : Int32) (y3 : Int32) (y4 : Nat → Int32) (y5 : Nat → Int32) (y6 : Nat → Int32) (y7 : Nat → Int32) (y8 : Nat → Int32) (y9 : Nat → Int32) (y10 : Nat → Int32) => match rc with | .inl v => (wrL fout 1 0 v.toInt64).bind (fun g => some (0, y0, y1, y2, y3, y4, y5, y6, y7, y8, y9, y10, g)) | .inr E => if E = "java/lang/IndexOutOfBoundsException" then some (1, y0, y1, y2, y3, y4, y5, y6, y7, y8, y9, y10, fout) else if E = "java/lang/IllegalArgumentException" then some (2, y0, y1, y2, y3, y4, y5, y6, y7, y8, y9, y10, fout) else none)
theorem hd_L_place : yL_place.cls = RL ∧ yL_place.cls ≠ "java/lang/invoke/MethodHandle" ∧ yL_place.cls ≠ "java/lang/invoke/VarHandle" ∧ (parseMethodDescriptor yL_place.desc).map (fun d => d.parameters.length) = some 4 := by decide +kernel
set_option maxRecDepth 100000 in
set_option maxHeartbeats 8000000 in
theorem c_L_place (l : Launch) (hlt : l.stackTraces = false) (D : va_G) (cI cS cL : ClassId) (a0 : Nat) (a1 : Nat) (a2 : Nat) (a3 : Nat) (a4 : Nat) (a5 : Nat) (a6 : Nat) (a7 : Nat) (a8 : Nat) (a9 : Nat) (a10 : Nat) (a11 : Nat) (a12 : Nat) (a13 : Nat) (b0_1 : Nat) (b0_2 : Nat) (b0_4 : Nat) (b0_5 : Nat) (b0_6 : Nat) (p1 : Int32) (p2 : Int32) (x0_length : Int32) (x0_isReadingOld : Int32) (x1_size : Int32) (f2 : Nat → Int32) (f3 : Nat → Int32) (f4 : Nat → Int32) (f5 : Nat → Int32) (x6_areOrdersCounted : Int32) (x6_isAnyOrder : Int32) (x6_size : Int32) (f7 : Nat → Int32) (f8 : Nat → Int32) (f9 : Nat → Int32) (f10 : Nat → Int32) (f11 : Nat → Int32) (f12 : Nat → Int32) (f13 : Nat → Int32) (aout : Nat) (fout : Nat → Int64) (rr : Int32) (z0 : Int32) (z1 : Int32) (z2 : Int32) (z3 : Int32) (z4 : Nat → Int32) (z5 : Nat → Int32) (z6 : Nat → Int32) (z7 : Nat → Int32) (z8 : Nat → Int32) (z9 : Nat → Int32) (z10 : Nat → Int32) (gout : Nat → Int64) (hc : f_L_place p1 p2 x0_isReadingOld x1_size f2 f3 f4 f5 x6_areOrdersCounted x6_isAnyOrder x6_size f7 f8 f9 f10 f11 f12 f13 fout = some (rr, z0, z1, z2, z3, z4, z5, z6, z7, z8, z9, z10, gout)) : KW l yL_place wsL_place { frames := 7, cells := 1, slots := 6, locals := 132 } D (tyS cI cS cL) [.ref a0, .int p1, .int p2, .ref aout] [(a0, .inr (4, [.ref a1, .ref b0_1, .ref b0_2, .ref a6, .ref b0_4, .ref b0_5, .ref b0_6, .int x0_length, .int x0_isReadingOld])), (a1, .inr (2, [.ref a2, .ref a3, .ref a4, .ref a5, .int x1_size])), (a2, .inl (cI, 10, .inl f2)), (a3, .inl (cI, 10, .inl f3)), (a4, .inl (cI, 10, .inl f4)), (a5, .inl (cI, 10, .inl f5)), (a6, .inr (1, [.ref a7, .ref a8, .ref a9, .ref a10, .ref a11, .ref a12, .ref a13, .int x6_areOrdersCounted, .int x6_isAnyOrder, .int x6_size])), (a7, .inl (cI, 10, .inl f7)), (a8, .inl (cI, 10, .inl f8)), (a9, .inl (cI, 10, .inl f9)), (a10, .inl (cI, 10, .inl f10)), (a11, .inl (cI, 10, .inl f11)), (a12, .inl (cI, 10, .inl f12)), (a13, .inl (cI, 1024, .inl f13)), (aout, .inl (cL, 1, .inr (.inl fout)))] rr (fun w => w = [(a0, .inr (4, [.ref a1, .ref b0_1, .ref b0_2, .ref a6, .ref b0_4, .ref b0_5, .ref b0_6, .int x0_length, .int z0])), (a1, .inr (2, [.ref a2, .ref a3, .ref a4, .ref a5, .int x1_size])), (a2, .inl (cI, 10, .inl f2)), (a3, .inl (cI, 10, .inl f3)), (a4, .inl (cI, 10, .inl f4)), (a5, .inl (cI, 10, .inl f5)), (a6, .inr (1, [.ref a7, .ref a8, .ref a9, .ref a10, .ref a11, .ref a12, .ref a13, .int z1, .int z2, .int z3])), (a7, .inl (cI, 10, .inl z4)), (a8, .inl (cI, 10, .inl z5)), (a9, .inl (cI, 10, .inl z6)), (a10, .inl (cI, 10, .inl z7)), (a11, .inl (cI, 10, .inl z8)), (a12, .inl (cI, 10, .inl z9)), (a13, .inl (cI, 1024, .inl z10)), (aout, .inl (cL, 1, .inr (.inl gout)))]) := by
  refine g_entryW (cc := cL_place) (nL := 5) (rt := (some .int)) (by decide) rfl (Nat.le_of_ble_eq_true rfl) ?_
  intro p e s m args below meth c A (X : GC p s m args c cL_place 5 RL wsL_place D (tyS cI cS cL) A) Y hT hr hlk
  have h := hc
  unfold f_L_place at h
  refine g_lv (lv' := [(0, .ref a0), (1, .int p1), (2, .int p2), (3, .ref aout)]) [0, 1, 2, 3] rfl ?_
  obtain ⟨rc, y0, y1, y2, y3, y4, y5, y6, y7, y8, y9, y10, hc, h⟩ := bd12 h
  refine g_aload_n X (j := 3) dL_place_0 rfl ?_
  refine g_iconst (v := 0) X dL_place_1 (by decide) ?_
  refine g_aload_n X (j := 0) dL_place_2 rfl ?_
  refine g_iload_n X (j := 1) dL_place_3 rfl ?_
  refine g_iload_n X (j := 2) dL_place_4 rfl ?_
  refine g_callX (q0 := 0) (ci := 4) (n := 2) (is := [0, 1, 2, 3, 4, 5, 6, 7, 8, 9, 10, 11, 12, 13]) (isR := [14]) (wr := [(aout, .inl (cL, 1, .inr (.inl fout)))]) (As := [.int p1, .int p2]) (st := [.int 0, .ref aout]) (cells' := 1) (slots' := 6) X Y (c_X4_place l hlt D cI cS cL a0 a1 a2 a3 a4 a5 a6 a7 a8 a9 a10 a11 a12 a13 b0_1 b0_2 b0_4 b0_5 b0_6 p1 p2 x0_length x0_isReadingOld x1_size f2 f3 f4 f5 x6_areOrdersCounted x6_isAnyOrder x6_size f7 f8 f9 f10 f11 f12 f13 rc y0 y1 y2 y3 y4 y5 y6 y7 y8 y9 y10 hc) gL_place_X4_place rfl ⟨rfl, rfl⟩ hd_X4_place (by exact ⟨Nat.le_of_ble_eq_true rfl, Nat.le_of_ble_eq_true rfl⟩) rfl rfl ⟨(Nat.le_of_ble_eq_true rfl), (Nat.le_of_ble_eq_true rfl)⟩ rfl rfl rfl (by decide +kernel) rfl rfl (by decide +kernel) rfl (Nat.le_of_ble_eq_true rfl) rfl dL_place_5 (fun E hE => ?_) (fun v hv => ?_)
  · subst hE
    dsimp only at h
    rintro _ rfl
    by_cases hq : E = "java/lang/IndexOutOfBoundsException"
    · subst hq
      have h := if_t h rfl
      refine g_catch1 (hh := [(0, 10, 17, 13)]) (x := (0, 10, 13, 21)) X Y (by decide +kernel) hT (by decide) (by decide) hk_L_place_21 (fun q => ?_)
      refine g_astore (lv' := [(4, .ref q), (0, .ref a0), (1, .int p1), (2, .int p2), (3, .ref aout)]) X dL_place_13 (by decide) rfl ?_
      refine g_iconst (v := 1) X dL_place_15 (by decide) ?_
      refine g_ws (ws' := [(a0, .inr (4, [.ref a1, .ref b0_1, .ref b0_2, .ref a6, .ref b0_4, .ref b0_5, .ref b0_6, .int x0_length, .int y0])), (a1, .inr (2, [.ref a2, .ref a3, .ref a4, .ref a5, .int x1_size])), (a2, .inl (cI, 10, .inl f2)), (a3, .inl (cI, 10, .inl f3)), (a4, .inl (cI, 10, .inl f4)), (a5, .inl (cI, 10, .inl f5)), (a6, .inr (1, [.ref a7, .ref a8, .ref a9, .ref a10, .ref a11, .ref a12, .ref a13, .int y1, .int y2, .int y3])), (a7, .inl (cI, 10, .inl y4)), (a8, .inl (cI, 10, .inl y5)), (a9, .inl (cI, 10, .inl y6)), (a10, .inl (cI, 10, .inl y7)), (a11, .inl (cI, 10, .inl y8)), (a12, .inl (cI, 10, .inl y9)), (a13, .inl (cI, 1024, .inl y10)), (aout, .inl (cL, 1, .inr (.inl fout)))]) [1, 2, 3, 4, 5, 6, 7, 8, 9, 10, 11, 12, 13, 14, 0] rfl (by decide +kernel) ?_
      have h := Option.some.inj h
      simp only [Prod.mk.injEq] at h
      obtain ⟨rfl, rfl, rfl, rfl, rfl, rfl, rfl, rfl, rfl, rfl, rfl, rfl, rfl⟩ := h
      exact g_iret X hr hlk dL_place_16 rfl rfl
    have h := if_f h hq
    by_cases hq2 : E = "java/lang/IllegalArgumentException"
    · subst hq2
      have h := if_t h rfl
      refine g_catch2 (hh := []) (y := (0, 10, 13, 21)) (x := (0, 10, 17, 13)) (F := "java/lang/IndexOutOfBoundsException") X Y (by decide +kernel) (by decide +kernel) (by decide +kernel) hT (by decide) (by decide) (by decide) hk_L_place_13 hk_L_place_21 (fun q => ?_)
      refine g_astore (lv' := [(4, .ref q), (0, .ref a0), (1, .int p1), (2, .int p2), (3, .ref aout)]) X dL_place_17 (by decide) rfl ?_
      refine g_iconst (v := 2) X dL_place_19 (by decide) ?_
      refine g_ws (ws' := [(a0, .inr (4, [.ref a1, .ref b0_1, .ref b0_2, .ref a6, .ref b0_4, .ref b0_5, .ref b0_6, .int x0_length, .int y0])), (a1, .inr (2, [.ref a2, .ref a3, .ref a4, .ref a5, .int x1_size])), (a2, .inl (cI, 10, .inl f2)), (a3, .inl (cI, 10, .inl f3)), (a4, .inl (cI, 10, .inl f4)), (a5, .inl (cI, 10, .inl f5)), (a6, .inr (1, [.ref a7, .ref a8, .ref a9, .ref a10, .ref a11, .ref a12, .ref a13, .int y1, .int y2, .int y3])), (a7, .inl (cI, 10, .inl y4)), (a8, .inl (cI, 10, .inl y5)), (a9, .inl (cI, 10, .inl y6)), (a10, .inl (cI, 10, .inl y7)), (a11, .inl (cI, 10, .inl y8)), (a12, .inl (cI, 10, .inl y9)), (a13, .inl (cI, 1024, .inl y10)), (aout, .inl (cL, 1, .inr (.inl fout)))]) [1, 2, 3, 4, 5, 6, 7, 8, 9, 10, 11, 12, 13, 14, 0] rfl (by decide +kernel) ?_
      have h := Option.some.inj h
      simp only [Prod.mk.injEq] at h
      obtain ⟨rfl, rfl, rfl, rfl, rfl, rfl, rfl, rfl, rfl, rfl, rfl, rfl, rfl⟩ := h
      exact g_iret X hr hlk dL_place_20 rfl rfl
    have h := if_f h hq2
    cases h
  · subst hv
    dsimp only at h
    rintro _ rfl
    refine g_ws (ws' := [(a0, .inr (4, [.ref a1, .ref b0_1, .ref b0_2, .ref a6, .ref b0_4, .ref b0_5, .ref b0_6, .int x0_length, .int y0])), (a1, .inr (2, [.ref a2, .ref a3, .ref a4, .ref a5, .int x1_size])), (a2, .inl (cI, 10, .inl f2)), (a3, .inl (cI, 10, .inl f3)), (a4, .inl (cI, 10, .inl f4)), (a5, .inl (cI, 10, .inl f5)), (a6, .inr (1, [.ref a7, .ref a8, .ref a9, .ref a10, .ref a11, .ref a12, .ref a13, .int y1, .int y2, .int y3])), (a7, .inl (cI, 10, .inl y4)), (a8, .inl (cI, 10, .inl y5)), (a9, .inl (cI, 10, .inl y6)), (a10, .inl (cI, 10, .inl y7)), (a11, .inl (cI, 10, .inl y8)), (a12, .inl (cI, 10, .inl y9)), (a13, .inl (cI, 1024, .inl y10)), (aout, .inl (cL, 1, .inr (.inl fout)))]) [1, 2, 3, 4, 5, 6, 7, 8, 9, 10, 11, 12, 13, 14, 0] rfl (by decide +kernel) ?_
    refine g_i2l X dL_place_8 ?_
    refine g_last (q0 := 14) (t0 := 2) (ws1 := fun g => [(a0, .inr (4, [.ref a1, .ref b0_1, .ref b0_2, .ref a6, .ref b0_4, .ref b0_5, .ref b0_6, .int x0_length, .int y0])), (a1, .inr (2, [.ref a2, .ref a3, .ref a4, .ref a5, .int x1_size])), (a2, .inl (cI, 10, .inl f2)), (a3, .inl (cI, 10, .inl f3)), (a4, .inl (cI, 10, .inl f4)), (a5, .inl (cI, 10, .inl f5)), (a6, .inr (1, [.ref a7, .ref a8, .ref a9, .ref a10, .ref a11, .ref a12, .ref a13, .int y1, .int y2, .int y3])), (a7, .inl (cI, 10, .inl y4)), (a8, .inl (cI, 10, .inl y5)), (a9, .inl (cI, 10, .inl y6)), (a10, .inl (cI, 10, .inl y7)), (a11, .inl (cI, 10, .inl y8)), (a12, .inl (cI, 10, .inl y9)), (a13, .inl (cI, 1024, .inl y10)), (aout, .inl (cL, 1, .inr (.inl g)))]) X h rfl rfl dL_place_9 (fun _ => rfl) (fun g h => ?_)
    refine g_goto (tgt := 21) X dL_place_10 (by decide) ?_
    refine g_iconst (v := 0) X dL_place_21 (by decide) ?_
    have h := Option.some.inj h
    simp only [Prod.mk.injEq] at h
    obtain ⟨rfl, rfl, rfl, rfl, rfl, rfl, rfl, rfl, rfl, rfl, rfl, rfl, rfl⟩ := h
    exact g_iret X hr hlk dL_place_22 rfl rfl
theorem hk_L_wrong_13 : Cond.classLink RL 13 "java/lang/IllegalArgumentException" ∈ wsL_wrong := by decide +kernel
def f_L_wrong (p1 : Int32) (x0_isReadingOld : Int32) (x1_size : Int32) (f2 : Nat → Int32) (f3 : Nat → Int32) (f4 : Nat → Int32) (f5 : Nat → Int32) (x6_areOrdersCounted : Int32) (x6_isAnyOrder : Int32) (x6_size : Int32) (f7 : Nat → Int32) (f8 : Nat → Int32) (f9 : Nat → Int32) (f10 : Nat → Int32) (f11 : Nat → Int32) (f12 : Nat → Int32) (f13 : Nat → Int32) (fout : Nat → Int64) : Option (Int32 × Int32 × Int32 × Int32 × Int32 × (Nat → Int32) × (Nat → Int32) × (Nat → Int32) × (Nat → Int32) × (Nat → Int32) × (Nat → Int32) × (Nat → Int32) × (Nat → Int64)) := (f_X4_wrong p1 x0_isReadingOld x1_size f2 f3 f4 f5 x6_areOrdersCounted x6_isAnyOrder x6_size f7 f8 f9 f10 f11 f12 f13).bind (u12 fun (rc : Int32 ⊕ String) (y0 : Int32) (y1 : Int32) (y2 : Int32) (y3 : Int32) (y4 : Nat → Int32) (y5 : Nat → Int32) (y6 : Nat → Int32) (y7 : Nat → Int32) (y8 : Nat → Int32) (y9 : Nat → Int32) (y10 : Nat → Int32) => match rc with | .inl v => (wrL fout 1 0 v.toInt64).bind (fun g => some (0, y0, y1, y2, y3, y4, y5, y6, y7, y8, y9, y10, g)) | .inr E => if E = "java/lang/IllegalArgumentException" then some (1, y0, y1, y2, y3, y4, y5, y6, y7, y8, y9, y10, fout) else none)
theorem hd_L_wrong : yL_wrong.cls = RL ∧ yL_wrong.cls ≠ "java/lang/invoke/MethodHandle" ∧ yL_wrong.cls ≠ "java/lang/invoke/VarHandle" ∧ (parseMethodDescriptor yL_wrong.desc).map (fun d => d.parameters.length) = some 3 := by decide +kernel
set_option maxRecDepth 100000 in
set_option maxHeartbeats 8000000 in
theorem c_L_wrong (l : Launch) (hlt : l.stackTraces = false) (D : va_G) (cI cS cL : ClassId) (a0 : Nat) (a1 : Nat) (a2 : Nat) (a3 : Nat) (a4 : Nat) (a5 : Nat) (a6 : Nat) (a7 : Nat) (a8 : Nat) (a9 : Nat) (a10 : Nat) (a11 : Nat) (a12 : Nat) (a13 : Nat) (b0_1 : Nat) (b0_2 : Nat) (b0_4 : Nat) (b0_5 : Nat) (b0_6 : Nat) (p1 : Int32) (x0_length : Int32) (x0_isReadingOld : Int32) (x1_size : Int32) (f2 : Nat → Int32) (f3 : Nat → Int32) (f4 : Nat → Int32) (f5 : Nat → Int32) (x6_areOrdersCounted : Int32) (x6_isAnyOrder : Int32) (x6_size : Int32) (f7 : Nat → Int32) (f8 : Nat → Int32) (f9 : Nat → Int32) (f10 : Nat → Int32) (f11 : Nat → Int32) (f12 : Nat → Int32) (f13 : Nat → Int32) (aout : Nat) (fout : Nat → Int64) (rr : Int32) (z0 : Int32) (z1 : Int32) (z2 : Int32) (z3 : Int32) (z4 : Nat → Int32) (z5 : Nat → Int32) (z6 : Nat → Int32) (z7 : Nat → Int32) (z8 : Nat → Int32) (z9 : Nat → Int32) (z10 : Nat → Int32) (gout : Nat → Int64) (hc : f_L_wrong p1 x0_isReadingOld x1_size f2 f3 f4 f5 x6_areOrdersCounted x6_isAnyOrder x6_size f7 f8 f9 f10 f11 f12 f13 fout = some (rr, z0, z1, z2, z3, z4, z5, z6, z7, z8, z9, z10, gout)) : KW l yL_wrong wsL_wrong { frames := 7, cells := 1, slots := 6, locals := 110 } D (tyS cI cS cL) [.ref a0, .int p1, .ref aout] [(a0, .inr (4, [.ref a1, .ref b0_1, .ref b0_2, .ref a6, .ref b0_4, .ref b0_5, .ref b0_6, .int x0_length, .int x0_isReadingOld])), (a1, .inr (2, [.ref a2, .ref a3, .ref a4, .ref a5, .int x1_size])), (a2, .inl (cI, 10, .inl f2)), (a3, .inl (cI, 10, .inl f3)), (a4, .inl (cI, 10, .inl f4)), (a5, .inl (cI, 10, .inl f5)), (a6, .inr (1, [.ref a7, .ref a8, .ref a9, .ref a10, .ref a11, .ref a12, .ref a13, .int x6_areOrdersCounted, .int x6_isAnyOrder, .int x6_size])), (a7, .inl (cI, 10, .inl f7)), (a8, .inl (cI, 10, .inl f8)), (a9, .inl (cI, 10, .inl f9)), (a10, .inl (cI, 10, .inl f10)), (a11, .inl (cI, 10, .inl f11)), (a12, .inl (cI, 10, .inl f12)), (a13, .inl (cI, 1024, .inl f13)), (aout, .inl (cL, 1, .inr (.inl fout)))] rr (fun w => w = [(a0, .inr (4, [.ref a1, .ref b0_1, .ref b0_2, .ref a6, .ref b0_4, .ref b0_5, .ref b0_6, .int x0_length, .int z0])), (a1, .inr (2, [.ref a2, .ref a3, .ref a4, .ref a5, .int x1_size])), (a2, .inl (cI, 10, .inl f2)), (a3, .inl (cI, 10, .inl f3)), (a4, .inl (cI, 10, .inl f4)), (a5, .inl (cI, 10, .inl f5)), (a6, .inr (1, [.ref a7, .ref a8, .ref a9, .ref a10, .ref a11, .ref a12, .ref a13, .int z1, .int z2, .int z3])), (a7, .inl (cI, 10, .inl z4)), (a8, .inl (cI, 10, .inl z5)), (a9, .inl (cI, 10, .inl z6)), (a10, .inl (cI, 10, .inl z7)), (a11, .inl (cI, 10, .inl z8)), (a12, .inl (cI, 10, .inl z9)), (a13, .inl (cI, 1024, .inl z10)), (aout, .inl (cL, 1, .inr (.inl gout)))]) := by
  refine g_entryW (cc := cL_wrong) (nL := 4) (rt := (some .int)) (by decide) rfl (Nat.le_of_ble_eq_true rfl) ?_
  intro p e s m args below meth c A (X : GC p s m args c cL_wrong 4 RL wsL_wrong D (tyS cI cS cL) A) Y hT hr hlk
  have h := hc
  unfold f_L_wrong at h
  refine g_lv (lv' := [(0, .ref a0), (1, .int p1), (2, .ref aout)]) [0, 1, 2] rfl ?_
  obtain ⟨rc, y0, y1, y2, y3, y4, y5, y6, y7, y8, y9, y10, hc, h⟩ := bd12 h
  refine g_aload_n X (j := 2) dL_wrong_0 rfl ?_
  refine g_iconst (v := 0) X dL_wrong_1 (by decide) ?_
  refine g_aload_n X (j := 0) dL_wrong_2 rfl ?_
  refine g_iload_n X (j := 1) dL_wrong_3 rfl ?_
  refine g_callX (q0 := 0) (ci := 4) (n := 1) (is := [0, 1, 2, 3, 4, 5, 6, 7, 8, 9, 10, 11, 12, 13]) (isR := [14]) (wr := [(aout, .inl (cL, 1, .inr (.inl fout)))]) (As := [.int p1]) (st := [.int 0, .ref aout]) (cells' := 1) (slots' := 6) X Y (c_X4_wrong l hlt D cI cS cL a0 a1 a2 a3 a4 a5 a6 a7 a8 a9 a10 a11 a12 a13 b0_1 b0_2 b0_4 b0_5 b0_6 p1 x0_length x0_isReadingOld x1_size f2 f3 f4 f5 x6_areOrdersCounted x6_isAnyOrder x6_size f7 f8 f9 f10 f11 f12 f13 rc y0 y1 y2 y3 y4 y5 y6 y7 y8 y9 y10 hc) gL_wrong_X4_wrong rfl ⟨rfl, rfl⟩ hd_X4_wrong (by exact ⟨Nat.le_of_ble_eq_true rfl, Nat.le_of_ble_eq_true rfl⟩) rfl rfl ⟨(Nat.le_of_ble_eq_true rfl), (Nat.le_of_ble_eq_true rfl)⟩ rfl rfl rfl (by decide +kernel) rfl rfl (by decide +kernel) rfl (Nat.le_of_ble_eq_true rfl) rfl dL_wrong_4 (fun E hE => ?_) (fun v hv => ?_)
  · subst hE
    dsimp only at h
    rintro _ rfl
    by_cases hq : E = "java/lang/IllegalArgumentException"
    · subst hq
      have h := if_t h rfl
      refine g_catch1 (hh := []) (x := (0, 9, 12, 13)) X Y (by decide +kernel) hT (by decide) (by decide) hk_L_wrong_13 (fun q => ?_)
      refine g_astore_n (lv' := [(3, .ref q), (0, .ref a0), (1, .int p1), (2, .ref aout)]) X dL_wrong_12 rfl (by decide) rfl ?_
      refine g_iconst (v := 1) X dL_wrong_13 (by decide) ?_
      refine g_ws (ws' := [(a0, .inr (4, [.ref a1, .ref b0_1, .ref b0_2, .ref a6, .ref b0_4, .ref b0_5, .ref b0_6, .int x0_length, .int y0])), (a1, .inr (2, [.ref a2, .ref a3, .ref a4, .ref a5, .int x1_size])), (a2, .inl (cI, 10, .inl f2)), (a3, .inl (cI, 10, .inl f3)), (a4, .inl (cI, 10, .inl f4)), (a5, .inl (cI, 10, .inl f5)), (a6, .inr (1, [.ref a7, .ref a8, .ref a9, .ref a10, .ref a11, .ref a12, .ref a13, .int y1, .int y2, .int y3])), (a7, .inl (cI, 10, .inl y4)), (a8, .inl (cI, 10, .inl y5)), (a9, .inl (cI, 10, .inl y6)), (a10, .inl (cI, 10, .inl y7)), (a11, .inl (cI, 10, .inl y8)), (a12, .inl (cI, 10, .inl y9)), (a13, .inl (cI, 1024, .inl y10)), (aout, .inl (cL, 1, .inr (.inl fout)))]) [1, 2, 3, 4, 5, 6, 7, 8, 9, 10, 11, 12, 13, 14, 0] rfl (by decide +kernel) ?_
      have h := Option.some.inj h
      simp only [Prod.mk.injEq] at h
      obtain ⟨rfl, rfl, rfl, rfl, rfl, rfl, rfl, rfl, rfl, rfl, rfl, rfl, rfl⟩ := h
      exact g_iret X hr hlk dL_wrong_14 rfl rfl
    have h := if_f h hq
    cases h
  · subst hv
    dsimp only at h
    rintro _ rfl
    refine g_ws (ws' := [(a0, .inr (4, [.ref a1, .ref b0_1, .ref b0_2, .ref a6, .ref b0_4, .ref b0_5, .ref b0_6, .int x0_length, .int y0])), (a1, .inr (2, [.ref a2, .ref a3, .ref a4, .ref a5, .int x1_size])), (a2, .inl (cI, 10, .inl f2)), (a3, .inl (cI, 10, .inl f3)), (a4, .inl (cI, 10, .inl f4)), (a5, .inl (cI, 10, .inl f5)), (a6, .inr (1, [.ref a7, .ref a8, .ref a9, .ref a10, .ref a11, .ref a12, .ref a13, .int y1, .int y2, .int y3])), (a7, .inl (cI, 10, .inl y4)), (a8, .inl (cI, 10, .inl y5)), (a9, .inl (cI, 10, .inl y6)), (a10, .inl (cI, 10, .inl y7)), (a11, .inl (cI, 10, .inl y8)), (a12, .inl (cI, 10, .inl y9)), (a13, .inl (cI, 1024, .inl y10)), (aout, .inl (cL, 1, .inr (.inl fout)))]) [1, 2, 3, 4, 5, 6, 7, 8, 9, 10, 11, 12, 13, 14, 0] rfl (by decide +kernel) ?_
    refine g_i2l X dL_wrong_7 ?_
    refine g_last (q0 := 14) (t0 := 2) (ws1 := fun g => [(a0, .inr (4, [.ref a1, .ref b0_1, .ref b0_2, .ref a6, .ref b0_4, .ref b0_5, .ref b0_6, .int x0_length, .int y0])), (a1, .inr (2, [.ref a2, .ref a3, .ref a4, .ref a5, .int x1_size])), (a2, .inl (cI, 10, .inl f2)), (a3, .inl (cI, 10, .inl f3)), (a4, .inl (cI, 10, .inl f4)), (a5, .inl (cI, 10, .inl f5)), (a6, .inr (1, [.ref a7, .ref a8, .ref a9, .ref a10, .ref a11, .ref a12, .ref a13, .int y1, .int y2, .int y3])), (a7, .inl (cI, 10, .inl y4)), (a8, .inl (cI, 10, .inl y5)), (a9, .inl (cI, 10, .inl y6)), (a10, .inl (cI, 10, .inl y7)), (a11, .inl (cI, 10, .inl y8)), (a12, .inl (cI, 10, .inl y9)), (a13, .inl (cI, 1024, .inl y10)), (aout, .inl (cL, 1, .inr (.inl g)))]) X h rfl rfl dL_wrong_8 (fun _ => rfl) (fun g h => ?_)
    refine g_goto (tgt := 15) X dL_wrong_9 (by decide) ?_
    refine g_iconst (v := 0) X dL_wrong_15 (by decide) ?_
    have h := Option.some.inj h
    simp only [Prod.mk.injEq] at h
    obtain ⟨rfl, rfl, rfl, rfl, rfl, rfl, rfl, rfl, rfl, rfl, rfl, rfl, rfl⟩ := h
    exact g_iret X hr hlk dL_wrong_16 rfl rfl
theorem hk_L_tells_21 : Cond.classLink RL 21 "java/lang/IndexOutOfBoundsException" ∈ wsL_tells := by decide +kernel
def f_L_tells (p1 : Int32) (x0_isReadingOld : Int32) (x1_size : Int32) (f2 : Nat → Int32) (f3 : Nat → Int32) (f4 : Nat → Int32) (f5 : Nat → Int32) (x6_size : Int32) (f7 : Nat → Int32) (f8 : Nat → Int32) (f9 : Nat → Int32) (f10 : Nat → Int32) (x11_areOrdersCounted : Int32) (x11_isAnyOrder : Int32) (x11_size : Int32) (f12 : Nat → Int32) (f13 : Nat → Int32) (f14 : Nat → Int32) (f15 : Nat → Int32) (f16 : Nat → Int32) (f17 : Nat → Int32) (f18 : Nat → Int32) (x19_areOrdersCounted : Int32) (x19_isAnyOrder : Int32) (x19_size : Int32) (f20 : Nat → Int32) (f21 : Nat → Int32) (f22 : Nat → Int32) (f23 : Nat → Int32) (f24 : Nat → Int32) (f25 : Nat → Int32) (f26 : Nat → Int32) (fout : Nat → Int64) : Option (Int32 × Int32 × Int32 × (Nat → Int32) × (Nat → Int32) × (Nat → Int32) × (Nat → Int32) × Int32 × Int32 × Int32 × (Nat → Int32) × (Nat → Int32) × (Nat → Int32) × (Nat → Int32) × (Nat → Int32) × (Nat → Int32) × (Nat → Int32) × Int32 × Int32 × Int32 × (Nat → Int32) × (Nat → Int32) × (Nat → Int32) × (Nat → Int32) × (Nat → Int32) × (Nat → Int32) × (Nat → Int32) × (Nat → Int64)) := (f_X4_tells p1 x0_isReadingOld x1_size f2 f3 f4 f5 x6_size f7 f8 f9 f10 x11_areOrdersCounted x11_isAnyOrder x11_size f12 f13 f14 f15 f16 f17 f18 x19_areOrdersCounted x19_isAnyOrder x19_size f20 f21 f22 f23 f24 f25 f26).bind (u27 fun (rc : Int32 ⊕ String) (y0 : Int32) (y1 : Int32) (y2 : Nat → Int32) (y3 : Nat → Int32) (y4 : Nat → Int32) (y5 : Nat → Int32) (y6 : Int32) (y7 : Int32) (y8 : Int32) (y9 : Nat → Int32) (y10 : Nat → Int32) (y11 : Nat → Int32) (y12 : Nat → Int32) (y13 : Nat → Int32) (y14 : Nat → Int32) (y15 : Nat → Int32) (y16 : Int32) (y17 : Int32) (y18 : Int32) (y19 : Nat → Int32) (y20 : Nat → Int32) (y21 : Nat → Int32) (y22 : Nat → Int32) (y23 : Nat → Int32) (y24 : Nat → Int32) (y25 : Nat → Int32) => match rc with | .inl v => (wrL fout 1 0 v.toInt64).bind (fun g => some (0, y0, y1, y2, y3, y4, y5, y6, y7, y8, y9, y10, y11, y12, y13, y14, y15, y16, y17, y18, y19, y20, y21, y22, y23, y24, y25, g)) | .inr E => if E = "java/lang/IndexOutOfBoundsException" then some (1, y0, y1, y2, y3, y4, y5, y6, y7, y8, y9, y10, y11, y12, y13, y14, y15, y16, y17, y18, y19, y20, y21, y22, y23, y24, y25, fout) else none)
theorem hd_L_tells : yL_tells.cls = RL ∧ yL_tells.cls ≠ "java/lang/invoke/MethodHandle" ∧ yL_tells.cls ≠ "java/lang/invoke/VarHandle" ∧ (parseMethodDescriptor yL_tells.desc).map (fun d => d.parameters.length) = some 3 := by decide +kernel
set_option maxRecDepth 100000 in
set_option maxHeartbeats 8000000 in
theorem c_L_tells (l : Launch) (hlt : l.stackTraces = false) (D : va_G) (cI cS cL : ClassId) (a0 : Nat) (a1 : Nat) (a2 : Nat) (a3 : Nat) (a4 : Nat) (a5 : Nat) (a6 : Nat) (a7 : Nat) (a8 : Nat) (a9 : Nat) (a10 : Nat) (a11 : Nat) (a12 : Nat) (a13 : Nat) (a14 : Nat) (a15 : Nat) (a16 : Nat) (a17 : Nat) (a18 : Nat) (a19 : Nat) (a20 : Nat) (a21 : Nat) (a22 : Nat) (a23 : Nat) (a24 : Nat) (a25 : Nat) (a26 : Nat) (b0_2 : Nat) (b0_5 : Nat) (b0_6 : Nat) (p1 : Int32) (x0_length : Int32) (x0_isReadingOld : Int32) (x1_size : Int32) (f2 : Nat → Int32) (f3 : Nat → Int32) (f4 : Nat → Int32) (f5 : Nat → Int32) (x6_size : Int32) (f7 : Nat → Int32) (f8 : Nat → Int32) (f9 : Nat → Int32) (f10 : Nat → Int32) (x11_areOrdersCounted : Int32) (x11_isAnyOrder : Int32) (x11_size : Int32) (f12 : Nat → Int32) (f13 : Nat → Int32) (f14 : Nat → Int32) (f15 : Nat → Int32) (f16 : Nat → Int32) (f17 : Nat → Int32) (f18 : Nat → Int32) (x19_areOrdersCounted : Int32) (x19_isAnyOrder : Int32) (x19_size : Int32) (f20 : Nat → Int32) (f21 : Nat → Int32) (f22 : Nat → Int32) (f23 : Nat → Int32) (f24 : Nat → Int32) (f25 : Nat → Int32) (f26 : Nat → Int32) (aout : Nat) (fout : Nat → Int64) (rr : Int32) (z0 : Int32) (z1 : Int32) (z2 : Nat → Int32) (z3 : Nat → Int32) (z4 : Nat → Int32) (z5 : Nat → Int32) (z6 : Int32) (z7 : Int32) (z8 : Int32) (z9 : Nat → Int32) (z10 : Nat → Int32) (z11 : Nat → Int32) (z12 : Nat → Int32) (z13 : Nat → Int32) (z14 : Nat → Int32) (z15 : Nat → Int32) (z16 : Int32) (z17 : Int32) (z18 : Int32) (z19 : Nat → Int32) (z20 : Nat → Int32) (z21 : Nat → Int32) (z22 : Nat → Int32) (z23 : Nat → Int32) (z24 : Nat → Int32) (z25 : Nat → Int32) (gout : Nat → Int64) (hc : f_L_tells p1 x0_isReadingOld x1_size f2 f3 f4 f5 x6_size f7 f8 f9 f10 x11_areOrdersCounted x11_isAnyOrder x11_size f12 f13 f14 f15 f16 f17 f18 x19_areOrdersCounted x19_isAnyOrder x19_size f20 f21 f22 f23 f24 f25 f26 fout = some (rr, z0, z1, z2, z3, z4, z5, z6, z7, z8, z9, z10, z11, z12, z13, z14, z15, z16, z17, z18, z19, z20, z21, z22, z23, z24, z25, gout)) : KW l yL_tells wsL_tells { frames := 7, cells := 1, slots := 6, locals := 128 } D (tyS cI cS cL) [.ref a0, .int p1, .ref aout] [(a0, .inr (4, [.ref a1, .ref a6, .ref b0_2, .ref a11, .ref a19, .ref b0_5, .ref b0_6, .int x0_length, .int x0_isReadingOld])), (a1, .inr (2, [.ref a2, .ref a3, .ref a4, .ref a5, .int x1_size])), (a2, .inl (cI, 10, .inl f2)), (a3, .inl (cI, 10, .inl f3)), (a4, .inl (cI, 10, .inl f4)), (a5, .inl (cI, 10, .inl f5)), (a6, .inr (2, [.ref a7, .ref a8, .ref a9, .ref a10, .int x6_size])), (a7, .inl (cI, 10, .inl f7)), (a8, .inl (cI, 10, .inl f8)), (a9, .inl (cI, 10, .inl f9)), (a10, .inl (cI, 10, .inl f10)), (a11, .inr (1, [.ref a12, .ref a13, .ref a14, .ref a15, .ref a16, .ref a17, .ref a18, .int x11_areOrdersCounted, .int x11_isAnyOrder, .int x11_size])), (a12, .inl (cI, 10, .inl f12)), (a13, .inl (cI, 10, .inl f13)), (a14, .inl (cI, 10, .inl f14)), (a15, .inl (cI, 10, .inl f15)), (a16, .inl (cI, 10, .inl f16)), (a17, .inl (cI, 10, .inl f17)), (a18, .inl (cI, 1024, .inl f18)), (a19, .inr (1, [.ref a20, .ref a21, .ref a22, .ref a23, .ref a24, .ref a25, .ref a26, .int x19_areOrdersCounted, .int x19_isAnyOrder, .int x19_size])), (a20, .inl (cI, 10, .inl f20)), (a21, .inl (cI, 10, .inl f21)), (a22, .inl (cI, 10, .inl f22)), (a23, .inl (cI, 10, .inl f23)), (a24, .inl (cI, 10, .inl f24)), (a25, .inl (cI, 10, .inl f25)), (a26, .inl (cI, 1024, .inl f26)), (aout, .inl (cL, 1, .inr (.inl fout)))] rr (fun w => w = [(a0, .inr (4, [.ref a1, .ref a6, .ref b0_2, .ref a11, .ref a19, .ref b0_5, .ref b0_6, .int x0_length, .int z0])), (a1, .inr (2, [.ref a2, .ref a3, .ref a4, .ref a5, .int x1_size])), (a2, .inl (cI, 10, .inl f2)), (a3, .inl (cI, 10, .inl f3)), (a4, .inl (cI, 10, .inl f4)), (a5, .inl (cI, 10, .inl f5)), (a6, .inr (2, [.ref a7, .ref a8, .ref a9, .ref a10, .int z1])), (a7, .inl (cI, 10, .inl z2)), (a8, .inl (cI, 10, .inl z3)), (a9, .inl (cI, 10, .inl z4)), (a10, .inl (cI, 10, .inl z5)), (a11, .inr (1, [.ref a12, .ref a13, .ref a14, .ref a15, .ref a16, .ref a17, .ref a18, .int z6, .int z7, .int z8])), (a12, .inl (cI, 10, .inl z9)), (a13, .inl (cI, 10, .inl z10)), (a14, .inl (cI, 10, .inl z11)), (a15, .inl (cI, 10, .inl z12)), (a16, .inl (cI, 10, .inl z13)), (a17, .inl (cI, 10, .inl z14)), (a18, .inl (cI, 1024, .inl z15)), (a19, .inr (1, [.ref a20, .ref a21, .ref a22, .ref a23, .ref a24, .ref a25, .ref a26, .int z16, .int z17, .int z18])), (a20, .inl (cI, 10, .inl z19)), (a21, .inl (cI, 10, .inl z20)), (a22, .inl (cI, 10, .inl z21)), (a23, .inl (cI, 10, .inl z22)), (a24, .inl (cI, 10, .inl z23)), (a25, .inl (cI, 10, .inl z24)), (a26, .inl (cI, 1024, .inl z25)), (aout, .inl (cL, 1, .inr (.inl gout)))]) := by
  refine g_entryW (cc := cL_tells) (nL := 4) (rt := (some .int)) (by decide) rfl (Nat.le_of_ble_eq_true rfl) ?_
  intro p e s m args below meth c A (X : GC p s m args c cL_tells 4 RL wsL_tells D (tyS cI cS cL) A) Y hT hr hlk
  have h := hc
  unfold f_L_tells at h
  refine g_lv (lv' := [(0, .ref a0), (1, .int p1), (2, .ref aout)]) [0, 1, 2] rfl ?_
  obtain ⟨rc, y0, y1, y2, y3, y4, y5, y6, y7, y8, y9, y10, y11, y12, y13, y14, y15, y16, y17, y18, y19, y20, y21, y22, y23, y24, y25, hc, h⟩ := bd27 h
  refine g_aload_n X (j := 2) dL_tells_0 rfl ?_
  refine g_iconst (v := 0) X dL_tells_1 (by decide) ?_
  refine g_aload_n X (j := 0) dL_tells_2 rfl ?_
  refine g_iload_n X (j := 1) dL_tells_3 rfl ?_
  refine g_callX (q0 := 0) (ci := 4) (n := 1) (is := [0, 1, 2, 3, 4, 5, 6, 7, 8, 9, 10, 11, 12, 13, 14, 15, 16, 17, 18, 19, 20, 21, 22, 23, 24, 25, 26]) (isR := [27]) (wr := [(aout, .inl (cL, 1, .inr (.inl fout)))]) (As := [.int p1]) (st := [.int 0, .ref aout]) (cells' := 1) (slots' := 6) X Y (c_X4_tells l hlt D cI cS cL a0 a1 a2 a3 a4 a5 a6 a7 a8 a9 a10 a11 a12 a13 a14 a15 a16 a17 a18 a19 a20 a21 a22 a23 a24 a25 a26 b0_2 b0_5 b0_6 p1 x0_length x0_isReadingOld x1_size f2 f3 f4 f5 x6_size f7 f8 f9 f10 x11_areOrdersCounted x11_isAnyOrder x11_size f12 f13 f14 f15 f16 f17 f18 x19_areOrdersCounted x19_isAnyOrder x19_size f20 f21 f22 f23 f24 f25 f26 rc y0 y1 y2 y3 y4 y5 y6 y7 y8 y9 y10 y11 y12 y13 y14 y15 y16 y17 y18 y19 y20 y21 y22 y23 y24 y25 hc) gL_tells_X4_tells rfl ⟨rfl, rfl⟩ hd_X4_tells (by exact ⟨Nat.le_of_ble_eq_true rfl, Nat.le_of_ble_eq_true rfl⟩) rfl rfl ⟨(Nat.le_of_ble_eq_true rfl), (Nat.le_of_ble_eq_true rfl)⟩ rfl rfl rfl (by decide +kernel) rfl rfl (by decide +kernel) rfl (Nat.le_of_ble_eq_true rfl) rfl dL_tells_4 (fun E hE => ?_) (fun v hv => ?_)
  · subst hE
    dsimp only at h
    rintro _ rfl
    by_cases hq : E = "java/lang/IndexOutOfBoundsException"
    · subst hq
      have h := if_t h rfl
      refine g_catch1 (hh := []) (x := (0, 9, 12, 21)) X Y (by decide +kernel) hT (by decide) (by decide) hk_L_tells_21 (fun q => ?_)
      refine g_astore_n (lv' := [(3, .ref q), (0, .ref a0), (1, .int p1), (2, .ref aout)]) X dL_tells_12 rfl (by decide) rfl ?_
      refine g_iconst (v := 1) X dL_tells_13 (by decide) ?_
      refine g_ws (ws' := [(a0, .inr (4, [.ref a1, .ref a6, .ref b0_2, .ref a11, .ref a19, .ref b0_5, .ref b0_6, .int x0_length, .int y0])), (a1, .inr (2, [.ref a2, .ref a3, .ref a4, .ref a5, .int x1_size])), (a2, .inl (cI, 10, .inl f2)), (a3, .inl (cI, 10, .inl f3)), (a4, .inl (cI, 10, .inl f4)), (a5, .inl (cI, 10, .inl f5)), (a6, .inr (2, [.ref a7, .ref a8, .ref a9, .ref a10, .int y1])), (a7, .inl (cI, 10, .inl y2)), (a8, .inl (cI, 10, .inl y3)), (a9, .inl (cI, 10, .inl y4)), (a10, .inl (cI, 10, .inl y5)), (a11, .inr (1, [.ref a12, .ref a13, .ref a14, .ref a15, .ref a16, .ref a17, .ref a18, .int y6, .int y7, .int y8])), (a12, .inl (cI, 10, .inl y9)), (a13, .inl (cI, 10, .inl y10)), (a14, .inl (cI, 10, .inl y11)), (a15, .inl (cI, 10, .inl y12)), (a16, .inl (cI, 10, .inl y13)), (a17, .inl (cI, 10, .inl y14)), (a18, .inl (cI, 1024, .inl y15)), (a19, .inr (1, [.ref a20, .ref a21, .ref a22, .ref a23, .ref a24, .ref a25, .ref a26, .int y16, .int y17, .int y18])), (a20, .inl (cI, 10, .inl y19)), (a21, .inl (cI, 10, .inl y20)), (a22, .inl (cI, 10, .inl y21)), (a23, .inl (cI, 10, .inl y22)), (a24, .inl (cI, 10, .inl y23)), (a25, .inl (cI, 10, .inl y24)), (a26, .inl (cI, 1024, .inl y25)), (aout, .inl (cL, 1, .inr (.inl fout)))]) [1, 2, 3, 4, 5, 6, 7, 8, 9, 10, 11, 12, 13, 14, 15, 16, 17, 18, 19, 20, 21, 22, 23, 24, 25, 26, 27, 0] rfl (by decide +kernel) ?_
      have h := Option.some.inj h
      simp only [Prod.mk.injEq] at h
      obtain ⟨rfl, rfl, rfl, rfl, rfl, rfl, rfl, rfl, rfl, rfl, rfl, rfl, rfl, rfl, rfl, rfl, rfl, rfl, rfl, rfl, rfl, rfl, rfl, rfl, rfl, rfl, rfl, rfl⟩ := h
      exact g_iret X hr hlk dL_tells_14 rfl rfl
    have h := if_f h hq
    cases h
  · subst hv
    dsimp only at h
    rintro _ rfl
    refine g_ws (ws' := [(a0, .inr (4, [.ref a1, .ref a6, .ref b0_2, .ref a11, .ref a19, .ref b0_5, .ref b0_6, .int x0_length, .int y0])), (a1, .inr (2, [.ref a2, .ref a3, .ref a4, .ref a5, .int x1_size])), (a2, .inl (cI, 10, .inl f2)), (a3, .inl (cI, 10, .inl f3)), (a4, .inl (cI, 10, .inl f4)), (a5, .inl (cI, 10, .inl f5)), (a6, .inr (2, [.ref a7, .ref a8, .ref a9, .ref a10, .int y1])), (a7, .inl (cI, 10, .inl y2)), (a8, .inl (cI, 10, .inl y3)), (a9, .inl (cI, 10, .inl y4)), (a10, .inl (cI, 10, .inl y5)), (a11, .inr (1, [.ref a12, .ref a13, .ref a14, .ref a15, .ref a16, .ref a17, .ref a18, .int y6, .int y7, .int y8])), (a12, .inl (cI, 10, .inl y9)), (a13, .inl (cI, 10, .inl y10)), (a14, .inl (cI, 10, .inl y11)), (a15, .inl (cI, 10, .inl y12)), (a16, .inl (cI, 10, .inl y13)), (a17, .inl (cI, 10, .inl y14)), (a18, .inl (cI, 1024, .inl y15)), (a19, .inr (1, [.ref a20, .ref a21, .ref a22, .ref a23, .ref a24, .ref a25, .ref a26, .int y16, .int y17, .int y18])), (a20, .inl (cI, 10, .inl y19)), (a21, .inl (cI, 10, .inl y20)), (a22, .inl (cI, 10, .inl y21)), (a23, .inl (cI, 10, .inl y22)), (a24, .inl (cI, 10, .inl y23)), (a25, .inl (cI, 10, .inl y24)), (a26, .inl (cI, 1024, .inl y25)), (aout, .inl (cL, 1, .inr (.inl fout)))]) [1, 2, 3, 4, 5, 6, 7, 8, 9, 10, 11, 12, 13, 14, 15, 16, 17, 18, 19, 20, 21, 22, 23, 24, 25, 26, 27, 0] rfl (by decide +kernel) ?_
    refine g_i2l X dL_tells_7 ?_
    refine g_last (q0 := 27) (t0 := 2) (ws1 := fun g => [(a0, .inr (4, [.ref a1, .ref a6, .ref b0_2, .ref a11, .ref a19, .ref b0_5, .ref b0_6, .int x0_length, .int y0])), (a1, .inr (2, [.ref a2, .ref a3, .ref a4, .ref a5, .int x1_size])), (a2, .inl (cI, 10, .inl f2)), (a3, .inl (cI, 10, .inl f3)), (a4, .inl (cI, 10, .inl f4)), (a5, .inl (cI, 10, .inl f5)), (a6, .inr (2, [.ref a7, .ref a8, .ref a9, .ref a10, .int y1])), (a7, .inl (cI, 10, .inl y2)), (a8, .inl (cI, 10, .inl y3)), (a9, .inl (cI, 10, .inl y4)), (a10, .inl (cI, 10, .inl y5)), (a11, .inr (1, [.ref a12, .ref a13, .ref a14, .ref a15, .ref a16, .ref a17, .ref a18, .int y6, .int y7, .int y8])), (a12, .inl (cI, 10, .inl y9)), (a13, .inl (cI, 10, .inl y10)), (a14, .inl (cI, 10, .inl y11)), (a15, .inl (cI, 10, .inl y12)), (a16, .inl (cI, 10, .inl y13)), (a17, .inl (cI, 10, .inl y14)), (a18, .inl (cI, 1024, .inl y15)), (a19, .inr (1, [.ref a20, .ref a21, .ref a22, .ref a23, .ref a24, .ref a25, .ref a26, .int y16, .int y17, .int y18])), (a20, .inl (cI, 10, .inl y19)), (a21, .inl (cI, 10, .inl y20)), (a22, .inl (cI, 10, .inl y21)), (a23, .inl (cI, 10, .inl y22)), (a24, .inl (cI, 10, .inl y23)), (a25, .inl (cI, 10, .inl y24)), (a26, .inl (cI, 1024, .inl y25)), (aout, .inl (cL, 1, .inr (.inl g)))]) X h rfl rfl dL_tells_8 (fun _ => rfl) (fun g h => ?_)
    refine g_goto (tgt := 15) X dL_tells_9 (by decide) ?_
    refine g_iconst (v := 0) X dL_tells_15 (by decide) ?_
    have h := Option.some.inj h
    simp only [Prod.mk.injEq] at h
    obtain ⟨rfl, rfl, rfl, rfl, rfl, rfl, rfl, rfl, rfl, rfl, rfl, rfl, rfl, rfl, rfl, rfl, rfl, rfl, rfl, rfl, rfl, rfl, rfl, rfl, rfl, rfl, rfl, rfl⟩ := h
    exact g_iret X hr hlk dL_tells_16 rfl rfl
theorem hk_L_ifYear_21 : Cond.classLink RL 21 "java/lang/IndexOutOfBoundsException" ∈ wsL_ifYear := by decide +kernel
theorem hk_L_ifYear_13 : Cond.classLink RL 13 "java/lang/IllegalArgumentException" ∈ wsL_ifYear := by decide +kernel
def f_L_ifYear (p1 : Int32) (p2 : Int32) (p3 : Int32) (x1_size : Int32) (f2 : Nat → Int32) (f3 : Nat → Int32) (f4 : Nat → Int32) (f5 : Nat → Int32) (x6_size : Int32) (f7 : Nat → Int32) (f8 : Nat → Int32) (f9 : Nat → Int32) (f10 : Nat → Int32) (x11_areOrdersCounted : Int32) (x11_isAnyOrder : Int32) (x11_size : Int32) (f12 : Nat → Int32) (f13 : Nat → Int32) (f14 : Nat → Int32) (f15 : Nat → Int32) (f16 : Nat → Int32) (f17 : Nat → Int32) (f18 : Nat → Int32) (fout : Nat → Int64) : Option (Int32 × Int32 × (Nat → Int32) × (Nat → Int32) × (Nat → Int32) × (Nat → Int32) × Int32 × Int32 × Int32 × (Nat → Int32) × (Nat → Int32) × (Nat → Int32) × (Nat → Int32) × (Nat → Int32) × (Nat → Int32) × (Nat → Int32) × (Nat → Int64)) := (f_X4_ifYear p1 p2 p3 x1_size f2 f3 f4 f5 x6_size f7 f8 f9 f10 x11_areOrdersCounted x11_isAnyOrder x11_size f12 f13 f14 f15 f16 f17 f18).bind (u16 fun (rc : Int32 ⊕ String) (y0 : Int32) (y1 : Nat → Int32) (y2 : Nat → Int32) (y3 : Nat → Int32) (y4 : Nat → Int32) (y5 : Int32) (y6 : Int32) (y7 : Int32) (y8 : Nat → Int32) (y9 : Nat → Int32) (y10 : Nat → Int32) (y11 : Nat → Int32) (y12 : Nat → Int32) (y13 : Nat → Int32) (y14 : Nat → Int32) => match rc with | .inl v => (wrL fout 1 0 v.toInt64).bind (fun g => some (0, y0, y1, y2, y3, y4, y5, y6, y7, y8, y9, y10, y11, y12, y13, y14, g)) | .inr E => if E = "java/lang/IndexOutOfBoundsException" then some (1, y0, y1, y2, y3, y4, y5, y6, y7, y8, y9, y10, y11, y12, y13, y14, fout) else if E = "java/lang/IllegalArgumentException" then some (2, y0, y1, y2, y3, y4, y5, y6, y7, y8, y9, y10, y11, y12, y13, y14, fout) else none)
theorem hd_L_ifYear : yL_ifYear.cls = RL ∧ yL_ifYear.cls ≠ "java/lang/invoke/MethodHandle" ∧ yL_ifYear.cls ≠ "java/lang/invoke/VarHandle" ∧ (parseMethodDescriptor yL_ifYear.desc).map (fun d => d.parameters.length) = some 5 := by decide +kernel
set_option maxRecDepth 100000 in
set_option maxHeartbeats 8000000 in
theorem c_L_ifYear (l : Launch) (hlt : l.stackTraces = false) (D : va_G) (cI cS cL : ClassId) (a0 : Nat) (a1 : Nat) (a2 : Nat) (a3 : Nat) (a4 : Nat) (a5 : Nat) (a6 : Nat) (a7 : Nat) (a8 : Nat) (a9 : Nat) (a10 : Nat) (a11 : Nat) (a12 : Nat) (a13 : Nat) (a14 : Nat) (a15 : Nat) (a16 : Nat) (a17 : Nat) (a18 : Nat) (b0_2 : Nat) (b0_3 : Nat) (b0_5 : Nat) (b0_6 : Nat) (p1 : Int32) (p2 : Int32) (p3 : Int32) (x0_length : Int32) (x0_isReadingOld : Int32) (x1_size : Int32) (f2 : Nat → Int32) (f3 : Nat → Int32) (f4 : Nat → Int32) (f5 : Nat → Int32) (x6_size : Int32) (f7 : Nat → Int32) (f8 : Nat → Int32) (f9 : Nat → Int32) (f10 : Nat → Int32) (x11_areOrdersCounted : Int32) (x11_isAnyOrder : Int32) (x11_size : Int32) (f12 : Nat → Int32) (f13 : Nat → Int32) (f14 : Nat → Int32) (f15 : Nat → Int32) (f16 : Nat → Int32) (f17 : Nat → Int32) (f18 : Nat → Int32) (aout : Nat) (fout : Nat → Int64) (rr : Int32) (z0 : Int32) (z1 : Nat → Int32) (z2 : Nat → Int32) (z3 : Nat → Int32) (z4 : Nat → Int32) (z5 : Int32) (z6 : Int32) (z7 : Int32) (z8 : Nat → Int32) (z9 : Nat → Int32) (z10 : Nat → Int32) (z11 : Nat → Int32) (z12 : Nat → Int32) (z13 : Nat → Int32) (z14 : Nat → Int32) (gout : Nat → Int64) (hc : f_L_ifYear p1 p2 p3 x1_size f2 f3 f4 f5 x6_size f7 f8 f9 f10 x11_areOrdersCounted x11_isAnyOrder x11_size f12 f13 f14 f15 f16 f17 f18 fout = some (rr, z0, z1, z2, z3, z4, z5, z6, z7, z8, z9, z10, z11, z12, z13, z14, gout)) : KW l yL_ifYear wsL_ifYear { frames := 7, cells := 1, slots := 6, locals := 131 } D (tyS cI cS cL) [.ref a0, .int p1, .int p2, .int p3, .ref aout] [(a0, .inr (4, [.ref a1, .ref a6, .ref b0_2, .ref b0_3, .ref a11, .ref b0_5, .ref b0_6, .int x0_length, .int x0_isReadingOld])), (a1, .inr (2, [.ref a2, .ref a3, .ref a4, .ref a5, .int x1_size])), (a2, .inl (cI, 10, .inl f2)), (a3, .inl (cI, 10, .inl f3)), (a4, .inl (cI, 10, .inl f4)), (a5, .inl (cI, 10, .inl f5)), (a6, .inr (2, [.ref a7, .ref a8, .ref a9, .ref a10, .int x6_size])), (a7, .inl (cI, 10, .inl f7)), (a8, .inl (cI, 10, .inl f8)), (a9, .inl (cI, 10, .inl f9)), (a10, .inl (cI, 10, .inl f10)), (a11, .inr (1, [.ref a12, .ref a13, .ref a14, .ref a15, .ref a16, .ref a17, .ref a18, .int x11_areOrdersCounted, .int x11_isAnyOrder, .int x11_size])), (a12, .inl (cI, 10, .inl f12)), (a13, .inl (cI, 10, .inl f13)), (a14, .inl (cI, 10, .inl f14)), (a15, .inl (cI, 10, .inl f15)), (a16, .inl (cI, 10, .inl f16)), (a17, .inl (cI, 10, .inl f17)), (a18, .inl (cI, 1024, .inl f18)), (aout, .inl (cL, 1, .inr (.inl fout)))] rr (fun w => w = [(a0, .inr (4, [.ref a1, .ref a6, .ref b0_2, .ref b0_3, .ref a11, .ref b0_5, .ref b0_6, .int x0_length, .int x0_isReadingOld])), (a1, .inr (2, [.ref a2, .ref a3, .ref a4, .ref a5, .int x1_size])), (a2, .inl (cI, 10, .inl f2)), (a3, .inl (cI, 10, .inl f3)), (a4, .inl (cI, 10, .inl f4)), (a5, .inl (cI, 10, .inl f5)), (a6, .inr (2, [.ref a7, .ref a8, .ref a9, .ref a10, .int z0])), (a7, .inl (cI, 10, .inl z1)), (a8, .inl (cI, 10, .inl z2)), (a9, .inl (cI, 10, .inl z3)), (a10, .inl (cI, 10, .inl z4)), (a11, .inr (1, [.ref a12, .ref a13, .ref a14, .ref a15, .ref a16, .ref a17, .ref a18, .int z5, .int z6, .int z7])), (a12, .inl (cI, 10, .inl z8)), (a13, .inl (cI, 10, .inl z9)), (a14, .inl (cI, 10, .inl z10)), (a15, .inl (cI, 10, .inl z11)), (a16, .inl (cI, 10, .inl z12)), (a17, .inl (cI, 10, .inl z13)), (a18, .inl (cI, 1024, .inl z14)), (aout, .inl (cL, 1, .inr (.inl gout)))]) := by
  refine g_entryW (cc := cL_ifYear) (nL := 6) (rt := (some .int)) (by decide) rfl (Nat.le_of_ble_eq_true rfl) ?_
  intro p e s m args below meth c A (X : GC p s m args c cL_ifYear 6 RL wsL_ifYear D (tyS cI cS cL) A) Y hT hr hlk
  have h := hc
  unfold f_L_ifYear at h
  refine g_lv (lv' := [(0, .ref a0), (1, .int p1), (2, .int p2), (3, .int p3), (4, .ref aout)]) [0, 1, 2, 3, 4] rfl ?_
  obtain ⟨rc, y0, y1, y2, y3, y4, y5, y6, y7, y8, y9, y10, y11, y12, y13, y14, hc, h⟩ := bd16 h
  refine g_aload X (j := 4) dL_ifYear_0 rfl ?_
  refine g_iconst (v := 0) X dL_ifYear_2 (by decide) ?_
  refine g_aload_n X (j := 0) dL_ifYear_3 rfl ?_
  refine g_iload_n X (j := 1) dL_ifYear_4 rfl ?_
  refine g_iload_n X (j := 2) dL_ifYear_5 rfl ?_
  refine g_iload_n X (j := 3) dL_ifYear_6 rfl ?_
  refine g_callX (q0 := 0) (ci := 4) (n := 3) (is := [0, 1, 2, 3, 4, 5, 6, 7, 8, 9, 10, 11, 12, 13, 14, 15, 16, 17, 18]) (isR := [19]) (wr := [(aout, .inl (cL, 1, .inr (.inl fout)))]) (As := [.int p1, .int p2, .int p3]) (st := [.int 0, .ref aout]) (cells' := 1) (slots' := 6) X Y (c_X4_ifYear l hlt D cI cS cL a0 a1 a2 a3 a4 a5 a6 a7 a8 a9 a10 a11 a12 a13 a14 a15 a16 a17 a18 b0_2 b0_3 b0_5 b0_6 p1 p2 p3 x0_length x0_isReadingOld x1_size f2 f3 f4 f5 x6_size f7 f8 f9 f10 x11_areOrdersCounted x11_isAnyOrder x11_size f12 f13 f14 f15 f16 f17 f18 rc y0 y1 y2 y3 y4 y5 y6 y7 y8 y9 y10 y11 y12 y13 y14 hc) gL_ifYear_X4_ifYear rfl ⟨rfl, rfl⟩ hd_X4_ifYear (by exact ⟨Nat.le_of_ble_eq_true rfl, Nat.le_of_ble_eq_true rfl⟩) rfl rfl ⟨(Nat.le_of_ble_eq_true rfl), (Nat.le_of_ble_eq_true rfl)⟩ rfl rfl rfl (by decide +kernel) rfl rfl (by decide +kernel) rfl (Nat.le_of_ble_eq_true rfl) rfl dL_ifYear_7 (fun E hE => ?_) (fun v hv => ?_)
  · subst hE
    dsimp only at h
    rintro _ rfl
    by_cases hq : E = "java/lang/IndexOutOfBoundsException"
    · subst hq
      have h := if_t h rfl
      refine g_catch1 (hh := [(0, 12, 19, 13)]) (x := (0, 12, 15, 21)) X Y (by decide +kernel) hT (by decide) (by decide) hk_L_ifYear_21 (fun q => ?_)
      refine g_astore (lv' := [(5, .ref q), (0, .ref a0), (1, .int p1), (2, .int p2), (3, .int p3), (4, .ref aout)]) X dL_ifYear_15 (by decide) rfl ?_
      refine g_iconst (v := 1) X dL_ifYear_17 (by decide) ?_
      refine g_ws (ws' := [(a0, .inr (4, [.ref a1, .ref a6, .ref b0_2, .ref b0_3, .ref a11, .ref b0_5, .ref b0_6, .int x0_length, .int x0_isReadingOld])), (a1, .inr (2, [.ref a2, .ref a3, .ref a4, .ref a5, .int x1_size])), (a2, .inl (cI, 10, .inl f2)), (a3, .inl (cI, 10, .inl f3)), (a4, .inl (cI, 10, .inl f4)), (a5, .inl (cI, 10, .inl f5)), (a6, .inr (2, [.ref a7, .ref a8, .ref a9, .ref a10, .int y0])), (a7, .inl (cI, 10, .inl y1)), (a8, .inl (cI, 10, .inl y2)), (a9, .inl (cI, 10, .inl y3)), (a10, .inl (cI, 10, .inl y4)), (a11, .inr (1, [.ref a12, .ref a13, .ref a14, .ref a15, .ref a16, .ref a17, .ref a18, .int y5, .int y6, .int y7])), (a12, .inl (cI, 10, .inl y8)), (a13, .inl (cI, 10, .inl y9)), (a14, .inl (cI, 10, .inl y10)), (a15, .inl (cI, 10, .inl y11)), (a16, .inl (cI, 10, .inl y12)), (a17, .inl (cI, 10, .inl y13)), (a18, .inl (cI, 1024, .inl y14)), (aout, .inl (cL, 1, .inr (.inl fout)))]) [1, 2, 3, 4, 5, 6, 7, 8, 9, 10, 11, 12, 13, 14, 15, 16, 17, 18, 19, 0] rfl (by decide +kernel) ?_
      have h := Option.some.inj h
      simp only [Prod.mk.injEq] at h
      obtain ⟨rfl, rfl, rfl, rfl, rfl, rfl, rfl, rfl, rfl, rfl, rfl, rfl, rfl, rfl, rfl, rfl, rfl⟩ := h
      exact g_iret X hr hlk dL_ifYear_18 rfl rfl
    have h := if_f h hq
    by_cases hq2 : E = "java/lang/IllegalArgumentException"
    · subst hq2
      have h := if_t h rfl
      refine g_catch2 (hh := []) (y := (0, 12, 15, 21)) (x := (0, 12, 19, 13)) (F := "java/lang/IndexOutOfBoundsException") X Y (by decide +kernel) (by decide +kernel) (by decide +kernel) hT (by decide) (by decide) (by decide) hk_L_ifYear_13 hk_L_ifYear_21 (fun q => ?_)
      refine g_astore (lv' := [(5, .ref q), (0, .ref a0), (1, .int p1), (2, .int p2), (3, .int p3), (4, .ref aout)]) X dL_ifYear_19 (by decide) rfl ?_
      refine g_iconst (v := 2) X dL_ifYear_21 (by decide) ?_
      refine g_ws (ws' := [(a0, .inr (4, [.ref a1, .ref a6, .ref b0_2, .ref b0_3, .ref a11, .ref b0_5, .ref b0_6, .int x0_length, .int x0_isReadingOld])), (a1, .inr (2, [.ref a2, .ref a3, .ref a4, .ref a5, .int x1_size])), (a2, .inl (cI, 10, .inl f2)), (a3, .inl (cI, 10, .inl f3)), (a4, .inl (cI, 10, .inl f4)), (a5, .inl (cI, 10, .inl f5)), (a6, .inr (2, [.ref a7, .ref a8, .ref a9, .ref a10, .int y0])), (a7, .inl (cI, 10, .inl y1)), (a8, .inl (cI, 10, .inl y2)), (a9, .inl (cI, 10, .inl y3)), (a10, .inl (cI, 10, .inl y4)), (a11, .inr (1, [.ref a12, .ref a13, .ref a14, .ref a15, .ref a16, .ref a17, .ref a18, .int y5, .int y6, .int y7])), (a12, .inl (cI, 10, .inl y8)), (a13, .inl (cI, 10, .inl y9)), (a14, .inl (cI, 10, .inl y10)), (a15, .inl (cI, 10, .inl y11)), (a16, .inl (cI, 10, .inl y12)), (a17, .inl (cI, 10, .inl y13)), (a18, .inl (cI, 1024, .inl y14)), (aout, .inl (cL, 1, .inr (.inl fout)))]) [1, 2, 3, 4, 5, 6, 7, 8, 9, 10, 11, 12, 13, 14, 15, 16, 17, 18, 19, 0] rfl (by decide +kernel) ?_
      have h := Option.some.inj h
      simp only [Prod.mk.injEq] at h
      obtain ⟨rfl, rfl, rfl, rfl, rfl, rfl, rfl, rfl, rfl, rfl, rfl, rfl, rfl, rfl, rfl, rfl, rfl⟩ := h
      exact g_iret X hr hlk dL_ifYear_22 rfl rfl
    have h := if_f h hq2
    cases h
  · subst hv
    dsimp only at h
    rintro _ rfl
    refine g_ws (ws' := [(a0, .inr (4, [.ref a1, .ref a6, .ref b0_2, .ref b0_3, .ref a11, .ref b0_5, .ref b0_6, .int x0_length, .int x0_isReadingOld])), (a1, .inr (2, [.ref a2, .ref a3, .ref a4, .ref a5, .int x1_size])), (a2, .inl (cI, 10, .inl f2)), (a3, .inl (cI, 10, .inl f3)), (a4, .inl (cI, 10, .inl f4)), (a5, .inl (cI, 10, .inl f5)), (a6, .inr (2, [.ref a7, .ref a8, .ref a9, .ref a10, .int y0])), (a7, .inl (cI, 10, .inl y1)), (a8, .inl (cI, 10, .inl y2)), (a9, .inl (cI, 10, .inl y3)), (a10, .inl (cI, 10, .inl y4)), (a11, .inr (1, [.ref a12, .ref a13, .ref a14, .ref a15, .ref a16, .ref a17, .ref a18, .int y5, .int y6, .int y7])), (a12, .inl (cI, 10, .inl y8)), (a13, .inl (cI, 10, .inl y9)), (a14, .inl (cI, 10, .inl y10)), (a15, .inl (cI, 10, .inl y11)), (a16, .inl (cI, 10, .inl y12)), (a17, .inl (cI, 10, .inl y13)), (a18, .inl (cI, 1024, .inl y14)), (aout, .inl (cL, 1, .inr (.inl fout)))]) [1, 2, 3, 4, 5, 6, 7, 8, 9, 10, 11, 12, 13, 14, 15, 16, 17, 18, 19, 0] rfl (by decide +kernel) ?_
    refine g_i2l X dL_ifYear_10 ?_
    refine g_last (q0 := 19) (t0 := 2) (ws1 := fun g => [(a0, .inr (4, [.ref a1, .ref a6, .ref b0_2, .ref b0_3, .ref a11, .ref b0_5, .ref b0_6, .int x0_length, .int x0_isReadingOld])), (a1, .inr (2, [.ref a2, .ref a3, .ref a4, .ref a5, .int x1_size])), (a2, .inl (cI, 10, .inl f2)), (a3, .inl (cI, 10, .inl f3)), (a4, .inl (cI, 10, .inl f4)), (a5, .inl (cI, 10, .inl f5)), (a6, .inr (2, [.ref a7, .ref a8, .ref a9, .ref a10, .int y0])), (a7, .inl (cI, 10, .inl y1)), (a8, .inl (cI, 10, .inl y2)), (a9, .inl (cI, 10, .inl y3)), (a10, .inl (cI, 10, .inl y4)), (a11, .inr (1, [.ref a12, .ref a13, .ref a14, .ref a15, .ref a16, .ref a17, .ref a18, .int y5, .int y6, .int y7])), (a12, .inl (cI, 10, .inl y8)), (a13, .inl (cI, 10, .inl y9)), (a14, .inl (cI, 10, .inl y10)), (a15, .inl (cI, 10, .inl y11)), (a16, .inl (cI, 10, .inl y12)), (a17, .inl (cI, 10, .inl y13)), (a18, .inl (cI, 1024, .inl y14)), (aout, .inl (cL, 1, .inr (.inl g)))]) X h rfl rfl dL_ifYear_11 (fun _ => rfl) (fun g h => ?_)
    refine g_goto (tgt := 23) X dL_ifYear_12 (by decide) ?_
    refine g_iconst (v := 0) X dL_ifYear_23 (by decide) ?_
    have h := Option.some.inj h
    simp only [Prod.mk.injEq] at h
    obtain ⟨rfl, rfl, rfl, rfl, rfl, rfl, rfl, rfl, rfl, rfl, rfl, rfl, rfl, rfl, rfl, rfl, rfl⟩ := h
    exact g_iret X hr hlk dL_ifYear_24 rfl rfl
