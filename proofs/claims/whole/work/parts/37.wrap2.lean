set_option maxRecDepth 20000 in
theorem ggL_append_X4_append : GoodIn wsL_append wsX4_append := goodIn_ca (goodIn_ca (goodIn_r _ [7, 8, 9, 10, 11, 12, 13, 14, 15, 16, 17, 18, 19, 20, 21, 22] (by decide +kernel) (by decide +kernel)) (goodIn_sub (fun _ h => List.mem_cons_of_mem _ (List.mem_append_left _ (List.mem_append_right _ h))) (by decide +kernel))) (goodIn_sub (fun _ h => List.mem_cons_of_mem _ (List.mem_append_right _ h)) (by decide +kernel))
set_option maxRecDepth 20000 in
theorem gL_append_X4_append : GoodIn wsL_append (wsV RL 37 RX4 yX4_append wsX4_append) := goodIn_app (goodIn_of _ (by decide +kernel)) ggL_append_X4_append
theorem dL_append_0 : decode cL_append 0 = .ok (.aload_n 2, 1) := by decide +kernel
theorem dL_append_1 : decode cL_append 1 = .ok (.iconst 0, 1) := by decide +kernel
theorem dL_append_2 : decode cL_append 2 = .ok (.aload_n 0, 1) := by decide +kernel
theorem dL_append_3 : decode cL_append 3 = .ok (.iload_n 1, 1) := by decide +kernel
theorem dL_append_4 : decode cL_append 4 = .ok (.invokevirtual 37, 3) := by decide +kernel
theorem dL_append_7 : decode cL_append 7 = .ok (.i2l, 1) := by decide +kernel
theorem dL_append_8 : decode cL_append 8 = .ok (.lastore, 1) := by decide +kernel
theorem dL_append_9 : decode cL_append 9 = .ok (.goto 9, 3) := by decide +kernel
theorem dL_append_12 : decode cL_append 12 = .ok (.astore_n 3, 1) := by decide +kernel
theorem dL_append_13 : decode cL_append 13 = .ok (.iconst 1, 1) := by decide +kernel
theorem dL_append_14 : decode cL_append 14 = .ok (.ireturn, 1) := by decide +kernel
theorem dL_append_15 : decode cL_append 15 = .ok (.astore_n 3, 1) := by decide +kernel
theorem dL_append_16 : decode cL_append 16 = .ok (.iconst 2, 1) := by decide +kernel
theorem dL_append_17 : decode cL_append 17 = .ok (.ireturn, 1) := by decide +kernel
theorem dL_append_18 : decode cL_append 18 = .ok (.iconst 0, 1) := by decide +kernel
theorem dL_append_19 : decode cL_append 19 = .ok (.ireturn, 1) := by decide +kernel
set_option maxRecDepth 20000 in
theorem ggL_books_X4_books : GoodIn wsL_books wsX4_books := goodIn_ca (goodIn_ca (goodIn_r _ [7, 8, 9, 10, 11, 12, 13, 14, 15, 16, 17, 18, 19, 20, 21, 22, 23, 24, 25, 26, 27, 28, 29, 30, 31, 32, 33, 34, 35, 36, 37, 38, 39, 40, 41, 42, 43, 44, 45, 46, 47, 48, 6, 49, 50, 51, 52, 53, 54, 55, 56, 57, 58, 59, 60, 61, 62, 63, 64, 65, 66, 67, 68, 69, 70, 71, 72, 73, 74, 75, 76, 77, 78, 79, 80, 81, 82, 83, 84, 85, 86, 87, 88, 89, 90, 91, 92, 93, 94, 95, 96, 97, 98, 99, 100, 101, 102, 103, 104, 105, 106, 107, 108, 109, 110, 111, 112, 113, 114, 115, 116, 117, 118, 119, 120, 121, 122, 123, 124, 125, 126, 127, 128, 129, 130, 131, 132, 133, 134, 135, 136, 137, 138, 139, 140, 141, 142, 143, 144, 145, 146, 147, 148, 149] (by decide +kernel) (by decide +kernel)) (goodIn_sub (fun _ h => List.mem_cons_of_mem _ (List.mem_append_left _ (List.mem_append_right _ h))) (by decide +kernel))) (goodIn_sub (fun _ h => List.mem_cons_of_mem _ (List.mem_append_right _ h)) (by decide +kernel))
set_option maxRecDepth 20000 in
theorem gL_books_X4_books : GoodIn wsL_books (wsV RL 40 RX4 yX4_books wsX4_books) := goodIn_app (goodIn_of _ (by decide +kernel)) ggL_books_X4_books
theorem dL_books_0 : decode cL_books 0 = .ok (.aload_n 1, 1) := by decide +kernel
theorem dL_books_1 : decode cL_books 1 = .ok (.iconst 0, 1) := by decide +kernel
theorem dL_books_2 : decode cL_books 2 = .ok (.aload_n 0, 1) := by decide +kernel
theorem dL_books_3 : decode cL_books 3 = .ok (.invokevirtual 40, 3) := by decide +kernel
theorem dL_books_6 : decode cL_books 6 = .ok (.i2l, 1) := by decide +kernel
theorem dL_books_7 : decode cL_books 7 = .ok (.lastore, 1) := by decide +kernel
theorem dL_books_8 : decode cL_books 8 = .ok (.goto 9, 3) := by decide +kernel
theorem dL_books_11 : decode cL_books 11 = .ok (.astore_n 2, 1) := by decide +kernel
theorem dL_books_12 : decode cL_books 12 = .ok (.iconst 1, 1) := by decide +kernel
theorem dL_books_13 : decode cL_books 13 = .ok (.ireturn, 1) := by decide +kernel
theorem dL_books_14 : decode cL_books 14 = .ok (.astore_n 2, 1) := by decide +kernel
theorem dL_books_15 : decode cL_books 15 = .ok (.iconst 2, 1) := by decide +kernel
theorem dL_books_16 : decode cL_books 16 = .ok (.ireturn, 1) := by decide +kernel
theorem dL_books_17 : decode cL_books 17 = .ok (.iconst 0, 1) := by decide +kernel
theorem dL_books_18 : decode cL_books 18 = .ok (.ireturn, 1) := by decide +kernel
set_option maxRecDepth 20000 in
theorem ggL_undo_X4_undo : GoodIn wsL_undo wsX4_undo := goodIn_ca (goodIn_r _ [6, 7, 8, 9, 10, 11, 12, 13, 14, 15, 16, 17, 18, 19, 20, 21, 22, 23, 24, 25, 26, 27, 28, 29, 30, 31, 32, 33, 34, 35, 36, 37, 38, 39, 40, 41, 42, 43, 44, 45, 46, 47, 48, 49, 50, 51, 52, 53, 54, 55, 56, 57] (by decide +kernel) (by decide +kernel)) (goodIn_sub (fun _ h => List.mem_cons_of_mem _ (List.mem_append_right _ h)) (by decide +kernel))
set_option maxRecDepth 20000 in
theorem gL_undo_X4_undo : GoodIn wsL_undo (wsV RL 44 RX4 yX4_undo wsX4_undo) := goodIn_app (goodIn_of _ (by decide +kernel)) ggL_undo_X4_undo
theorem dL_undo_0 : decode cL_undo 0 = .ok (.aload_n 1, 1) := by decide +kernel
theorem dL_undo_1 : decode cL_undo 1 = .ok (.iconst 0, 1) := by decide +kernel
theorem dL_undo_2 : decode cL_undo 2 = .ok (.aload_n 0, 1) := by decide +kernel
theorem dL_undo_3 : decode cL_undo 3 = .ok (.invokevirtual 44, 3) := by decide +kernel
theorem dL_undo_6 : decode cL_undo 6 = .ok (.i2l, 1) := by decide +kernel
theorem dL_undo_7 : decode cL_undo 7 = .ok (.lastore, 1) := by decide +kernel
theorem dL_undo_8 : decode cL_undo 8 = .ok (.goto 6, 3) := by decide +kernel
theorem dL_undo_11 : decode cL_undo 11 = .ok (.astore_n 2, 1) := by decide +kernel
theorem dL_undo_12 : decode cL_undo 12 = .ok (.iconst 1, 1) := by decide +kernel
theorem dL_undo_13 : decode cL_undo 13 = .ok (.ireturn, 1) := by decide +kernel
theorem dL_undo_14 : decode cL_undo 14 = .ok (.iconst 0, 1) := by decide +kernel
theorem dL_undo_15 : decode cL_undo 15 = .ok (.ireturn, 1) := by decide +kernel
set_option maxRecDepth 20000 in
theorem ggL_bookOf_X4_bookOf : GoodIn wsL_bookOf wsX4_bookOf := goodIn_ca (goodIn_ca (goodIn_r _ [7, 8, 9, 10, 11, 12, 13, 14, 6, 15, 16, 17, 18, 19, 20, 21, 22, 23, 24, 25, 26, 27, 28, 29, 30, 31, 32, 33, 34, 35, 36, 37, 38, 39, 40, 41, 42, 43, 44, 45, 46, 47, 48, 49, 50, 51, 52, 53, 54, 55, 56, 57, 58, 59, 60, 61, 62, 63, 64, 65, 66, 67, 68, 69, 70, 71, 72, 73, 74, 75, 76, 77, 78, 79, 80, 81, 82, 83, 84, 85, 86, 87, 88, 89, 90, 91, 92, 93, 94, 95, 96, 97, 98, 99, 100, 101, 102, 103, 104, 105, 106, 107, 108, 109, 110, 111, 112, 113, 114, 115, 116, 117] (by decide +kernel) (by decide +kernel)) (goodIn_sub (fun _ h => List.mem_cons_of_mem _ (List.mem_append_left _ (List.mem_append_right _ h))) (by decide +kernel))) (goodIn_sub (fun _ h => List.mem_cons_of_mem _ (List.mem_append_right _ h)) (by decide +kernel))
set_option maxRecDepth 20000 in
theorem gL_bookOf_X4_bookOf : GoodIn wsL_bookOf (wsV RL 47 RX4 yX4_bookOf wsX4_bookOf) := goodIn_app (goodIn_of _ (by decide +kernel)) ggL_bookOf_X4_bookOf
theorem dL_bookOf_0 : decode cL_bookOf 0 = .ok (.aload_n 3, 1) := by decide +kernel
theorem dL_bookOf_1 : decode cL_bookOf 1 = .ok (.iconst 0, 1) := by decide +kernel
theorem dL_bookOf_2 : decode cL_bookOf 2 = .ok (.aload_n 0, 1) := by decide +kernel
theorem dL_bookOf_3 : decode cL_bookOf 3 = .ok (.iload_n 1, 1) := by decide +kernel
theorem dL_bookOf_4 : decode cL_bookOf 4 = .ok (.iload_n 2, 1) := by decide +kernel
theorem dL_bookOf_5 : decode cL_bookOf 5 = .ok (.invokevirtual 47, 3) := by decide +kernel
theorem dL_bookOf_8 : decode cL_bookOf 8 = .ok (.i2l, 1) := by decide +kernel
theorem dL_bookOf_9 : decode cL_bookOf 9 = .ok (.lastore, 1) := by decide +kernel
theorem dL_bookOf_10 : decode cL_bookOf 10 = .ok (.goto 11, 3) := by decide +kernel
theorem dL_bookOf_13 : decode cL_bookOf 13 = .ok (.astore 4, 2) := by decide +kernel
theorem dL_bookOf_15 : decode cL_bookOf 15 = .ok (.iconst 1, 1) := by decide +kernel
theorem dL_bookOf_16 : decode cL_bookOf 16 = .ok (.ireturn, 1) := by decide +kernel
theorem dL_bookOf_17 : decode cL_bookOf 17 = .ok (.astore 4, 2) := by decide +kernel
theorem dL_bookOf_19 : decode cL_bookOf 19 = .ok (.iconst 2, 1) := by decide +kernel
theorem dL_bookOf_20 : decode cL_bookOf 20 = .ok (.ireturn, 1) := by decide +kernel
theorem dL_bookOf_21 : decode cL_bookOf 21 = .ok (.iconst 0, 1) := by decide +kernel
theorem dL_bookOf_22 : decode cL_bookOf 22 = .ok (.ireturn, 1) := by decide +kernel
set_option maxRecDepth 20000 in
theorem ggL_ahead_X4_ahead : GoodIn wsL_ahead wsX4_ahead := goodIn_ca (goodIn_ca (goodIn_r _ [7, 8, 9, 10, 11, 12, 13, 14, 15, 6, 16, 17, 18, 19, 20, 21, 22, 23, 24, 25, 26, 27, 28, 29, 30, 31, 32, 33, 34, 35, 36, 37, 38, 39, 40] (by decide +kernel) (by decide +kernel)) (goodIn_sub (fun _ h => List.mem_cons_of_mem _ (List.mem_append_left _ (List.mem_append_right _ h))) (by decide +kernel))) (goodIn_sub (fun _ h => List.mem_cons_of_mem _ (List.mem_append_right _ h)) (by decide +kernel))
set_option maxRecDepth 20000 in
theorem gL_ahead_X4_ahead : GoodIn wsL_ahead (wsV RL 50 RX4 yX4_ahead wsX4_ahead) := goodIn_app (goodIn_of _ (by decide +kernel)) ggL_ahead_X4_ahead
theorem dL_ahead_0 : decode cL_ahead 0 = .ok (.aload_n 3, 1) := by decide +kernel
theorem dL_ahead_1 : decode cL_ahead 1 = .ok (.iconst 0, 1) := by decide +kernel
theorem dL_ahead_2 : decode cL_ahead 2 = .ok (.aload_n 0, 1) := by decide +kernel
theorem dL_ahead_3 : decode cL_ahead 3 = .ok (.iload_n 1, 1) := by decide +kernel
theorem dL_ahead_4 : decode cL_ahead 4 = .ok (.iload_n 2, 1) := by decide +kernel
theorem dL_ahead_5 : decode cL_ahead 5 = .ok (.invokevirtual 50, 3) := by decide +kernel
theorem dL_ahead_8 : decode cL_ahead 8 = .ok (.i2l, 1) := by decide +kernel
theorem dL_ahead_9 : decode cL_ahead 9 = .ok (.lastore, 1) := by decide +kernel
theorem dL_ahead_10 : decode cL_ahead 10 = .ok (.goto 11, 3) := by decide +kernel
theorem dL_ahead_13 : decode cL_ahead 13 = .ok (.astore 4, 2) := by decide +kernel
theorem dL_ahead_15 : decode cL_ahead 15 = .ok (.iconst 1, 1) := by decide +kernel
theorem dL_ahead_16 : decode cL_ahead 16 = .ok (.ireturn, 1) := by decide +kernel
theorem dL_ahead_17 : decode cL_ahead 17 = .ok (.astore 4, 2) := by decide +kernel
theorem dL_ahead_19 : decode cL_ahead 19 = .ok (.iconst 2, 1) := by decide +kernel
theorem dL_ahead_20 : decode cL_ahead 20 = .ok (.ireturn, 1) := by decide +kernel
theorem dL_ahead_21 : decode cL_ahead 21 = .ok (.iconst 0, 1) := by decide +kernel
theorem dL_ahead_22 : decode cL_ahead 22 = .ok (.ireturn, 1) := by decide +kernel
set_option maxRecDepth 20000 in
theorem ggL_count_X4_count : GoodIn wsL_count wsX4_count := goodIn_ca (goodIn_r _ [6, 7, 8, 9, 10, 11, 5, 12, 13, 14, 15, 16, 17, 18, 19, 20, 21, 22, 23, 24, 25, 26, 27, 28, 29, 30, 31, 32, 33, 34, 35, 36, 37, 38, 39, 40, 41, 42, 43, 44, 45, 46, 47, 48, 49, 50, 51, 52, 53, 54, 55, 56, 57, 58, 59, 60, 61, 62, 63, 64, 65, 66, 67, 68, 69, 70, 71, 72, 73, 74, 75, 76, 77, 78, 79, 80, 81, 82, 83, 84, 85, 86, 87, 88, 89, 90, 91, 92, 93, 94, 95, 96, 97, 98, 99, 100, 101, 102, 103, 104, 105, 106, 107, 108, 109, 110, 111, 112, 113, 114, 115, 116, 117, 118, 119, 120, 121, 122, 123, 124, 125, 126, 127, 128, 129, 130, 131, 132, 133, 134, 135, 136, 137, 138, 139, 140, 141, 142, 143, 144] (by decide +kernel) (by decide +kernel)) (goodIn_sub (fun _ h => List.mem_cons_of_mem _ (List.mem_append_right _ h)) (by decide +kernel))
set_option maxRecDepth 20000 in
theorem gL_count_X4_count : GoodIn wsL_count (wsV RL 53 RX4 yX4_count wsX4_count) := goodIn_app (goodIn_of _ (by decide +kernel)) ggL_count_X4_count
theorem dL_count_0 : decode cL_count 0 = .ok (.aload_n 2, 1) := by decide +kernel
theorem dL_count_1 : decode cL_count 1 = .ok (.iconst 0, 1) := by decide +kernel
theorem dL_count_2 : decode cL_count 2 = .ok (.aload_n 0, 1) := by decide +kernel
theorem dL_count_3 : decode cL_count 3 = .ok (.iload_n 1, 1) := by decide +kernel
theorem dL_count_4 : decode cL_count 4 = .ok (.invokevirtual 53, 3) := by decide +kernel
theorem dL_count_7 : decode cL_count 7 = .ok (.i2l, 1) := by decide +kernel
theorem dL_count_8 : decode cL_count 8 = .ok (.lastore, 1) := by decide +kernel
theorem dL_count_9 : decode cL_count 9 = .ok (.goto 6, 3) := by decide +kernel
theorem dL_count_12 : decode cL_count 12 = .ok (.astore_n 3, 1) := by decide +kernel
theorem dL_count_13 : decode cL_count 13 = .ok (.iconst 1, 1) := by decide +kernel
theorem dL_count_14 : decode cL_count 14 = .ok (.ireturn, 1) := by decide +kernel
theorem dL_count_15 : decode cL_count 15 = .ok (.iconst 0, 1) := by decide +kernel
theorem dL_count_16 : decode cL_count 16 = .ok (.ireturn, 1) := by decide +kernel
theorem hk_L_append_13 : Cond.classLink RL 13 "java/lang/IllegalArgumentException" ∈ wsL_append := by decide +kernel
theorem hk_L_append_15 : Cond.classLink RL 15 "java/lang/IllegalStateException" ∈ wsL_append := by decide +kernel
def f_L_append (p1 : Int32) (x0_length : Int32) (f1 : Nat → Int32) (fout : Nat → Int64) : Option (Int32 × Int32 × (Nat → Int32) × (Nat → Int64)) := (f_X4_append p1 x0_length f1).bind (u3 fun (rc : Int32 ⊕ String) (y0 : Int32) (y1 : Nat → Int32) => match rc with | .inl v => (wrL fout 1 0 v.toInt64).bind (fun g => some (0, y0, y1, g)) | .inr E => if E = "java/lang/IllegalArgumentException" then some (1, y0, y1, fout) else if E = "java/lang/IllegalStateException" then some (2, y0, y1, fout) else none)
theorem hd_L_append : yL_append.cls = RL ∧ yL_append.cls ≠ "java/lang/invoke/MethodHandle" ∧ yL_append.cls ≠ "java/lang/invoke/VarHandle" ∧ (parseMethodDescriptor yL_append.desc).map (fun d => d.parameters.length) = some 3 := by decide +kernel
set_option maxRecDepth 100000 in
set_option maxHeartbeats 8000000 in
theorem c_L_append (l : Launch) (hlt : l.stackTraces = false) (D : va_G) (cI cS cL : ClassId) (a0 : Nat) (a1 : Nat) (b0_0 : Nat) (b0_1 : Nat) (b0_2 : Nat) (b0_3 : Nat) (b0_4 : Nat) (b0_5 : Nat) (p1 : Int32) (x0_length : Int32) (x0_isReadingOld : Int32) (f1 : Nat → Int32) (aout : Nat) (fout : Nat → Int64) (rr : Int32) (z0 : Int32) (z1 : Nat → Int32) (gout : Nat → Int64) (hc : f_L_append p1 x0_length f1 fout = some (rr, z0, z1, gout)) : KW l yL_append wsL_append { frames := 7, cells := 1, slots := 6, locals := 103 } D (tyS cI cS cL) [.ref a0, .int p1, .ref aout] [(a0, .inr (4, [.ref b0_0, .ref b0_1, .ref b0_2, .ref b0_3, .ref b0_4, .ref b0_5, .ref a1, .int x0_length, .int x0_isReadingOld])), (a1, .inl (cI, 60, .inl f1)), (aout, .inl (cL, 1, .inr (.inl fout)))] rr (fun w => w = [(a0, .inr (4, [.ref b0_0, .ref b0_1, .ref b0_2, .ref b0_3, .ref b0_4, .ref b0_5, .ref a1, .int z0, .int x0_isReadingOld])), (a1, .inl (cI, 60, .inl z1)), (aout, .inl (cL, 1, .inr (.inl gout)))]) := by
  refine g_entryW (cc := cL_append) (nL := 4) (rt := (some .int)) (by decide) rfl (Nat.le_of_ble_eq_true rfl) ?_
  intro p e s m args below meth c A (X : GC p s m args c cL_append 4 RL wsL_append D (tyS cI cS cL) A) Y hT hr hlk
  have h := hc
  unfold f_L_append at h
  refine g_lv (lv' := [(0, .ref a0), (1, .int p1), (2, .ref aout)]) [0, 1, 2] rfl ?_
  obtain ⟨rc, y0, y1, hc, h⟩ := bd3 h
  refine g_aload_n X (j := 2) dL_append_0 rfl ?_
  refine g_iconst (v := 0) X dL_append_1 (by decide) ?_
  refine g_aload_n X (j := 0) dL_append_2 rfl ?_
  refine g_iload_n X (j := 1) dL_append_3 rfl ?_
  refine g_callX (q0 := 0) (ci := 4) (n := 1) (is := [0, 1]) (isR := [2]) (wr := [(aout, .inl (cL, 1, .inr (.inl fout)))]) (As := [.int p1]) (st := [.int 0, .ref aout]) (cells' := 1) (slots' := 6) X Y (c_X4_append l hlt D cI cS cL a0 a1 b0_0 b0_1 b0_2 b0_3 b0_4 b0_5 p1 x0_length x0_isReadingOld f1 rc y0 y1 hc) gL_append_X4_append rfl ⟨rfl, rfl⟩ hd_X4_append (by exact ⟨Nat.le_of_ble_eq_true rfl, Nat.le_of_ble_eq_true rfl⟩) rfl rfl ⟨(Nat.le_of_ble_eq_true rfl), (Nat.le_of_ble_eq_true rfl)⟩ rfl rfl rfl (by decide +kernel) rfl rfl (by decide +kernel) rfl (Nat.le_of_ble_eq_true rfl) rfl dL_append_4 (fun E hE => ?_) (fun v hv => ?_)
  · subst hE
    dsimp only at h
    rintro _ rfl
    by_cases hq : E = "java/lang/IllegalArgumentException"
    · subst hq
      have h := if_t h rfl
      refine g_catch1 (hh := [(0, 9, 15, 15)]) (x := (0, 9, 12, 13)) X Y (by decide +kernel) hT (by decide) (by decide) hk_L_append_13 (fun q => ?_)
      refine g_astore_n (lv' := [(3, .ref q), (0, .ref a0), (1, .int p1), (2, .ref aout)]) X dL_append_12 rfl (by decide) rfl ?_
      refine g_iconst (v := 1) X dL_append_13 (by decide) ?_
      refine g_ws (ws' := [(a0, .inr (4, [.ref b0_0, .ref b0_1, .ref b0_2, .ref b0_3, .ref b0_4, .ref b0_5, .ref a1, .int y0, .int x0_isReadingOld])), (a1, .inl (cI, 60, .inl y1)), (aout, .inl (cL, 1, .inr (.inl fout)))]) [1, 2, 0] rfl (by decide +kernel) ?_
      have h := Option.some.inj h
      simp only [Prod.mk.injEq] at h
      obtain ⟨rfl, rfl, rfl, rfl⟩ := h
      exact g_iret X hr hlk dL_append_14 rfl rfl
    have h := if_f h hq
    by_cases hq2 : E = "java/lang/IllegalStateException"
    · subst hq2
      have h := if_t h rfl
      refine g_catch2 (hh := []) (y := (0, 9, 12, 13)) (x := (0, 9, 15, 15)) (F := "java/lang/IllegalArgumentException") X Y (by decide +kernel) (by decide +kernel) (by decide +kernel) hT (by decide) (by decide) (by decide) hk_L_append_15 hk_L_append_13 (fun q => ?_)
      refine g_astore_n (lv' := [(3, .ref q), (0, .ref a0), (1, .int p1), (2, .ref aout)]) X dL_append_15 rfl (by decide) rfl ?_
      refine g_iconst (v := 2) X dL_append_16 (by decide) ?_
      refine g_ws (ws' := [(a0, .inr (4, [.ref b0_0, .ref b0_1, .ref b0_2, .ref b0_3, .ref b0_4, .ref b0_5, .ref a1, .int y0, .int x0_isReadingOld])), (a1, .inl (cI, 60, .inl y1)), (aout, .inl (cL, 1, .inr (.inl fout)))]) [1, 2, 0] rfl (by decide +kernel) ?_
      have h := Option.some.inj h
      simp only [Prod.mk.injEq] at h
      obtain ⟨rfl, rfl, rfl, rfl⟩ := h
      exact g_iret X hr hlk dL_append_17 rfl rfl
    have h := if_f h hq2
    cases h
  · subst hv
    dsimp only at h
    rintro _ rfl
    refine g_ws (ws' := [(a0, .inr (4, [.ref b0_0, .ref b0_1, .ref b0_2, .ref b0_3, .ref b0_4, .ref b0_5, .ref a1, .int y0, .int x0_isReadingOld])), (a1, .inl (cI, 60, .inl y1)), (aout, .inl (cL, 1, .inr (.inl fout)))]) [1, 2, 0] rfl (by decide +kernel) ?_
    refine g_i2l X dL_append_7 ?_
    refine g_last (q0 := 2) (t0 := 2) (ws1 := fun g => [(a0, .inr (4, [.ref b0_0, .ref b0_1, .ref b0_2, .ref b0_3, .ref b0_4, .ref b0_5, .ref a1, .int y0, .int x0_isReadingOld])), (a1, .inl (cI, 60, .inl y1)), (aout, .inl (cL, 1, .inr (.inl g)))]) X h rfl rfl dL_append_8 (fun _ => rfl) (fun g h => ?_)
    refine g_goto (tgt := 18) X dL_append_9 (by decide) ?_
    refine g_iconst (v := 0) X dL_append_18 (by decide) ?_
    have h := Option.some.inj h
    simp only [Prod.mk.injEq] at h
    obtain ⟨rfl, rfl, rfl, rfl⟩ := h
    exact g_iret X hr hlk dL_append_19 rfl rfl
theorem hk_L_books_13 : Cond.classLink RL 13 "java/lang/IllegalArgumentException" ∈ wsL_books := by decide +kernel
theorem hk_L_books_15 : Cond.classLink RL 15 "java/lang/IllegalStateException" ∈ wsL_books := by decide +kernel
def f_L_books (x0_length : Int32) (x0_isReadingOld : Int32) (x1_size : Int32) (f2 : Nat → Int32) (f3 : Nat → Int32) (f4 : Nat → Int32) (f5 : Nat → Int32) (x6_size : Int32) (hN : Nat → Int32) (hP : Nat → Nat → Int32) (hL : Nat → Nat → Int32) (hM : Nat → Nat → Int32) (hY : Nat → Nat → Int32) (x38_parts : Int32) (x38_state : Int32) (x38_press : Int32) (x38_letters : Int32) (x38_mould : Int32) (x38_year : Int32) (x38_yearScale : Int32) (x39_size : Int32) (f40 : Nat → Int32) (f41 : Nat → Int32) (f42 : Nat → Int32) (f43 : Nat → Int32) (f44 : Nat → Int32) (fout : Nat → Int64) : Option (Int32 × Int32 × Int32 × Int32 × (Nat → Int32) × (Nat → Int32) × (Nat → Int32) × (Nat → Int32) × Int32 × (Nat → Int32) × (Nat → Nat → Int32) × (Nat → Nat → Int32) × (Nat → Nat → Int32) × (Nat → Nat → Int32) × Int32 × Int32 × Int32 × Int32 × Int32 × Int32 × Int32 × Int32 × (Nat → Int32) × (Nat → Int32) × (Nat → Int32) × (Nat → Int32) × (Nat → Int64)) := (f_X4_books x0_length x0_isReadingOld x1_size f2 f3 f4 f5 x6_size hN hP hL hM hY x38_parts x38_state x38_press x38_letters x38_mould x38_year x38_yearScale x39_size f40 f41 f42 f43 f44).bind (u26 fun (rc : Int32 ⊕ String) (y0 : Int32) (y1 : Int32) (y2 : Int32) (y3 : Nat → Int32) (y4 : Nat → Int32) (y5 : Nat → Int32) (y6 : Nat → Int32) (y7 : Int32) (y8 : Nat → Int32) (y9 : Nat → Nat → Int32) (y10 : Nat → Nat → Int32) (y11 : Nat → Nat → Int32) (y12 : Nat → Nat → Int32) (y13 : Int32) (y14 : Int32) (y15 : Int32) (y16 : Int32) (y17 : Int32) (y18 : Int32) (y19 : Int32) (y20 : Int32) (y21 : Nat → Int32) (y22 : Nat → Int32) (y23 : Nat → Int32) (y24 : Nat → Int32) => match rc with | .inl v => (wrL fout 1 0 v.toInt64).bind (fun g => some (0, y0, y1, y2, y3, y4, y5, y6, y7, y8, y9, y10, y11, y12, y13, y14, y15, y16, y17, y18, y19, y20, y21, y22, y23, y24, g)) | .inr E => if E = "java/lang/IllegalArgumentException" then some (1, y0, y1, y2, y3, y4, y5, y6, y7, y8, y9, y10, y11, y12, y13, y14, y15, y16, y17, y18, y19, y20, y21, y22, y23, y24, fout) else if E = "java/lang/IllegalStateException" then some (2, y0, y1, y2, y3, y4, y5, y6, y7, y8, y9, y10, y11, y12, y13, y14, y15, y16, y17, y18, y19, y20, y21, y22, y23, y24, fout) else none)
theorem hd_L_books : yL_books.cls = RL ∧ yL_books.cls ≠ "java/lang/invoke/MethodHandle" ∧ yL_books.cls ≠ "java/lang/invoke/VarHandle" ∧ (parseMethodDescriptor yL_books.desc).map (fun d => d.parameters.length) = some 2 := by decide +kernel
set_option maxRecDepth 100000 in
set_option maxHeartbeats 8000000 in
theorem c_L_books (l : Launch) (hlt : l.stackTraces = false) (D : va_G) (cI cS cL : ClassId) (a0 : Nat) (a1 : Nat) (a2 : Nat) (a3 : Nat) (a4 : Nat) (a5 : Nat) (a6 : Nat) (a7 : Nat) (a38 : Nat) (a39 : Nat) (a40 : Nat) (a41 : Nat) (a42 : Nat) (a43 : Nat) (a44 : Nat) (ad : Nat → Nat) (b0_1 : Nat) (b0_3 : Nat) (b0_4 : Nat) (x0_length : Int32) (x0_isReadingOld : Int32) (x1_size : Int32) (f2 : Nat → Int32) (f3 : Nat → Int32) (f4 : Nat → Int32) (f5 : Nat → Int32) (x6_size : Int32) (hN : Nat → Int32) (hP : Nat → Nat → Int32) (hL : Nat → Nat → Int32) (hM : Nat → Nat → Int32) (hY : Nat → Nat → Int32) (x38_parts : Int32) (x38_state : Int32) (x38_press : Int32) (x38_letters : Int32) (x38_mould : Int32) (x38_year : Int32) (x38_yearScale : Int32) (x39_size : Int32) (f40 : Nat → Int32) (f41 : Nat → Int32) (f42 : Nat → Int32) (f43 : Nat → Int32) (f44 : Nat → Int32) (aout : Nat) (fout : Nat → Int64) (rr : Int32) (z0 : Int32) (z1 : Int32) (z2 : Int32) (z3 : Nat → Int32) (z4 : Nat → Int32) (z5 : Nat → Int32) (z6 : Nat → Int32) (z7 : Int32) (z8 : Nat → Int32) (z9 : Nat → Nat → Int32) (z10 : Nat → Nat → Int32) (z11 : Nat → Nat → Int32) (z12 : Nat → Nat → Int32) (z13 : Int32) (z14 : Int32) (z15 : Int32) (z16 : Int32) (z17 : Int32) (z18 : Int32) (z19 : Int32) (z20 : Int32) (z21 : Nat → Int32) (z22 : Nat → Int32) (z23 : Nat → Int32) (z24 : Nat → Int32) (gout : Nat → Int64) (hc : f_L_books x0_length x0_isReadingOld x1_size f2 f3 f4 f5 x6_size hN hP hL hM hY x38_parts x38_state x38_press x38_letters x38_mould x38_year x38_yearScale x39_size f40 f41 f42 f43 f44 fout = some (rr, z0, z1, z2, z3, z4, z5, z6, z7, z8, z9, z10, z11, z12, z13, z14, z15, z16, z17, z18, z19, z20, z21, z22, z23, z24, gout)) : KW l yL_books wsL_books { frames := 7, cells := 1, slots := 6, locals := 150 } D (tyS cI cS cL) [.ref a0, .ref aout] [(a0, .inr (4, [.ref a1, .ref b0_1, .ref a6, .ref b0_3, .ref b0_4, .ref a38, .ref a44, .int x0_length, .int x0_isReadingOld])), (a1, .inr (2, [.ref a2, .ref a3, .ref a4, .ref a5, .int x1_size])), (a2, .inl (cI, 10, .inl f2)), (a3, .inl (cI, 10, .inl f3)), (a4, .inl (cI, 10, .inl f4)), (a5, .inl (cI, 10, .inl f5)), (a6, .inr (0, [.ref a7, .int x6_size])), (a7, .inl (cS, 6, .inr (.inr (.inr (.inr (fun j => ([(ad 0), (ad 5), (ad 10), (ad 15), (ad 20), (ad 25)] : List Nat)[j]?)))))), ((ad 0), .inr (2, [.ref (ad 1), .ref (ad 2), .ref (ad 3), .ref (ad 4), .int (hN 0)])), ((ad 1), .inl (cI, 10, .inl (hP 0))), ((ad 2), .inl (cI, 10, .inl (hL 0))), ((ad 3), .inl (cI, 10, .inl (hM 0))), ((ad 4), .inl (cI, 10, .inl (hY 0))), ((ad 5), .inr (2, [.ref (ad 6), .ref (ad 7), .ref (ad 8), .ref (ad 9), .int (hN 1)])), ((ad 6), .inl (cI, 10, .inl (hP 1))), ((ad 7), .inl (cI, 10, .inl (hL 1))), ((ad 8), .inl (cI, 10, .inl (hM 1))), ((ad 9), .inl (cI, 10, .inl (hY 1))), ((ad 10), .inr (2, [.ref (ad 11), .ref (ad 12), .ref (ad 13), .ref (ad 14), .int (hN 2)])), ((ad 11), .inl (cI, 10, .inl (hP 2))), ((ad 12), .inl (cI, 10, .inl (hL 2))), ((ad 13), .inl (cI, 10, .inl (hM 2))), ((ad 14), .inl (cI, 10, .inl (hY 2))), ((ad 15), .inr (2, [.ref (ad 16), .ref (ad 17), .ref (ad 18), .ref (ad 19), .int (hN 3)])), ((ad 16), .inl (cI, 10, .inl (hP 3))), ((ad 17), .inl (cI, 10, .inl (hL 3))), ((ad 18), .inl (cI, 10, .inl (hM 3))), ((ad 19), .inl (cI, 10, .inl (hY 3))), ((ad 20), .inr (2, [.ref (ad 21), .ref (ad 22), .ref (ad 23), .ref (ad 24), .int (hN 4)])), ((ad 21), .inl (cI, 10, .inl (hP 4))), ((ad 22), .inl (cI, 10, .inl (hL 4))), ((ad 23), .inl (cI, 10, .inl (hM 4))), ((ad 24), .inl (cI, 10, .inl (hY 4))), ((ad 25), .inr (2, [.ref (ad 26), .ref (ad 27), .ref (ad 28), .ref (ad 29), .int (hN 5)])), ((ad 26), .inl (cI, 10, .inl (hP 5))), ((ad 27), .inl (cI, 10, .inl (hL 5))), ((ad 28), .inl (cI, 10, .inl (hM 5))), ((ad 29), .inl (cI, 10, .inl (hY 5))), (a38, .inr (3, [.ref a39, .int x38_parts, .int x38_state, .int x38_press, .int x38_letters, .int x38_mould, .int x38_year, .int x38_yearScale])), (a39, .inr (2, [.ref a40, .ref a41, .ref a42, .ref a43, .int x39_size])), (a40, .inl (cI, 10, .inl f40)), (a41, .inl (cI, 10, .inl f41)), (a42, .inl (cI, 10, .inl f42)), (a43, .inl (cI, 10, .inl f43)), (a44, .inl (cI, 60, .inl f44)), (aout, .inl (cL, 1, .inr (.inl fout)))] rr (fun w => ∃ ad' : Nat → Nat, w = [(a0, .inr (4, [.ref a1, .ref b0_1, .ref a6, .ref b0_3, .ref b0_4, .ref a38, .ref a44, .int z0, .int z1])), (a1, .inr (2, [.ref a2, .ref a3, .ref a4, .ref a5, .int z2])), (a2, .inl (cI, 10, .inl z3)), (a3, .inl (cI, 10, .inl z4)), (a4, .inl (cI, 10, .inl z5)), (a5, .inl (cI, 10, .inl z6)), (a6, .inr (0, [.ref a7, .int z7])), (a7, .inl (cS, 6, .inr (.inr (.inr (.inr (fun j => ([(ad' 0), (ad' 5), (ad' 10), (ad' 15), (ad' 20), (ad' 25)] : List Nat)[j]?)))))), ((ad' 0), .inr (2, [.ref (ad' 1), .ref (ad' 2), .ref (ad' 3), .ref (ad' 4), .int (z8 0)])), ((ad' 1), .inl (cI, 10, .inl (z9 0))), ((ad' 2), .inl (cI, 10, .inl (z10 0))), ((ad' 3), .inl (cI, 10, .inl (z11 0))), ((ad' 4), .inl (cI, 10, .inl (z12 0))), ((ad' 5), .inr (2, [.ref (ad' 6), .ref (ad' 7), .ref (ad' 8), .ref (ad' 9), .int (z8 1)])), ((ad' 6), .inl (cI, 10, .inl (z9 1))), ((ad' 7), .inl (cI, 10, .inl (z10 1))), ((ad' 8), .inl (cI, 10, .inl (z11 1))), ((ad' 9), .inl (cI, 10, .inl (z12 1))), ((ad' 10), .inr (2, [.ref (ad' 11), .ref (ad' 12), .ref (ad' 13), .ref (ad' 14), .int (z8 2)])), ((ad' 11), .inl (cI, 10, .inl (z9 2))), ((ad' 12), .inl (cI, 10, .inl (z10 2))), ((ad' 13), .inl (cI, 10, .inl (z11 2))), ((ad' 14), .inl (cI, 10, .inl (z12 2))), ((ad' 15), .inr (2, [.ref (ad' 16), .ref (ad' 17), .ref (ad' 18), .ref (ad' 19), .int (z8 3)])), ((ad' 16), .inl (cI, 10, .inl (z9 3))), ((ad' 17), .inl (cI, 10, .inl (z10 3))), ((ad' 18), .inl (cI, 10, .inl (z11 3))), ((ad' 19), .inl (cI, 10, .inl (z12 3))), ((ad' 20), .inr (2, [.ref (ad' 21), .ref (ad' 22), .ref (ad' 23), .ref (ad' 24), .int (z8 4)])), ((ad' 21), .inl (cI, 10, .inl (z9 4))), ((ad' 22), .inl (cI, 10, .inl (z10 4))), ((ad' 23), .inl (cI, 10, .inl (z11 4))), ((ad' 24), .inl (cI, 10, .inl (z12 4))), ((ad' 25), .inr (2, [.ref (ad' 26), .ref (ad' 27), .ref (ad' 28), .ref (ad' 29), .int (z8 5)])), ((ad' 26), .inl (cI, 10, .inl (z9 5))), ((ad' 27), .inl (cI, 10, .inl (z10 5))), ((ad' 28), .inl (cI, 10, .inl (z11 5))), ((ad' 29), .inl (cI, 10, .inl (z12 5))), (a38, .inr (3, [.ref a39, .int z13, .int z14, .int z15, .int z16, .int z17, .int z18, .int z19])), (a39, .inr (2, [.ref a40, .ref a41, .ref a42, .ref a43, .int z20])), (a40, .inl (cI, 10, .inl z21)), (a41, .inl (cI, 10, .inl z22)), (a42, .inl (cI, 10, .inl z23)), (a43, .inl (cI, 10, .inl z24)), (a44, .inl (cI, 60, .inl f44)), (aout, .inl (cL, 1, .inr (.inl gout)))]) := by
  refine g_entryW (cc := cL_books) (nL := 3) (rt := (some .int)) (by decide) rfl (Nat.le_of_ble_eq_true rfl) ?_
  intro p e s m args below meth c A (X : GC p s m args c cL_books 3 RL wsL_books D (tyS cI cS cL) A) Y hT hr hlk
  have h := hc
  unfold f_L_books at h
  refine g_lv (lv' := [(0, .ref a0), (1, .ref aout)]) [0, 1] rfl ?_
  obtain ⟨rc, y0, y1, y2, y3, y4, y5, y6, y7, y8, y9, y10, y11, y12, y13, y14, y15, y16, y17, y18, y19, y20, y21, y22, y23, y24, hc, h⟩ := bd26 h
  refine g_aload_n X (j := 1) dL_books_0 rfl ?_
  refine g_iconst (v := 0) X dL_books_1 (by decide) ?_
  refine g_aload_n X (j := 0) dL_books_2 rfl ?_
  refine g_callX (q0 := 0) (ci := 4) (n := 0) (is := [0, 1, 2, 3, 4, 5, 6, 7, 8, 9, 10, 11, 12, 13, 14, 15, 16, 17, 18, 19, 20, 21, 22, 23, 24, 25, 26, 27, 28, 29, 30, 31, 32, 33, 34, 35, 36, 37, 38, 39, 40, 41, 42, 43, 44]) (isR := [45]) (wr := [(aout, .inl (cL, 1, .inr (.inl fout)))]) (As := []) (st := [.int 0, .ref aout]) (cells' := 1) (slots' := 6) X Y (c_X4_books l hlt D cI cS cL a0 a1 a2 a3 a4 a5 a6 a7 a38 a39 a40 a41 a42 a43 a44 ad b0_1 b0_3 b0_4 x0_length x0_isReadingOld x1_size f2 f3 f4 f5 x6_size hN hP hL hM hY x38_parts x38_state x38_press x38_letters x38_mould x38_year x38_yearScale x39_size f40 f41 f42 f43 f44 rc y0 y1 y2 y3 y4 y5 y6 y7 y8 y9 y10 y11 y12 y13 y14 y15 y16 y17 y18 y19 y20 y21 y22 y23 y24 hc) gL_books_X4_books rfl ⟨rfl, rfl⟩ hd_X4_books (by exact ⟨Nat.le_of_ble_eq_true rfl, Nat.le_of_ble_eq_true rfl⟩) rfl rfl ⟨(Nat.le_of_ble_eq_true rfl), (Nat.le_of_ble_eq_true rfl)⟩ rfl rfl rfl (by decide +kernel) rfl rfl (by decide +kernel) rfl (Nat.le_of_ble_eq_true rfl) rfl dL_books_3 (fun E hE => ?_) (fun v hv => ?_)
  · subst hE
    dsimp only at h
    rintro _ ⟨ad2, rfl⟩
    by_cases hq : E = "java/lang/IllegalArgumentException"
    · subst hq
      have h := if_t h rfl
      refine g_catch1 (hh := [(0, 8, 14, 15)]) (x := (0, 8, 11, 13)) X Y (by decide +kernel) hT (by decide) (by decide) hk_L_books_13 (fun q => ?_)
      refine g_astore_n (lv' := [(2, .ref q), (0, .ref a0), (1, .ref aout)]) X dL_books_11 rfl (by decide) rfl ?_
      refine g_iconst (v := 1) X dL_books_12 (by decide) ?_
      refine g_ws (ws' := [(a0, .inr (4, [.ref a1, .ref b0_1, .ref a6, .ref b0_3, .ref b0_4, .ref a38, .ref a44, .int y0, .int y1])), (a1, .inr (2, [.ref a2, .ref a3, .ref a4, .ref a5, .int y2])), (a2, .inl (cI, 10, .inl y3)), (a3, .inl (cI, 10, .inl y4)), (a4, .inl (cI, 10, .inl y5)), (a5, .inl (cI, 10, .inl y6)), (a6, .inr (0, [.ref a7, .int y7])), (a7, .inl (cS, 6, .inr (.inr (.inr (.inr (fun j => ([(ad2 0), (ad2 5), (ad2 10), (ad2 15), (ad2 20), (ad2 25)] : List Nat)[j]?)))))), ((ad2 0), .inr (2, [.ref (ad2 1), .ref (ad2 2), .ref (ad2 3), .ref (ad2 4), .int (y8 0)])), ((ad2 1), .inl (cI, 10, .inl (y9 0))), ((ad2 2), .inl (cI, 10, .inl (y10 0))), ((ad2 3), .inl (cI, 10, .inl (y11 0))), ((ad2 4), .inl (cI, 10, .inl (y12 0))), ((ad2 5), .inr (2, [.ref (ad2 6), .ref (ad2 7), .ref (ad2 8), .ref (ad2 9), .int (y8 1)])), ((ad2 6), .inl (cI, 10, .inl (y9 1))), ((ad2 7), .inl (cI, 10, .inl (y10 1))), ((ad2 8), .inl (cI, 10, .inl (y11 1))), ((ad2 9), .inl (cI, 10, .inl (y12 1))), ((ad2 10), .inr (2, [.ref (ad2 11), .ref (ad2 12), .ref (ad2 13), .ref (ad2 14), .int (y8 2)])), ((ad2 11), .inl (cI, 10, .inl (y9 2))), ((ad2 12), .inl (cI, 10, .inl (y10 2))), ((ad2 13), .inl (cI, 10, .inl (y11 2))), ((ad2 14), .inl (cI, 10, .inl (y12 2))), ((ad2 15), .inr (2, [.ref (ad2 16), .ref (ad2 17), .ref (ad2 18), .ref (ad2 19), .int (y8 3)])), ((ad2 16), .inl (cI, 10, .inl (y9 3))), ((ad2 17), .inl (cI, 10, .inl (y10 3))), ((ad2 18), .inl (cI, 10, .inl (y11 3))), ((ad2 19), .inl (cI, 10, .inl (y12 3))), ((ad2 20), .inr (2, [.ref (ad2 21), .ref (ad2 22), .ref (ad2 23), .ref (ad2 24), .int (y8 4)])), ((ad2 21), .inl (cI, 10, .inl (y9 4))), ((ad2 22), .inl (cI, 10, .inl (y10 4))), ((ad2 23), .inl (cI, 10, .inl (y11 4))), ((ad2 24), .inl (cI, 10, .inl (y12 4))), ((ad2 25), .inr (2, [.ref (ad2 26), .ref (ad2 27), .ref (ad2 28), .ref (ad2 29), .int (y8 5)])), ((ad2 26), .inl (cI, 10, .inl (y9 5))), ((ad2 27), .inl (cI, 10, .inl (y10 5))), ((ad2 28), .inl (cI, 10, .inl (y11 5))), ((ad2 29), .inl (cI, 10, .inl (y12 5))), (a38, .inr (3, [.ref a39, .int y13, .int y14, .int y15, .int y16, .int y17, .int y18, .int y19])), (a39, .inr (2, [.ref a40, .ref a41, .ref a42, .ref a43, .int y20])), (a40, .inl (cI, 10, .inl y21)), (a41, .inl (cI, 10, .inl y22)), (a42, .inl (cI, 10, .inl y23)), (a43, .inl (cI, 10, .inl y24)), (a44, .inl (cI, 60, .inl f44)), (aout, .inl (cL, 1, .inr (.inl fout)))]) [1, 2, 3, 4, 5, 6, 7, 8, 9, 10, 11, 12, 13, 14, 15, 16, 17, 18, 19, 20, 21, 22, 23, 24, 25, 26, 27, 28, 29, 30, 31, 32, 33, 34, 35, 36, 37, 38, 39, 40, 41, 42, 43, 44, 45, 0] rfl (by decide +kernel) ?_
      have h := Option.some.inj h
      simp only [Prod.mk.injEq] at h
      obtain ⟨rfl, rfl, rfl, rfl, rfl, rfl, rfl, rfl, rfl, rfl, rfl, rfl, rfl, rfl, rfl, rfl, rfl, rfl, rfl, rfl, rfl, rfl, rfl, rfl, rfl, rfl, rfl⟩ := h
      exact g_iret X hr hlk dL_books_13 rfl ⟨ad2, rfl⟩
    have h := if_f h hq
    by_cases hq2 : E = "java/lang/IllegalStateException"
    · subst hq2
      have h := if_t h rfl
      refine g_catch2 (hh := []) (y := (0, 8, 11, 13)) (x := (0, 8, 14, 15)) (F := "java/lang/IllegalArgumentException") X Y (by decide +kernel) (by decide +kernel) (by decide +kernel) hT (by decide) (by decide) (by decide) hk_L_books_15 hk_L_books_13 (fun q => ?_)
      refine g_astore_n (lv' := [(2, .ref q), (0, .ref a0), (1, .ref aout)]) X dL_books_14 rfl (by decide) rfl ?_
      refine g_iconst (v := 2) X dL_books_15 (by decide) ?_
      refine g_ws (ws' := [(a0, .inr (4, [.ref a1, .ref b0_1, .ref a6, .ref b0_3, .ref b0_4, .ref a38, .ref a44, .int y0, .int y1])), (a1, .inr (2, [.ref a2, .ref a3, .ref a4, .ref a5, .int y2])), (a2, .inl (cI, 10, .inl y3)), (a3, .inl (cI, 10, .inl y4)), (a4, .inl (cI, 10, .inl y5)), (a5, .inl (cI, 10, .inl y6)), (a6, .inr (0, [.ref a7, .int y7])), (a7, .inl (cS, 6, .inr (.inr (.inr (.inr (fun j => ([(ad2 0), (ad2 5), (ad2 10), (ad2 15), (ad2 20), (ad2 25)] : List Nat)[j]?)))))), ((ad2 0), .inr (2, [.ref (ad2 1), .ref (ad2 2), .ref (ad2 3), .ref (ad2 4), .int (y8 0)])), ((ad2 1), .inl (cI, 10, .inl (y9 0))), ((ad2 2), .inl (cI, 10, .inl (y10 0))), ((ad2 3), .inl (cI, 10, .inl (y11 0))), ((ad2 4), .inl (cI, 10, .inl (y12 0))), ((ad2 5), .inr (2, [.ref (ad2 6), .ref (ad2 7), .ref (ad2 8), .ref (ad2 9), .int (y8 1)])), ((ad2 6), .inl (cI, 10, .inl (y9 1))), ((ad2 7), .inl (cI, 10, .inl (y10 1))), ((ad2 8), .inl (cI, 10, .inl (y11 1))), ((ad2 9), .inl (cI, 10, .inl (y12 1))), ((ad2 10), .inr (2, [.ref (ad2 11), .ref (ad2 12), .ref (ad2 13), .ref (ad2 14), .int (y8 2)])), ((ad2 11), .inl (cI, 10, .inl (y9 2))), ((ad2 12), .inl (cI, 10, .inl (y10 2))), ((ad2 13), .inl (cI, 10, .inl (y11 2))), ((ad2 14), .inl (cI, 10, .inl (y12 2))), ((ad2 15), .inr (2, [.ref (ad2 16), .ref (ad2 17), .ref (ad2 18), .ref (ad2 19), .int (y8 3)])), ((ad2 16), .inl (cI, 10, .inl (y9 3))), ((ad2 17), .inl (cI, 10, .inl (y10 3))), ((ad2 18), .inl (cI, 10, .inl (y11 3))), ((ad2 19), .inl (cI, 10, .inl (y12 3))), ((ad2 20), .inr (2, [.ref (ad2 21), .ref (ad2 22), .ref (ad2 23), .ref (ad2 24), .int (y8 4)])), ((ad2 21), .inl (cI, 10, .inl (y9 4))), ((ad2 22), .inl (cI, 10, .inl (y10 4))), ((ad2 23), .inl (cI, 10, .inl (y11 4))), ((ad2 24), .inl (cI, 10, .inl (y12 4))), ((ad2 25), .inr (2, [.ref (ad2 26), .ref (ad2 27), .ref (ad2 28), .ref (ad2 29), .int (y8 5)])), ((ad2 26), .inl (cI, 10, .inl (y9 5))), ((ad2 27), .inl (cI, 10, .inl (y10 5))), ((ad2 28), .inl (cI, 10, .inl (y11 5))), ((ad2 29), .inl (cI, 10, .inl (y12 5))), (a38, .inr (3, [.ref a39, .int y13, .int y14, .int y15, .int y16, .int y17, .int y18, .int y19])), (a39, .inr (2, [.ref a40, .ref a41, .ref a42, .ref a43, .int y20])), (a40, .inl (cI, 10, .inl y21)), (a41, .inl (cI, 10, .inl y22)), (a42, .inl (cI, 10, .inl y23)), (a43, .inl (cI, 10, .inl y24)), (a44, .inl (cI, 60, .inl f44)), (aout, .inl (cL, 1, .inr (.inl fout)))]) [1, 2, 3, 4, 5, 6, 7, 8, 9, 10, 11, 12, 13, 14, 15, 16, 17, 18, 19, 20, 21, 22, 23, 24, 25, 26, 27, 28, 29, 30, 31, 32, 33, 34, 35, 36, 37, 38, 39, 40, 41, 42, 43, 44, 45, 0] rfl (by decide +kernel) ?_
      have h := Option.some.inj h
      simp only [Prod.mk.injEq] at h
      obtain ⟨rfl, rfl, rfl, rfl, rfl, rfl, rfl, rfl, rfl, rfl, rfl, rfl, rfl, rfl, rfl, rfl, rfl, rfl, rfl, rfl, rfl, rfl, rfl, rfl, rfl, rfl, rfl⟩ := h
      exact g_iret X hr hlk dL_books_16 rfl ⟨ad2, rfl⟩
    have h := if_f h hq2
    cases h
  · subst hv
    dsimp only at h
    rintro _ ⟨ad2, rfl⟩
    refine g_ws (ws' := [(a0, .inr (4, [.ref a1, .ref b0_1, .ref a6, .ref b0_3, .ref b0_4, .ref a38, .ref a44, .int y0, .int y1])), (a1, .inr (2, [.ref a2, .ref a3, .ref a4, .ref a5, .int y2])), (a2, .inl (cI, 10, .inl y3)), (a3, .inl (cI, 10, .inl y4)), (a4, .inl (cI, 10, .inl y5)), (a5, .inl (cI, 10, .inl y6)), (a6, .inr (0, [.ref a7, .int y7])), (a7, .inl (cS, 6, .inr (.inr (.inr (.inr (fun j => ([(ad2 0), (ad2 5), (ad2 10), (ad2 15), (ad2 20), (ad2 25)] : List Nat)[j]?)))))), ((ad2 0), .inr (2, [.ref (ad2 1), .ref (ad2 2), .ref (ad2 3), .ref (ad2 4), .int (y8 0)])), ((ad2 1), .inl (cI, 10, .inl (y9 0))), ((ad2 2), .inl (cI, 10, .inl (y10 0))), ((ad2 3), .inl (cI, 10, .inl (y11 0))), ((ad2 4), .inl (cI, 10, .inl (y12 0))), ((ad2 5), .inr (2, [.ref (ad2 6), .ref (ad2 7), .ref (ad2 8), .ref (ad2 9), .int (y8 1)])), ((ad2 6), .inl (cI, 10, .inl (y9 1))), ((ad2 7), .inl (cI, 10, .inl (y10 1))), ((ad2 8), .inl (cI, 10, .inl (y11 1))), ((ad2 9), .inl (cI, 10, .inl (y12 1))), ((ad2 10), .inr (2, [.ref (ad2 11), .ref (ad2 12), .ref (ad2 13), .ref (ad2 14), .int (y8 2)])), ((ad2 11), .inl (cI, 10, .inl (y9 2))), ((ad2 12), .inl (cI, 10, .inl (y10 2))), ((ad2 13), .inl (cI, 10, .inl (y11 2))), ((ad2 14), .inl (cI, 10, .inl (y12 2))), ((ad2 15), .inr (2, [.ref (ad2 16), .ref (ad2 17), .ref (ad2 18), .ref (ad2 19), .int (y8 3)])), ((ad2 16), .inl (cI, 10, .inl (y9 3))), ((ad2 17), .inl (cI, 10, .inl (y10 3))), ((ad2 18), .inl (cI, 10, .inl (y11 3))), ((ad2 19), .inl (cI, 10, .inl (y12 3))), ((ad2 20), .inr (2, [.ref (ad2 21), .ref (ad2 22), .ref (ad2 23), .ref (ad2 24), .int (y8 4)])), ((ad2 21), .inl (cI, 10, .inl (y9 4))), ((ad2 22), .inl (cI, 10, .inl (y10 4))), ((ad2 23), .inl (cI, 10, .inl (y11 4))), ((ad2 24), .inl (cI, 10, .inl (y12 4))), ((ad2 25), .inr (2, [.ref (ad2 26), .ref (ad2 27), .ref (ad2 28), .ref (ad2 29), .int (y8 5)])), ((ad2 26), .inl (cI, 10, .inl (y9 5))), ((ad2 27), .inl (cI, 10, .inl (y10 5))), ((ad2 28), .inl (cI, 10, .inl (y11 5))), ((ad2 29), .inl (cI, 10, .inl (y12 5))), (a38, .inr (3, [.ref a39, .int y13, .int y14, .int y15, .int y16, .int y17, .int y18, .int y19])), (a39, .inr (2, [.ref a40, .ref a41, .ref a42, .ref a43, .int y20])), (a40, .inl (cI, 10, .inl y21)), (a41, .inl (cI, 10, .inl y22)), (a42, .inl (cI, 10, .inl y23)), (a43, .inl (cI, 10, .inl y24)), (a44, .inl (cI, 60, .inl f44)), (aout, .inl (cL, 1, .inr (.inl fout)))]) [1, 2, 3, 4, 5, 6, 7, 8, 9, 10, 11, 12, 13, 14, 15, 16, 17, 18, 19, 20, 21, 22, 23, 24, 25, 26, 27, 28, 29, 30, 31, 32, 33, 34, 35, 36, 37, 38, 39, 40, 41, 42, 43, 44, 45, 0] rfl (by decide +kernel) ?_
    refine g_i2l X dL_books_6 ?_
    refine g_last (q0 := 45) (t0 := 2) (ws1 := fun g => [(a0, .inr (4, [.ref a1, .ref b0_1, .ref a6, .ref b0_3, .ref b0_4, .ref a38, .ref a44, .int y0, .int y1])), (a1, .inr (2, [.ref a2, .ref a3, .ref a4, .ref a5, .int y2])), (a2, .inl (cI, 10, .inl y3)), (a3, .inl (cI, 10, .inl y4)), (a4, .inl (cI, 10, .inl y5)), (a5, .inl (cI, 10, .inl y6)), (a6, .inr (0, [.ref a7, .int y7])), (a7, .inl (cS, 6, .inr (.inr (.inr (.inr (fun j => ([(ad2 0), (ad2 5), (ad2 10), (ad2 15), (ad2 20), (ad2 25)] : List Nat)[j]?)))))), ((ad2 0), .inr (2, [.ref (ad2 1), .ref (ad2 2), .ref (ad2 3), .ref (ad2 4), .int (y8 0)])), ((ad2 1), .inl (cI, 10, .inl (y9 0))), ((ad2 2), .inl (cI, 10, .inl (y10 0))), ((ad2 3), .inl (cI, 10, .inl (y11 0))), ((ad2 4), .inl (cI, 10, .inl (y12 0))), ((ad2 5), .inr (2, [.ref (ad2 6), .ref (ad2 7), .ref (ad2 8), .ref (ad2 9), .int (y8 1)])), ((ad2 6), .inl (cI, 10, .inl (y9 1))), ((ad2 7), .inl (cI, 10, .inl (y10 1))), ((ad2 8), .inl (cI, 10, .inl (y11 1))), ((ad2 9), .inl (cI, 10, .inl (y12 1))), ((ad2 10), .inr (2, [.ref (ad2 11), .ref (ad2 12), .ref (ad2 13), .ref (ad2 14), .int (y8 2)])), ((ad2 11), .inl (cI, 10, .inl (y9 2))), ((ad2 12), .inl (cI, 10, .inl (y10 2))), ((ad2 13), .inl (cI, 10, .inl (y11 2))), ((ad2 14), .inl (cI, 10, .inl (y12 2))), ((ad2 15), .inr (2, [.ref (ad2 16), .ref (ad2 17), .ref (ad2 18), .ref (ad2 19), .int (y8 3)])), ((ad2 16), .inl (cI, 10, .inl (y9 3))), ((ad2 17), .inl (cI, 10, .inl (y10 3))), ((ad2 18), .inl (cI, 10, .inl (y11 3))), ((ad2 19), .inl (cI, 10, .inl (y12 3))), ((ad2 20), .inr (2, [.ref (ad2 21), .ref (ad2 22), .ref (ad2 23), .ref (ad2 24), .int (y8 4)])), ((ad2 21), .inl (cI, 10, .inl (y9 4))), ((ad2 22), .inl (cI, 10, .inl (y10 4))), ((ad2 23), .inl (cI, 10, .inl (y11 4))), ((ad2 24), .inl (cI, 10, .inl (y12 4))), ((ad2 25), .inr (2, [.ref (ad2 26), .ref (ad2 27), .ref (ad2 28), .ref (ad2 29), .int (y8 5)])), ((ad2 26), .inl (cI, 10, .inl (y9 5))), ((ad2 27), .inl (cI, 10, .inl (y10 5))), ((ad2 28), .inl (cI, 10, .inl (y11 5))), ((ad2 29), .inl (cI, 10, .inl (y12 5))), (a38, .inr (3, [.ref a39, .int y13, .int y14, .int y15, .int y16, .int y17, .int y18, .int y19])), (a39, .inr (2, [.ref a40, .ref a41, .ref a42, .ref a43, .int y20])), (a40, .inl (cI, 10, .inl y21)), (a41, .inl (cI, 10, .inl y22)), (a42, .inl (cI, 10, .inl y23)), (a43, .inl (cI, 10, .inl y24)), (a44, .inl (cI, 60, .inl f44)), (aout, .inl (cL, 1, .inr (.inl g)))]) X h rfl rfl dL_books_7 (fun _ => rfl) (fun g h => ?_)
    refine g_goto (tgt := 17) X dL_books_8 (by decide) ?_
    refine g_iconst (v := 0) X dL_books_17 (by decide) ?_
    have h := Option.some.inj h
    simp only [Prod.mk.injEq] at h
    obtain ⟨rfl, rfl, rfl, rfl, rfl, rfl, rfl, rfl, rfl, rfl, rfl, rfl, rfl, rfl, rfl, rfl, rfl, rfl, rfl, rfl, rfl, rfl, rfl, rfl, rfl, rfl, rfl⟩ := h
    exact g_iret X hr hlk dL_books_18 rfl ⟨ad2, rfl⟩
theorem hk_L_undo_15 : Cond.classLink RL 15 "java/lang/IllegalStateException" ∈ wsL_undo := by decide +kernel
def f_L_undo (x0_isReadingOld : Int32) (x1_size : Int32) (f2 : Nat → Int32) (f3 : Nat → Int32) (f4 : Nat → Int32) (f5 : Nat → Int32) (x6_size : Int32) (hN : Nat → Int32) (hP : Nat → Nat → Int32) (hL : Nat → Nat → Int32) (hM : Nat → Nat → Int32) (hY : Nat → Nat → Int32) (fout : Nat → Int64) : Option (Int32 × Int32 × Int32 × (Nat → Int32) × (Nat → Int32) × (Nat → Int32) × (Nat → Int32) × Int32 × (Nat → Int64)) := (f_X4_undo x0_isReadingOld x1_size f2 f3 f4 f5 x6_size hN hP hL hM hY).bind (u8 fun (rc : Int32 ⊕ String) (y0 : Int32) (y1 : Int32) (y2 : Nat → Int32) (y3 : Nat → Int32) (y4 : Nat → Int32) (y5 : Nat → Int32) (y6 : Int32) => match rc with | .inl v => (wrL fout 1 0 v.toInt64).bind (fun g => some (0, y0, y1, y2, y3, y4, y5, y6, g)) | .inr E => if E = "java/lang/IllegalStateException" then some (1, y0, y1, y2, y3, y4, y5, y6, fout) else none)
theorem hd_L_undo : yL_undo.cls = RL ∧ yL_undo.cls ≠ "java/lang/invoke/MethodHandle" ∧ yL_undo.cls ≠ "java/lang/invoke/VarHandle" ∧ (parseMethodDescriptor yL_undo.desc).map (fun d => d.parameters.length) = some 2 := by decide +kernel
set_option maxRecDepth 100000 in
set_option maxHeartbeats 8000000 in
theorem c_L_undo (l : Launch) (hlt : l.stackTraces = false) (D : va_G) (cI cS cL : ClassId) (a0 : Nat) (a1 : Nat) (a2 : Nat) (a3 : Nat) (a4 : Nat) (a5 : Nat) (a6 : Nat) (a7 : Nat) (ad : Nat → Nat) (b0_1 : Nat) (b0_3 : Nat) (b0_4 : Nat) (b0_5 : Nat) (b0_6 : Nat) (x0_length : Int32) (x0_isReadingOld : Int32) (x1_size : Int32) (f2 : Nat → Int32) (f3 : Nat → Int32) (f4 : Nat → Int32) (f5 : Nat → Int32) (x6_size : Int32) (hN : Nat → Int32) (hP : Nat → Nat → Int32) (hL : Nat → Nat → Int32) (hM : Nat → Nat → Int32) (hY : Nat → Nat → Int32) (aout : Nat) (fout : Nat → Int64) (rr : Int32) (z0 : Int32) (z1 : Int32) (z2 : Nat → Int32) (z3 : Nat → Int32) (z4 : Nat → Int32) (z5 : Nat → Int32) (z6 : Int32) (gout : Nat → Int64) (hc : f_L_undo x0_isReadingOld x1_size f2 f3 f4 f5 x6_size hN hP hL hM hY fout = some (rr, z0, z1, z2, z3, z4, z5, z6, gout)) : KW l yL_undo wsL_undo { frames := 7, cells := 1, slots := 6, locals := 108 } D (tyS cI cS cL) [.ref a0, .ref aout] [(a0, .inr (4, [.ref a1, .ref b0_1, .ref a6, .ref b0_3, .ref b0_4, .ref b0_5, .ref b0_6, .int x0_length, .int x0_isReadingOld])), (a1, .inr (2, [.ref a2, .ref a3, .ref a4, .ref a5, .int x1_size])), (a2, .inl (cI, 10, .inl f2)), (a3, .inl (cI, 10, .inl f3)), (a4, .inl (cI, 10, .inl f4)), (a5, .inl (cI, 10, .inl f5)), (a6, .inr (0, [.ref a7, .int x6_size])), (a7, .inl (cS, 6, .inr (.inr (.inr (.inr (fun j => ([(ad 0), (ad 5), (ad 10), (ad 15), (ad 20), (ad 25)] : List Nat)[j]?)))))), ((ad 0), .inr (2, [.ref (ad 1), .ref (ad 2), .ref (ad 3), .ref (ad 4), .int (hN 0)])), ((ad 1), .inl (cI, 10, .inl (hP 0))), ((ad 2), .inl (cI, 10, .inl (hL 0))), ((ad 3), .inl (cI, 10, .inl (hM 0))), ((ad 4), .inl (cI, 10, .inl (hY 0))), ((ad 5), .inr (2, [.ref (ad 6), .ref (ad 7), .ref (ad 8), .ref (ad 9), .int (hN 1)])), ((ad 6), .inl (cI, 10, .inl (hP 1))), ((ad 7), .inl (cI, 10, .inl (hL 1))), ((ad 8), .inl (cI, 10, .inl (hM 1))), ((ad 9), .inl (cI, 10, .inl (hY 1))), ((ad 10), .inr (2, [.ref (ad 11), .ref (ad 12), .ref (ad 13), .ref (ad 14), .int (hN 2)])), ((ad 11), .inl (cI, 10, .inl (hP 2))), ((ad 12), .inl (cI, 10, .inl (hL 2))), ((ad 13), .inl (cI, 10, .inl (hM 2))), ((ad 14), .inl (cI, 10, .inl (hY 2))), ((ad 15), .inr (2, [.ref (ad 16), .ref (ad 17), .ref (ad 18), .ref (ad 19), .int (hN 3)])), ((ad 16), .inl (cI, 10, .inl (hP 3))), ((ad 17), .inl (cI, 10, .inl (hL 3))), ((ad 18), .inl (cI, 10, .inl (hM 3))), ((ad 19), .inl (cI, 10, .inl (hY 3))), ((ad 20), .inr (2, [.ref (ad 21), .ref (ad 22), .ref (ad 23), .ref (ad 24), .int (hN 4)])), ((ad 21), .inl (cI, 10, .inl (hP 4))), ((ad 22), .inl (cI, 10, .inl (hL 4))), ((ad 23), .inl (cI, 10, .inl (hM 4))), ((ad 24), .inl (cI, 10, .inl (hY 4))), ((ad 25), .inr (2, [.ref (ad 26), .ref (ad 27), .ref (ad 28), .ref (ad 29), .int (hN 5)])), ((ad 26), .inl (cI, 10, .inl (hP 5))), ((ad 27), .inl (cI, 10, .inl (hL 5))), ((ad 28), .inl (cI, 10, .inl (hM 5))), ((ad 29), .inl (cI, 10, .inl (hY 5))), (aout, .inl (cL, 1, .inr (.inl fout)))] rr (fun w => w = [(a0, .inr (4, [.ref a1, .ref b0_1, .ref a6, .ref b0_3, .ref b0_4, .ref b0_5, .ref b0_6, .int x0_length, .int z0])), (a1, .inr (2, [.ref a2, .ref a3, .ref a4, .ref a5, .int z1])), (a2, .inl (cI, 10, .inl z2)), (a3, .inl (cI, 10, .inl z3)), (a4, .inl (cI, 10, .inl z4)), (a5, .inl (cI, 10, .inl z5)), (a6, .inr (0, [.ref a7, .int z6])), (a7, .inl (cS, 6, .inr (.inr (.inr (.inr (fun j => ([(ad 0), (ad 5), (ad 10), (ad 15), (ad 20), (ad 25)] : List Nat)[j]?)))))), ((ad 0), .inr (2, [.ref (ad 1), .ref (ad 2), .ref (ad 3), .ref (ad 4), .int (hN 0)])), ((ad 1), .inl (cI, 10, .inl (hP 0))), ((ad 2), .inl (cI, 10, .inl (hL 0))), ((ad 3), .inl (cI, 10, .inl (hM 0))), ((ad 4), .inl (cI, 10, .inl (hY 0))), ((ad 5), .inr (2, [.ref (ad 6), .ref (ad 7), .ref (ad 8), .ref (ad 9), .int (hN 1)])), ((ad 6), .inl (cI, 10, .inl (hP 1))), ((ad 7), .inl (cI, 10, .inl (hL 1))), ((ad 8), .inl (cI, 10, .inl (hM 1))), ((ad 9), .inl (cI, 10, .inl (hY 1))), ((ad 10), .inr (2, [.ref (ad 11), .ref (ad 12), .ref (ad 13), .ref (ad 14), .int (hN 2)])), ((ad 11), .inl (cI, 10, .inl (hP 2))), ((ad 12), .inl (cI, 10, .inl (hL 2))), ((ad 13), .inl (cI, 10, .inl (hM 2))), ((ad 14), .inl (cI, 10, .inl (hY 2))), ((ad 15), .inr (2, [.ref (ad 16), .ref (ad 17), .ref (ad 18), .ref (ad 19), .int (hN 3)])), ((ad 16), .inl (cI, 10, .inl (hP 3))), ((ad 17), .inl (cI, 10, .inl (hL 3))), ((ad 18), .inl (cI, 10, .inl (hM 3))), ((ad 19), .inl (cI, 10, .inl (hY 3))), ((ad 20), .inr (2, [.ref (ad 21), .ref (ad 22), .ref (ad 23), .ref (ad 24), .int (hN 4)])), ((ad 21), .inl (cI, 10, .inl (hP 4))), ((ad 22), .inl (cI, 10, .inl (hL 4))), ((ad 23), .inl (cI, 10, .inl (hM 4))), ((ad 24), .inl (cI, 10, .inl (hY 4))), ((ad 25), .inr (2, [.ref (ad 26), .ref (ad 27), .ref (ad 28), .ref (ad 29), .int (hN 5)])), ((ad 26), .inl (cI, 10, .inl (hP 5))), ((ad 27), .inl (cI, 10, .inl (hL 5))), ((ad 28), .inl (cI, 10, .inl (hM 5))), ((ad 29), .inl (cI, 10, .inl (hY 5))), (aout, .inl (cL, 1, .inr (.inl gout)))]) := by
  refine g_entryW (cc := cL_undo) (nL := 3) (rt := (some .int)) (by decide) rfl (Nat.le_of_ble_eq_true rfl) ?_
  intro p e s m args below meth c A (X : GC p s m args c cL_undo 3 RL wsL_undo D (tyS cI cS cL) A) Y hT hr hlk
  have h := hc
  unfold f_L_undo at h
  refine g_lv (lv' := [(0, .ref a0), (1, .ref aout)]) [0, 1] rfl ?_
  obtain ⟨rc, y0, y1, y2, y3, y4, y5, y6, hc, h⟩ := bd8 h
  refine g_aload_n X (j := 1) dL_undo_0 rfl ?_
  refine g_iconst (v := 0) X dL_undo_1 (by decide) ?_
  refine g_aload_n X (j := 0) dL_undo_2 rfl ?_
  refine g_callX (q0 := 0) (ci := 4) (n := 0) (is := [0, 1, 2, 3, 4, 5, 6, 7, 8, 9, 10, 11, 12, 13, 14, 15, 16, 17, 18, 19, 20, 21, 22, 23, 24, 25, 26, 27, 28, 29, 30, 31, 32, 33, 34, 35, 36, 37]) (isR := [38]) (wr := [(aout, .inl (cL, 1, .inr (.inl fout)))]) (As := []) (st := [.int 0, .ref aout]) (cells' := 1) (slots' := 6) X Y (c_X4_undo l hlt D cI cS cL a0 a1 a2 a3 a4 a5 a6 a7 ad b0_1 b0_3 b0_4 b0_5 b0_6 x0_length x0_isReadingOld x1_size f2 f3 f4 f5 x6_size hN hP hL hM hY rc y0 y1 y2 y3 y4 y5 y6 hc) gL_undo_X4_undo rfl ⟨rfl, rfl⟩ hd_X4_undo (by exact ⟨Nat.le_of_ble_eq_true rfl, Nat.le_of_ble_eq_true rfl⟩) rfl rfl ⟨(Nat.le_of_ble_eq_true rfl), (Nat.le_of_ble_eq_true rfl)⟩ rfl rfl rfl (by decide +kernel) rfl rfl (by decide +kernel) rfl (Nat.le_of_ble_eq_true rfl) rfl dL_undo_3 (fun E hE => ?_) (fun v hv => ?_)
  · subst hE
    dsimp only at h
    rintro _ rfl
    by_cases hq : E = "java/lang/IllegalStateException"
    · subst hq
      have h := if_t h rfl
      refine g_catch1 (hh := []) (x := (0, 8, 11, 15)) X Y (by decide +kernel) hT (by decide) (by decide) hk_L_undo_15 (fun q => ?_)
      refine g_astore_n (lv' := [(2, .ref q), (0, .ref a0), (1, .ref aout)]) X dL_undo_11 rfl (by decide) rfl ?_
      refine g_iconst (v := 1) X dL_undo_12 (by decide) ?_
      refine g_ws (ws' := [(a0, .inr (4, [.ref a1, .ref b0_1, .ref a6, .ref b0_3, .ref b0_4, .ref b0_5, .ref b0_6, .int x0_length, .int y0])), (a1, .inr (2, [.ref a2, .ref a3, .ref a4, .ref a5, .int y1])), (a2, .inl (cI, 10, .inl y2)), (a3, .inl (cI, 10, .inl y3)), (a4, .inl (cI, 10, .inl y4)), (a5, .inl (cI, 10, .inl y5)), (a6, .inr (0, [.ref a7, .int y6])), (a7, .inl (cS, 6, .inr (.inr (.inr (.inr (fun j => ([(ad 0), (ad 5), (ad 10), (ad 15), (ad 20), (ad 25)] : List Nat)[j]?)))))), ((ad 0), .inr (2, [.ref (ad 1), .ref (ad 2), .ref (ad 3), .ref (ad 4), .int (hN 0)])), ((ad 1), .inl (cI, 10, .inl (hP 0))), ((ad 2), .inl (cI, 10, .inl (hL 0))), ((ad 3), .inl (cI, 10, .inl (hM 0))), ((ad 4), .inl (cI, 10, .inl (hY 0))), ((ad 5), .inr (2, [.ref (ad 6), .ref (ad 7), .ref (ad 8), .ref (ad 9), .int (hN 1)])), ((ad 6), .inl (cI, 10, .inl (hP 1))), ((ad 7), .inl (cI, 10, .inl (hL 1))), ((ad 8), .inl (cI, 10, .inl (hM 1))), ((ad 9), .inl (cI, 10, .inl (hY 1))), ((ad 10), .inr (2, [.ref (ad 11), .ref (ad 12), .ref (ad 13), .ref (ad 14), .int (hN 2)])), ((ad 11), .inl (cI, 10, .inl (hP 2))), ((ad 12), .inl (cI, 10, .inl (hL 2))), ((ad 13), .inl (cI, 10, .inl (hM 2))), ((ad 14), .inl (cI, 10, .inl (hY 2))), ((ad 15), .inr (2, [.ref (ad 16), .ref (ad 17), .ref (ad 18), .ref (ad 19), .int (hN 3)])), ((ad 16), .inl (cI, 10, .inl (hP 3))), ((ad 17), .inl (cI, 10, .inl (hL 3))), ((ad 18), .inl (cI, 10, .inl (hM 3))), ((ad 19), .inl (cI, 10, .inl (hY 3))), ((ad 20), .inr (2, [.ref (ad 21), .ref (ad 22), .ref (ad 23), .ref (ad 24), .int (hN 4)])), ((ad 21), .inl (cI, 10, .inl (hP 4))), ((ad 22), .inl (cI, 10, .inl (hL 4))), ((ad 23), .inl (cI, 10, .inl (hM 4))), ((ad 24), .inl (cI, 10, .inl (hY 4))), ((ad 25), .inr (2, [.ref (ad 26), .ref (ad 27), .ref (ad 28), .ref (ad 29), .int (hN 5)])), ((ad 26), .inl (cI, 10, .inl (hP 5))), ((ad 27), .inl (cI, 10, .inl (hL 5))), ((ad 28), .inl (cI, 10, .inl (hM 5))), ((ad 29), .inl (cI, 10, .inl (hY 5))), (aout, .inl (cL, 1, .inr (.inl fout)))]) [1, 2, 3, 4, 5, 6, 7, 8, 9, 10, 11, 12, 13, 14, 15, 16, 17, 18, 19, 20, 21, 22, 23, 24, 25, 26, 27, 28, 29, 30, 31, 32, 33, 34, 35, 36, 37, 38, 0] rfl (by decide +kernel) ?_
      have h := Option.some.inj h
      simp only [Prod.mk.injEq] at h
      obtain ⟨rfl, rfl, rfl, rfl, rfl, rfl, rfl, rfl, rfl⟩ := h
      exact g_iret X hr hlk dL_undo_13 rfl rfl
    have h := if_f h hq
    cases h
  · subst hv
    dsimp only at h
    rintro _ rfl
    refine g_ws (ws' := [(a0, .inr (4, [.ref a1, .ref b0_1, .ref a6, .ref b0_3, .ref b0_4, .ref b0_5, .ref b0_6, .int x0_length, .int y0])), (a1, .inr (2, [.ref a2, .ref a3, .ref a4, .ref a5, .int y1])), (a2, .inl (cI, 10, .inl y2)), (a3, .inl (cI, 10, .inl y3)), (a4, .inl (cI, 10, .inl y4)), (a5, .inl (cI, 10, .inl y5)), (a6, .inr (0, [.ref a7, .int y6])), (a7, .inl (cS, 6, .inr (.inr (.inr (.inr (fun j => ([(ad 0), (ad 5), (ad 10), (ad 15), (ad 20), (ad 25)] : List Nat)[j]?)))))), ((ad 0), .inr (2, [.ref (ad 1), .ref (ad 2), .ref (ad 3), .ref (ad 4), .int (hN 0)])), ((ad 1), .inl (cI, 10, .inl (hP 0))), ((ad 2), .inl (cI, 10, .inl (hL 0))), ((ad 3), .inl (cI, 10, .inl (hM 0))), ((ad 4), .inl (cI, 10, .inl (hY 0))), ((ad 5), .inr (2, [.ref (ad 6), .ref (ad 7), .ref (ad 8), .ref (ad 9), .int (hN 1)])), ((ad 6), .inl (cI, 10, .inl (hP 1))), ((ad 7), .inl (cI, 10, .inl (hL 1))), ((ad 8), .inl (cI, 10, .inl (hM 1))), ((ad 9), .inl (cI, 10, .inl (hY 1))), ((ad 10), .inr (2, [.ref (ad 11), .ref (ad 12), .ref (ad 13), .ref (ad 14), .int (hN 2)])), ((ad 11), .inl (cI, 10, .inl (hP 2))), ((ad 12), .inl (cI, 10, .inl (hL 2))), ((ad 13), .inl (cI, 10, .inl (hM 2))), ((ad 14), .inl (cI, 10, .inl (hY 2))), ((ad 15), .inr (2, [.ref (ad 16), .ref (ad 17), .ref (ad 18), .ref (ad 19), .int (hN 3)])), ((ad 16), .inl (cI, 10, .inl (hP 3))), ((ad 17), .inl (cI, 10, .inl (hL 3))), ((ad 18), .inl (cI, 10, .inl (hM 3))), ((ad 19), .inl (cI, 10, .inl (hY 3))), ((ad 20), .inr (2, [.ref (ad 21), .ref (ad 22), .ref (ad 23), .ref (ad 24), .int (hN 4)])), ((ad 21), .inl (cI, 10, .inl (hP 4))), ((ad 22), .inl (cI, 10, .inl (hL 4))), ((ad 23), .inl (cI, 10, .inl (hM 4))), ((ad 24), .inl (cI, 10, .inl (hY 4))), ((ad 25), .inr (2, [.ref (ad 26), .ref (ad 27), .ref (ad 28), .ref (ad 29), .int (hN 5)])), ((ad 26), .inl (cI, 10, .inl (hP 5))), ((ad 27), .inl (cI, 10, .inl (hL 5))), ((ad 28), .inl (cI, 10, .inl (hM 5))), ((ad 29), .inl (cI, 10, .inl (hY 5))), (aout, .inl (cL, 1, .inr (.inl fout)))]) [1, 2, 3, 4, 5, 6, 7, 8, 9, 10, 11, 12, 13, 14, 15, 16, 17, 18, 19, 20, 21, 22, 23, 24, 25, 26, 27, 28, 29, 30, 31, 32, 33, 34, 35, 36, 37, 38, 0] rfl (by decide +kernel) ?_
    refine g_i2l X dL_undo_6 ?_
    refine g_last (q0 := 38) (t0 := 2) (ws1 := fun g => [(a0, .inr (4, [.ref a1, .ref b0_1, .ref a6, .ref b0_3, .ref b0_4, .ref b0_5, .ref b0_6, .int x0_length, .int y0])), (a1, .inr (2, [.ref a2, .ref a3, .ref a4, .ref a5, .int y1])), (a2, .inl (cI, 10, .inl y2)), (a3, .inl (cI, 10, .inl y3)), (a4, .inl (cI, 10, .inl y4)), (a5, .inl (cI, 10, .inl y5)), (a6, .inr (0, [.ref a7, .int y6])), (a7, .inl (cS, 6, .inr (.inr (.inr (.inr (fun j => ([(ad 0), (ad 5), (ad 10), (ad 15), (ad 20), (ad 25)] : List Nat)[j]?)))))), ((ad 0), .inr (2, [.ref (ad 1), .ref (ad 2), .ref (ad 3), .ref (ad 4), .int (hN 0)])), ((ad 1), .inl (cI, 10, .inl (hP 0))), ((ad 2), .inl (cI, 10, .inl (hL 0))), ((ad 3), .inl (cI, 10, .inl (hM 0))), ((ad 4), .inl (cI, 10, .inl (hY 0))), ((ad 5), .inr (2, [.ref (ad 6), .ref (ad 7), .ref (ad 8), .ref (ad 9), .int (hN 1)])), ((ad 6), .inl (cI, 10, .inl (hP 1))), ((ad 7), .inl (cI, 10, .inl (hL 1))), ((ad 8), .inl (cI, 10, .inl (hM 1))), ((ad 9), .inl (cI, 10, .inl (hY 1))), ((ad 10), .inr (2, [.ref (ad 11), .ref (ad 12), .ref (ad 13), .ref (ad 14), .int (hN 2)])), ((ad 11), .inl (cI, 10, .inl (hP 2))), ((ad 12), .inl (cI, 10, .inl (hL 2))), ((ad 13), .inl (cI, 10, .inl (hM 2))), ((ad 14), .inl (cI, 10, .inl (hY 2))), ((ad 15), .inr (2, [.ref (ad 16), .ref (ad 17), .ref (ad 18), .ref (ad 19), .int (hN 3)])), ((ad 16), .inl (cI, 10, .inl (hP 3))), ((ad 17), .inl (cI, 10, .inl (hL 3))), ((ad 18), .inl (cI, 10, .inl (hM 3))), ((ad 19), .inl (cI, 10, .inl (hY 3))), ((ad 20), .inr (2, [.ref (ad 21), .ref (ad 22), .ref (ad 23), .ref (ad 24), .int (hN 4)])), ((ad 21), .inl (cI, 10, .inl (hP 4))), ((ad 22), .inl (cI, 10, .inl (hL 4))), ((ad 23), .inl (cI, 10, .inl (hM 4))), ((ad 24), .inl (cI, 10, .inl (hY 4))), ((ad 25), .inr (2, [.ref (ad 26), .ref (ad 27), .ref (ad 28), .ref (ad 29), .int (hN 5)])), ((ad 26), .inl (cI, 10, .inl (hP 5))), ((ad 27), .inl (cI, 10, .inl (hL 5))), ((ad 28), .inl (cI, 10, .inl (hM 5))), ((ad 29), .inl (cI, 10, .inl (hY 5))), (aout, .inl (cL, 1, .inr (.inl g)))]) X h rfl rfl dL_undo_7 (fun _ => rfl) (fun g h => ?_)
    refine g_goto (tgt := 14) X dL_undo_8 (by decide) ?_
    refine g_iconst (v := 0) X dL_undo_14 (by decide) ?_
    have h := Option.some.inj h
    simp only [Prod.mk.injEq] at h
    obtain ⟨rfl, rfl, rfl, rfl, rfl, rfl, rfl, rfl, rfl⟩ := h
    exact g_iret X hr hlk dL_undo_15 rfl rfl
theorem hk_L_bookOf_21 : Cond.classLink RL 21 "java/lang/IndexOutOfBoundsException" ∈ wsL_bookOf := by decide +kernel
theorem hk_L_bookOf_13 : Cond.classLink RL 13 "java/lang/IllegalArgumentException" ∈ wsL_bookOf := by decide +kernel
def f_L_bookOf (p1 : Int32) (p2 : Int32) (x0_isReadingOld : Int32) (x1_size : Int32) (f2 : Nat → Int32) (f3 : Nat → Int32) (f4 : Nat → Int32) (f5 : Nat → Int32) (x6_areOrdersCounted : Int32) (x6_isAnyOrder : Int32) (x6_size : Int32) (f7 : Nat → Int32) (f8 : Nat → Int32) (f9 : Nat → Int32) (f10 : Nat → Int32) (f11 : Nat → Int32) (f12 : Nat → Int32) (fout : Nat → Int64) : Option (Int32 × Int32 × Int32 × Int32 × Int32 × (Nat → Int32) × (Nat → Int32) × (Nat → Int32) × (Nat → Int32) × (Nat → Int32) × (Nat → Int32) × (Nat → Int64)) := (f_X4_bookOf p1 p2 x0_isReadingOld x1_size f2 f3 f4 f5 x6_areOrdersCounted x6_isAnyOrder x6_size f7 f8 f9 f10 f11 f12).bind (u11 fun (rc : Int32 ⊕ String) (y0 : Int32) (y1 : Int32) (y2 : Int32) (y3 : Int32) (y4 : Nat → Int32) (y5 : Nat → Int32) (y6 : Nat → Int32) (y7 : Nat → Int32) (y8 : Nat → Int32) (y9 : Nat → Int32) => match rc with | .inl v => (wrL fout 1 0 v.toInt64).bind (fun g => some (0, y0, y1, y2, y3, y4, y5, y6, y7, y8, y9, g)) | .inr E => if E = "java/lang/IndexOutOfBoundsException" then some (1, y0, y1, y2, y3, y4, y5, y6, y7, y8, y9, fout) else if E = "java/lang/IllegalArgumentException" then some (2, y0, y1, y2, y3, y4, y5, y6, y7, y8, y9, fout) else none)
theorem hd_L_bookOf : yL_bookOf.cls = RL ∧ yL_bookOf.cls ≠ "java/lang/invoke/MethodHandle" ∧ yL_bookOf.cls ≠ "java/lang/invoke/VarHandle" ∧ (parseMethodDescriptor yL_bookOf.desc).map (fun d => d.parameters.length) = some 4 := by decide +kernel
set_option maxRecDepth 100000 in
set_option maxHeartbeats 8000000 in
theorem c_L_bookOf (l : Launch) (hlt : l.stackTraces = false) (D : va_G) (cI cS cL : ClassId) (a0 : Nat) (a1 : Nat) (a2 : Nat) (a3 : Nat) (a4 : Nat) (a5 : Nat) (a6 : Nat) (a7 : Nat) (a8 : Nat) (a9 : Nat) (a10 : Nat) (a11 : Nat) (a12 : Nat) (b0_1 : Nat) (b0_2 : Nat) (b0_4 : Nat) (b0_5 : Nat) (b0_6 : Nat) (b6_6 : Nat) (p1 : Int32) (p2 : Int32) (x0_length : Int32) (x0_isReadingOld : Int32) (x1_size : Int32) (f2 : Nat → Int32) (f3 : Nat → Int32) (f4 : Nat → Int32) (f5 : Nat → Int32) (x6_areOrdersCounted : Int32) (x6_isAnyOrder : Int32) (x6_size : Int32) (f7 : Nat → Int32) (f8 : Nat → Int32) (f9 : Nat → Int32) (f10 : Nat → Int32) (f11 : Nat → Int32) (f12 : Nat → Int32) (aout : Nat) (fout : Nat → Int64) (rr : Int32) (z0 : Int32) (z1 : Int32) (z2 : Int32) (z3 : Int32) (z4 : Nat → Int32) (z5 : Nat → Int32) (z6 : Nat → Int32) (z7 : Nat → Int32) (z8 : Nat → Int32) (z9 : Nat → Int32) (gout : Nat → Int64) (hc : f_L_bookOf p1 p2 x0_isReadingOld x1_size f2 f3 f4 f5 x6_areOrdersCounted x6_isAnyOrder x6_size f7 f8 f9 f10 f11 f12 fout = some (rr, z0, z1, z2, z3, z4, z5, z6, z7, z8, z9, gout)) : KW l yL_bookOf wsL_bookOf { frames := 7, cells := 1, slots := 6, locals := 133 } D (tyS cI cS cL) [.ref a0, .int p1, .int p2, .ref aout] [(a0, .inr (4, [.ref a1, .ref b0_1, .ref b0_2, .ref a6, .ref b0_4, .ref b0_5, .ref b0_6, .int x0_length, .int x0_isReadingOld])), (a1, .inr (2, [.ref a2, .ref a3, .ref a4, .ref a5, .int x1_size])), (a2, .inl (cI, 10, .inl f2)), (a3, .inl (cI, 10, .inl f3)), (a4, .inl (cI, 10, .inl f4)), (a5, .inl (cI, 10, .inl f5)), (a6, .inr (1, [.ref a7, .ref a8, .ref a9, .ref a10, .ref a11, .ref a12, .ref b6_6, .int x6_areOrdersCounted, .int x6_isAnyOrder, .int x6_size])), (a7, .inl (cI, 10, .inl f7)), (a8, .inl (cI, 10, .inl f8)), (a9, .inl (cI, 10, .inl f9)), (a10, .inl (cI, 10, .inl f10)), (a11, .inl (cI, 10, .inl f11)), (a12, .inl (cI, 10, .inl f12)), (aout, .inl (cL, 1, .inr (.inl fout)))] rr (fun w => w = [(a0, .inr (4, [.ref a1, .ref b0_1, .ref b0_2, .ref a6, .ref b0_4, .ref b0_5, .ref b0_6, .int x0_length, .int z0])), (a1, .inr (2, [.ref a2, .ref a3, .ref a4, .ref a5, .int x1_size])), (a2, .inl (cI, 10, .inl f2)), (a3, .inl (cI, 10, .inl f3)), (a4, .inl (cI, 10, .inl f4)), (a5, .inl (cI, 10, .inl f5)), (a6, .inr (1, [.ref a7, .ref a8, .ref a9, .ref a10, .ref a11, .ref a12, .ref b6_6, .int z1, .int z2, .int z3])), (a7, .inl (cI, 10, .inl z4)), (a8, .inl (cI, 10, .inl z5)), (a9, .inl (cI, 10, .inl z6)), (a10, .inl (cI, 10, .inl z7)), (a11, .inl (cI, 10, .inl z8)), (a12, .inl (cI, 10, .inl z9)), (aout, .inl (cL, 1, .inr (.inl gout)))]) := by
  refine g_entryW (cc := cL_bookOf) (nL := 5) (rt := (some .int)) (by decide) rfl (Nat.le_of_ble_eq_true rfl) ?_
  intro p e s m args below meth c A (X : GC p s m args c cL_bookOf 5 RL wsL_bookOf D (tyS cI cS cL) A) Y hT hr hlk
  have h := hc
  unfold f_L_bookOf at h
  refine g_lv (lv' := [(0, .ref a0), (1, .int p1), (2, .int p2), (3, .ref aout)]) [0, 1, 2, 3] rfl ?_
  obtain ⟨rc, y0, y1, y2, y3, y4, y5, y6, y7, y8, y9, hc, h⟩ := bd11 h
  refine g_aload_n X (j := 3) dL_bookOf_0 rfl ?_
  refine g_iconst (v := 0) X dL_bookOf_1 (by decide) ?_
  refine g_aload_n X (j := 0) dL_bookOf_2 rfl ?_
  refine g_iload_n X (j := 1) dL_bookOf_3 rfl ?_
  refine g_iload_n X (j := 2) dL_bookOf_4 rfl ?_
  refine g_callX (q0 := 0) (ci := 4) (n := 2) (is := [0, 1, 2, 3, 4, 5, 6, 7, 8, 9, 10, 11, 12]) (isR := [13]) (wr := [(aout, .inl (cL, 1, .inr (.inl fout)))]) (As := [.int p1, .int p2]) (st := [.int 0, .ref aout]) (cells' := 1) (slots' := 6) X Y (c_X4_bookOf l hlt D cI cS cL a0 a1 a2 a3 a4 a5 a6 a7 a8 a9 a10 a11 a12 b0_1 b0_2 b0_4 b0_5 b0_6 b6_6 p1 p2 x0_length x0_isReadingOld x1_size f2 f3 f4 f5 x6_areOrdersCounted x6_isAnyOrder x6_size f7 f8 f9 f10 f11 f12 rc y0 y1 y2 y3 y4 y5 y6 y7 y8 y9 hc) gL_bookOf_X4_bookOf rfl ⟨rfl, rfl⟩ hd_X4_bookOf (by exact ⟨Nat.le_of_ble_eq_true rfl, Nat.le_of_ble_eq_true rfl⟩) rfl rfl ⟨(Nat.le_of_ble_eq_true rfl), (Nat.le_of_ble_eq_true rfl)⟩ rfl rfl rfl (by decide +kernel) rfl rfl (by decide +kernel) rfl (Nat.le_of_ble_eq_true rfl) rfl dL_bookOf_5 (fun E hE => ?_) (fun v hv => ?_)
  · subst hE
    dsimp only at h
    rintro _ rfl
    by_cases hq : E = "java/lang/IndexOutOfBoundsException"
    · subst hq
      have h := if_t h rfl
      refine g_catch1 (hh := [(0, 10, 17, 13)]) (x := (0, 10, 13, 21)) X Y (by decide +kernel) hT (by decide) (by decide) hk_L_bookOf_21 (fun q => ?_)
      refine g_astore (lv' := [(4, .ref q), (0, .ref a0), (1, .int p1), (2, .int p2), (3, .ref aout)]) X dL_bookOf_13 (by decide) rfl ?_
      refine g_iconst (v := 1) X dL_bookOf_15 (by decide) ?_
      refine g_ws (ws' := [(a0, .inr (4, [.ref a1, .ref b0_1, .ref b0_2, .ref a6, .ref b0_4, .ref b0_5, .ref b0_6, .int x0_length, .int y0])), (a1, .inr (2, [.ref a2, .ref a3, .ref a4, .ref a5, .int x1_size])), (a2, .inl (cI, 10, .inl f2)), (a3, .inl (cI, 10, .inl f3)), (a4, .inl (cI, 10, .inl f4)), (a5, .inl (cI, 10, .inl f5)), (a6, .inr (1, [.ref a7, .ref a8, .ref a9, .ref a10, .ref a11, .ref a12, .ref b6_6, .int y1, .int y2, .int y3])), (a7, .inl (cI, 10, .inl y4)), (a8, .inl (cI, 10, .inl y5)), (a9, .inl (cI, 10, .inl y6)), (a10, .inl (cI, 10, .inl y7)), (a11, .inl (cI, 10, .inl y8)), (a12, .inl (cI, 10, .inl y9)), (aout, .inl (cL, 1, .inr (.inl fout)))]) [1, 2, 3, 4, 5, 6, 7, 8, 9, 10, 11, 12, 13, 0] rfl (by decide +kernel) ?_
      have h := Option.some.inj h
      simp only [Prod.mk.injEq] at h
      obtain ⟨rfl, rfl, rfl, rfl, rfl, rfl, rfl, rfl, rfl, rfl, rfl, rfl⟩ := h
      exact g_iret X hr hlk dL_bookOf_16 rfl rfl
    have h := if_f h hq
    by_cases hq2 : E = "java/lang/IllegalArgumentException"
    · subst hq2
      have h := if_t h rfl
      refine g_catch2 (hh := []) (y := (0, 10, 13, 21)) (x := (0, 10, 17, 13)) (F := "java/lang/IndexOutOfBoundsException") X Y (by decide +kernel) (by decide +kernel) (by decide +kernel) hT (by decide) (by decide) (by decide) hk_L_bookOf_13 hk_L_bookOf_21 (fun q => ?_)
      refine g_astore (lv' := [(4, .ref q), (0, .ref a0), (1, .int p1), (2, .int p2), (3, .ref aout)]) X dL_bookOf_17 (by decide) rfl ?_
      refine g_iconst (v := 2) X dL_bookOf_19 (by decide) ?_
      refine g_ws (ws' := [(a0, .inr (4, [.ref a1, .ref b0_1, .ref b0_2, .ref a6, .ref b0_4, .ref b0_5, .ref b0_6, .int x0_length, .int y0])), (a1, .inr (2, [.ref a2, .ref a3, .ref a4, .ref a5, .int x1_size])), (a2, .inl (cI, 10, .inl f2)), (a3, .inl (cI, 10, .inl f3)), (a4, .inl (cI, 10, .inl f4)), (a5, .inl (cI, 10, .inl f5)), (a6, .inr (1, [.ref a7, .ref a8, .ref a9, .ref a10, .ref a11, .ref a12, .ref b6_6, .int y1, .int y2, .int y3])), (a7, .inl (cI, 10, .inl y4)), (a8, .inl (cI, 10, .inl y5)), (a9, .inl (cI, 10, .inl y6)), (a10, .inl (cI, 10, .inl y7)), (a11, .inl (cI, 10, .inl y8)), (a12, .inl (cI, 10, .inl y9)), (aout, .inl (cL, 1, .inr (.inl fout)))]) [1, 2, 3, 4, 5, 6, 7, 8, 9, 10, 11, 12, 13, 0] rfl (by decide +kernel) ?_
      have h := Option.some.inj h
      simp only [Prod.mk.injEq] at h
      obtain ⟨rfl, rfl, rfl, rfl, rfl, rfl, rfl, rfl, rfl, rfl, rfl, rfl⟩ := h
      exact g_iret X hr hlk dL_bookOf_20 rfl rfl
    have h := if_f h hq2
    cases h
  · subst hv
    dsimp only at h
    rintro _ rfl
    refine g_ws (ws' := [(a0, .inr (4, [.ref a1, .ref b0_1, .ref b0_2, .ref a6, .ref b0_4, .ref b0_5, .ref b0_6, .int x0_length, .int y0])), (a1, .inr (2, [.ref a2, .ref a3, .ref a4, .ref a5, .int x1_size])), (a2, .inl (cI, 10, .inl f2)), (a3, .inl (cI, 10, .inl f3)), (a4, .inl (cI, 10, .inl f4)), (a5, .inl (cI, 10, .inl f5)), (a6, .inr (1, [.ref a7, .ref a8, .ref a9, .ref a10, .ref a11, .ref a12, .ref b6_6, .int y1, .int y2, .int y3])), (a7, .inl (cI, 10, .inl y4)), (a8, .inl (cI, 10, .inl y5)), (a9, .inl (cI, 10, .inl y6)), (a10, .inl (cI, 10, .inl y7)), (a11, .inl (cI, 10, .inl y8)), (a12, .inl (cI, 10, .inl y9)), (aout, .inl (cL, 1, .inr (.inl fout)))]) [1, 2, 3, 4, 5, 6, 7, 8, 9, 10, 11, 12, 13, 0] rfl (by decide +kernel) ?_
    refine g_i2l X dL_bookOf_8 ?_
    refine g_last (q0 := 13) (t0 := 2) (ws1 := fun g => [(a0, .inr (4, [.ref a1, .ref b0_1, .ref b0_2, .ref a6, .ref b0_4, .ref b0_5, .ref b0_6, .int x0_length, .int y0])), (a1, .inr (2, [.ref a2, .ref a3, .ref a4, .ref a5, .int x1_size])), (a2, .inl (cI, 10, .inl f2)), (a3, .inl (cI, 10, .inl f3)), (a4, .inl (cI, 10, .inl f4)), (a5, .inl (cI, 10, .inl f5)), (a6, .inr (1, [.ref a7, .ref a8, .ref a9, .ref a10, .ref a11, .ref a12, .ref b6_6, .int y1, .int y2, .int y3])), (a7, .inl (cI, 10, .inl y4)), (a8, .inl (cI, 10, .inl y5)), (a9, .inl (cI, 10, .inl y6)), (a10, .inl (cI, 10, .inl y7)), (a11, .inl (cI, 10, .inl y8)), (a12, .inl (cI, 10, .inl y9)), (aout, .inl (cL, 1, .inr (.inl g)))]) X h rfl rfl dL_bookOf_9 (fun _ => rfl) (fun g h => ?_)
    refine g_goto (tgt := 21) X dL_bookOf_10 (by decide) ?_
    refine g_iconst (v := 0) X dL_bookOf_21 (by decide) ?_
    have h := Option.some.inj h
    simp only [Prod.mk.injEq] at h
    obtain ⟨rfl, rfl, rfl, rfl, rfl, rfl, rfl, rfl, rfl, rfl, rfl, rfl⟩ := h
    exact g_iret X hr hlk dL_bookOf_22 rfl rfl
theorem hk_L_ahead_21 : Cond.classLink RL 21 "java/lang/IndexOutOfBoundsException" ∈ wsL_ahead := by decide +kernel
theorem hk_L_ahead_13 : Cond.classLink RL 13 "java/lang/IllegalArgumentException" ∈ wsL_ahead := by decide +kernel
def f_L_ahead (p1 : Int32) (p2 : Int32) (x1_size : Int32) (f2 : Nat → Int32) (f3 : Nat → Int32) (f4 : Nat → Int32) (f5 : Nat → Int32) (fout : Nat → Int64) : Option (Int32 × (Nat → Int64)) := (f_X4_ahead p1 p2 x1_size f2 f3 f4 f5).bind (u1 fun (rc : Int32 ⊕ String)  => match rc with | .inl v => (wrL fout 1 0 v.toInt64).bind (fun g => some (0, g)) | .inr E => if E = "java/lang/IndexOutOfBoundsException" then some (1, fout) else if E = "java/lang/IllegalArgumentException" then some (2, fout) else none)
theorem hd_L_ahead : yL_ahead.cls = RL ∧ yL_ahead.cls ≠ "java/lang/invoke/MethodHandle" ∧ yL_ahead.cls ≠ "java/lang/invoke/VarHandle" ∧ (parseMethodDescriptor yL_ahead.desc).map (fun d => d.parameters.length) = some 4 := by decide +kernel
set_option maxRecDepth 100000 in
set_option maxHeartbeats 8000000 in
theorem c_L_ahead (l : Launch) (hlt : l.stackTraces = false) (D : va_G) (cI cS cL : ClassId) (a0 : Nat) (a1 : Nat) (a2 : Nat) (a3 : Nat) (a4 : Nat) (a5 : Nat) (b0_1 : Nat) (b0_2 : Nat) (b0_3 : Nat) (b0_4 : Nat) (b0_5 : Nat) (b0_6 : Nat) (p1 : Int32) (p2 : Int32) (x0_length : Int32) (x0_isReadingOld : Int32) (x1_size : Int32) (f2 : Nat → Int32) (f3 : Nat → Int32) (f4 : Nat → Int32) (f5 : Nat → Int32) (aout : Nat) (fout : Nat → Int64) (rr : Int32)  (gout : Nat → Int64) (hc : f_L_ahead p1 p2 x1_size f2 f3 f4 f5 fout = some (rr, gout)) : KW l yL_ahead wsL_ahead { frames := 7, cells := 1, slots := 6, locals := 104 } D (tyS cI cS cL) [.ref a0, .int p1, .int p2, .ref aout] [(a0, .inr (4, [.ref a1, .ref b0_1, .ref b0_2, .ref b0_3, .ref b0_4, .ref b0_5, .ref b0_6, .int x0_length, .int x0_isReadingOld])), (a1, .inr (2, [.ref a2, .ref a3, .ref a4, .ref a5, .int x1_size])), (a2, .inl (cI, 10, .inl f2)), (a3, .inl (cI, 10, .inl f3)), (a4, .inl (cI, 10, .inl f4)), (a5, .inl (cI, 10, .inl f5)), (aout, .inl (cL, 1, .inr (.inl fout)))] rr (fun w => w = [(a0, .inr (4, [.ref a1, .ref b0_1, .ref b0_2, .ref b0_3, .ref b0_4, .ref b0_5, .ref b0_6, .int x0_length, .int x0_isReadingOld])), (a1, .inr (2, [.ref a2, .ref a3, .ref a4, .ref a5, .int x1_size])), (a2, .inl (cI, 10, .inl f2)), (a3, .inl (cI, 10, .inl f3)), (a4, .inl (cI, 10, .inl f4)), (a5, .inl (cI, 10, .inl f5)), (aout, .inl (cL, 1, .inr (.inl gout)))]) := by
  refine g_entryW (cc := cL_ahead) (nL := 5) (rt := (some .int)) (by decide) rfl (Nat.le_of_ble_eq_true rfl) ?_
  intro p e s m args below meth c A (X : GC p s m args c cL_ahead 5 RL wsL_ahead D (tyS cI cS cL) A) Y hT hr hlk
  have h := hc
  unfold f_L_ahead at h
  refine g_lv (lv' := [(0, .ref a0), (1, .int p1), (2, .int p2), (3, .ref aout)]) [0, 1, 2, 3] rfl ?_
  obtain ⟨rc, hc, h⟩ := bd1 h
  refine g_aload_n X (j := 3) dL_ahead_0 rfl ?_
  refine g_iconst (v := 0) X dL_ahead_1 (by decide) ?_
  refine g_aload_n X (j := 0) dL_ahead_2 rfl ?_
  refine g_iload_n X (j := 1) dL_ahead_3 rfl ?_
  refine g_iload_n X (j := 2) dL_ahead_4 rfl ?_
  refine g_callX (q0 := 0) (ci := 4) (n := 2) (is := [0, 1, 2, 3, 4, 5]) (isR := [6]) (wr := [(aout, .inl (cL, 1, .inr (.inl fout)))]) (As := [.int p1, .int p2]) (st := [.int 0, .ref aout]) (cells' := 1) (slots' := 6) X Y (c_X4_ahead l hlt D cI cS cL a0 a1 a2 a3 a4 a5 b0_1 b0_2 b0_3 b0_4 b0_5 b0_6 p1 p2 x0_length x0_isReadingOld x1_size f2 f3 f4 f5 rc  hc) gL_ahead_X4_ahead rfl ⟨rfl, rfl⟩ hd_X4_ahead (by exact ⟨Nat.le_of_ble_eq_true rfl, Nat.le_of_ble_eq_true rfl⟩) rfl rfl ⟨(Nat.le_of_ble_eq_true rfl), (Nat.le_of_ble_eq_true rfl)⟩ rfl rfl rfl (by decide +kernel) rfl rfl (by decide +kernel) rfl (Nat.le_of_ble_eq_true rfl) rfl dL_ahead_5 (fun E hE => ?_) (fun v hv => ?_)
  · subst hE
    dsimp only at h
    rintro _ rfl
    by_cases hq : E = "java/lang/IndexOutOfBoundsException"
    · subst hq
      have h := if_t h rfl
      refine g_catch1 (hh := [(0, 10, 17, 13)]) (x := (0, 10, 13, 21)) X Y (by decide +kernel) hT (by decide) (by decide) hk_L_ahead_21 (fun q => ?_)
      refine g_astore (lv' := [(4, .ref q), (0, .ref a0), (1, .int p1), (2, .int p2), (3, .ref aout)]) X dL_ahead_13 (by decide) rfl ?_
      refine g_iconst (v := 1) X dL_ahead_15 (by decide) ?_
      refine g_ws (ws' := [(a0, .inr (4, [.ref a1, .ref b0_1, .ref b0_2, .ref b0_3, .ref b0_4, .ref b0_5, .ref b0_6, .int x0_length, .int x0_isReadingOld])), (a1, .inr (2, [.ref a2, .ref a3, .ref a4, .ref a5, .int x1_size])), (a2, .inl (cI, 10, .inl f2)), (a3, .inl (cI, 10, .inl f3)), (a4, .inl (cI, 10, .inl f4)), (a5, .inl (cI, 10, .inl f5)), (aout, .inl (cL, 1, .inr (.inl fout)))]) [1, 2, 3, 4, 5, 6, 0] rfl (by decide +kernel) ?_
      have h := Option.some.inj h
      simp only [Prod.mk.injEq] at h
      obtain ⟨rfl, rfl⟩ := h
      exact g_iret X hr hlk dL_ahead_16 rfl rfl
    have h := if_f h hq
    by_cases hq2 : E = "java/lang/IllegalArgumentException"
    · subst hq2
      have h := if_t h rfl
      refine g_catch2 (hh := []) (y := (0, 10, 13, 21)) (x := (0, 10, 17, 13)) (F := "java/lang/IndexOutOfBoundsException") X Y (by decide +kernel) (by decide +kernel) (by decide +kernel) hT (by decide) (by decide) (by decide) hk_L_ahead_13 hk_L_ahead_21 (fun q => ?_)
      refine g_astore (lv' := [(4, .ref q), (0, .ref a0), (1, .int p1), (2, .int p2), (3, .ref aout)]) X dL_ahead_17 (by decide) rfl ?_
      refine g_iconst (v := 2) X dL_ahead_19 (by decide) ?_
      refine g_ws (ws' := [(a0, .inr (4, [.ref a1, .ref b0_1, .ref b0_2, .ref b0_3, .ref b0_4, .ref b0_5, .ref b0_6, .int x0_length, .int x0_isReadingOld])), (a1, .inr (2, [.ref a2, .ref a3, .ref a4, .ref a5, .int x1_size])), (a2, .inl (cI, 10, .inl f2)), (a3, .inl (cI, 10, .inl f3)), (a4, .inl (cI, 10, .inl f4)), (a5, .inl (cI, 10, .inl f5)), (aout, .inl (cL, 1, .inr (.inl fout)))]) [1, 2, 3, 4, 5, 6, 0] rfl (by decide +kernel) ?_
      have h := Option.some.inj h
      simp only [Prod.mk.injEq] at h
      obtain ⟨rfl, rfl⟩ := h
      exact g_iret X hr hlk dL_ahead_20 rfl rfl
    have h := if_f h hq2
    cases h
  · subst hv
    dsimp only at h
    rintro _ rfl
    refine g_ws (ws' := [(a0, .inr (4, [.ref a1, .ref b0_1, .ref b0_2, .ref b0_3, .ref b0_4, .ref b0_5, .ref b0_6, .int x0_length, .int x0_isReadingOld])), (a1, .inr (2, [.ref a2, .ref a3, .ref a4, .ref a5, .int x1_size])), (a2, .inl (cI, 10, .inl f2)), (a3, .inl (cI, 10, .inl f3)), (a4, .inl (cI, 10, .inl f4)), (a5, .inl (cI, 10, .inl f5)), (aout, .inl (cL, 1, .inr (.inl fout)))]) [1, 2, 3, 4, 5, 6, 0] rfl (by decide +kernel) ?_
    refine g_i2l X dL_ahead_8 ?_
    refine g_last (q0 := 6) (t0 := 2) (ws1 := fun g => [(a0, .inr (4, [.ref a1, .ref b0_1, .ref b0_2, .ref b0_3, .ref b0_4, .ref b0_5, .ref b0_6, .int x0_length, .int x0_isReadingOld])), (a1, .inr (2, [.ref a2, .ref a3, .ref a4, .ref a5, .int x1_size])), (a2, .inl (cI, 10, .inl f2)), (a3, .inl (cI, 10, .inl f3)), (a4, .inl (cI, 10, .inl f4)), (a5, .inl (cI, 10, .inl f5)), (aout, .inl (cL, 1, .inr (.inl g)))]) X h rfl rfl dL_ahead_9 (fun _ => rfl) (fun g h => ?_)
    refine g_goto (tgt := 21) X dL_ahead_10 (by decide) ?_
    refine g_iconst (v := 0) X dL_ahead_21 (by decide) ?_
    have h := Option.some.inj h
    simp only [Prod.mk.injEq] at h
    obtain ⟨rfl, rfl⟩ := h
    exact g_iret X hr hlk dL_ahead_22 rfl rfl
theorem hk_L_count_13 : Cond.classLink RL 13 "java/lang/IllegalArgumentException" ∈ wsL_count := by decide +kernel
def f_L_count (p1 : Int32) (x0_isReadingOld : Int32) (x1_size : Int32) (f2 : Nat → Int32) (f3 : Nat → Int32) (f4 : Nat → Int32) (f5 : Nat → Int32) (x6_size : Int32) (x7_areOrdersCounted : Int32) (x7_isAnyOrder : Int32) (x7_size : Int32) (f8 : Nat → Int32) (f9 : Nat → Int32) (f10 : Nat → Int32) (f11 : Nat → Int32) (f12 : Nat → Int32) (f13 : Nat → Int32) (f14 : Nat → Int32) (fout : Nat → Int64) : Option (Int32 × Int32 × Int32 × Int32 × Int32 × (Nat → Int32) × (Nat → Int32) × (Nat → Int32) × (Nat → Int32) × (Nat → Int32) × (Nat → Int32) × (Nat → Int32) × (Nat → Int64)) := (f_X4_count p1 x0_isReadingOld x1_size f2 f3 f4 f5 x6_size x7_areOrdersCounted x7_isAnyOrder x7_size f8 f9 f10 f11 f12 f13 f14).bind (u12 fun (rc : Int32 ⊕ String) (y0 : Int32) (y1 : Int32) (y2 : Int32) (y3 : Int32) (y4 : Nat → Int32) (y5 : Nat → Int32) (y6 : Nat → Int32) (y7 : Nat → Int32) (y8 : Nat → Int32) (y9 : Nat → Int32) (y10 : Nat → Int32) => match rc with | .inl v => (wrL fout 1 0 v.toInt64).bind (fun g => some (0, y0, y1, y2, y3, y4, y5, y6, y7, y8, y9, y10, g)) | .inr E => if E = "java/lang/IllegalArgumentException" then some (1, y0, y1, y2, y3, y4, y5, y6, y7, y8, y9, y10, fout) else none)
theorem hd_L_count : yL_count.cls = RL ∧ yL_count.cls ≠ "java/lang/invoke/MethodHandle" ∧ yL_count.cls ≠ "java/lang/invoke/VarHandle" ∧ (parseMethodDescriptor yL_count.desc).map (fun d => d.parameters.length) = some 3 := by decide +kernel
set_option maxRecDepth 100000 in
set_option maxHeartbeats 8000000 in
theorem c_L_count (l : Launch) (hlt : l.stackTraces = false) (D : va_G) (cI cS cL : ClassId) (a0 : Nat) (a1 : Nat) (a2 : Nat) (a3 : Nat) (a4 : Nat) (a5 : Nat) (a6 : Nat) (a7 : Nat) (a8 : Nat) (a9 : Nat) (a10 : Nat) (a11 : Nat) (a12 : Nat) (a13 : Nat) (a14 : Nat) (b0_1 : Nat) (b0_4 : Nat) (b0_5 : Nat) (b0_6 : Nat) (b6_0 : Nat) (p1 : Int32) (x0_length : Int32) (x0_isReadingOld : Int32) (x1_size : Int32) (f2 : Nat → Int32) (f3 : Nat → Int32) (f4 : Nat → Int32) (f5 : Nat → Int32) (x6_size : Int32) (x7_areOrdersCounted : Int32) (x7_isAnyOrder : Int32) (x7_size : Int32) (f8 : Nat → Int32) (f9 : Nat → Int32) (f10 : Nat → Int32) (f11 : Nat → Int32) (f12 : Nat → Int32) (f13 : Nat → Int32) (f14 : Nat → Int32) (aout : Nat) (fout : Nat → Int64) (rr : Int32) (z0 : Int32) (z1 : Int32) (z2 : Int32) (z3 : Int32) (z4 : Nat → Int32) (z5 : Nat → Int32) (z6 : Nat → Int32) (z7 : Nat → Int32) (z8 : Nat → Int32) (z9 : Nat → Int32) (z10 : Nat → Int32) (gout : Nat → Int64) (hc : f_L_count p1 x0_isReadingOld x1_size f2 f3 f4 f5 x6_size x7_areOrdersCounted x7_isAnyOrder x7_size f8 f9 f10 f11 f12 f13 f14 fout = some (rr, z0, z1, z2, z3, z4, z5, z6, z7, z8, z9, z10, gout)) : KW l yL_count wsL_count { frames := 7, cells := 1, slots := 6, locals := 130 } D (tyS cI cS cL) [.ref a0, .int p1, .ref aout] [(a0, .inr (4, [.ref a1, .ref b0_1, .ref a6, .ref a7, .ref b0_4, .ref b0_5, .ref b0_6, .int x0_length, .int x0_isReadingOld])), (a1, .inr (2, [.ref a2, .ref a3, .ref a4, .ref a5, .int x1_size])), (a2, .inl (cI, 10, .inl f2)), (a3, .inl (cI, 10, .inl f3)), (a4, .inl (cI, 10, .inl f4)), (a5, .inl (cI, 10, .inl f5)), (a6, .inr (0, [.ref b6_0, .int x6_size])), (a7, .inr (1, [.ref a8, .ref a9, .ref a10, .ref a11, .ref a12, .ref a13, .ref a14, .int x7_areOrdersCounted, .int x7_isAnyOrder, .int x7_size])), (a8, .inl (cI, 10, .inl f8)), (a9, .inl (cI, 10, .inl f9)), (a10, .inl (cI, 10, .inl f10)), (a11, .inl (cI, 10, .inl f11)), (a12, .inl (cI, 10, .inl f12)), (a13, .inl (cI, 10, .inl f13)), (a14, .inl (cI, 1024, .inl f14)), (aout, .inl (cL, 1, .inr (.inl fout)))] rr (fun w => w = [(a0, .inr (4, [.ref a1, .ref b0_1, .ref a6, .ref a7, .ref b0_4, .ref b0_5, .ref b0_6, .int x0_length, .int z0])), (a1, .inr (2, [.ref a2, .ref a3, .ref a4, .ref a5, .int x1_size])), (a2, .inl (cI, 10, .inl f2)), (a3, .inl (cI, 10, .inl f3)), (a4, .inl (cI, 10, .inl f4)), (a5, .inl (cI, 10, .inl f5)), (a6, .inr (0, [.ref b6_0, .int x6_size])), (a7, .inr (1, [.ref a8, .ref a9, .ref a10, .ref a11, .ref a12, .ref a13, .ref a14, .int z1, .int z2, .int z3])), (a8, .inl (cI, 10, .inl z4)), (a9, .inl (cI, 10, .inl z5)), (a10, .inl (cI, 10, .inl z6)), (a11, .inl (cI, 10, .inl z7)), (a12, .inl (cI, 10, .inl z8)), (a13, .inl (cI, 10, .inl z9)), (a14, .inl (cI, 1024, .inl z10)), (aout, .inl (cL, 1, .inr (.inl gout)))]) := by
  refine g_entryW (cc := cL_count) (nL := 4) (rt := (some .int)) (by decide) rfl (Nat.le_of_ble_eq_true rfl) ?_
  intro p e s m args below meth c A (X : GC p s m args c cL_count 4 RL wsL_count D (tyS cI cS cL) A) Y hT hr hlk
  have h := hc
  unfold f_L_count at h
  refine g_lv (lv' := [(0, .ref a0), (1, .int p1), (2, .ref aout)]) [0, 1, 2] rfl ?_
  obtain ⟨rc, y0, y1, y2, y3, y4, y5, y6, y7, y8, y9, y10, hc, h⟩ := bd12 h
  refine g_aload_n X (j := 2) dL_count_0 rfl ?_
  refine g_iconst (v := 0) X dL_count_1 (by decide) ?_
  refine g_aload_n X (j := 0) dL_count_2 rfl ?_
  refine g_iload_n X (j := 1) dL_count_3 rfl ?_
  refine g_callX (q0 := 0) (ci := 4) (n := 1) (is := [0, 1, 2, 3, 4, 5, 6, 7, 8, 9, 10, 11, 12, 13, 14]) (isR := [15]) (wr := [(aout, .inl (cL, 1, .inr (.inl fout)))]) (As := [.int p1]) (st := [.int 0, .ref aout]) (cells' := 1) (slots' := 6) X Y (c_X4_count l hlt D cI cS cL a0 a1 a2 a3 a4 a5 a6 a7 a8 a9 a10 a11 a12 a13 a14 b0_1 b0_4 b0_5 b0_6 b6_0 p1 x0_length x0_isReadingOld x1_size f2 f3 f4 f5 x6_size x7_areOrdersCounted x7_isAnyOrder x7_size f8 f9 f10 f11 f12 f13 f14 rc y0 y1 y2 y3 y4 y5 y6 y7 y8 y9 y10 hc) gL_count_X4_count rfl ⟨rfl, rfl⟩ hd_X4_count (by exact ⟨Nat.le_of_ble_eq_true rfl, Nat.le_of_ble_eq_true rfl⟩) rfl rfl ⟨(Nat.le_of_ble_eq_true rfl), (Nat.le_of_ble_eq_true rfl)⟩ rfl rfl rfl (by decide +kernel) rfl rfl (by decide +kernel) rfl (Nat.le_of_ble_eq_true rfl) rfl dL_count_4 (fun E hE => ?_) (fun v hv => ?_)
  · subst hE
    dsimp only at h
    rintro _ rfl
    by_cases hq : E = "java/lang/IllegalArgumentException"
    · subst hq
      have h := if_t h rfl
      refine g_catch1 (hh := []) (x := (0, 9, 12, 13)) X Y (by decide +kernel) hT (by decide) (by decide) hk_L_count_13 (fun q => ?_)
      refine g_astore_n (lv' := [(3, .ref q), (0, .ref a0), (1, .int p1), (2, .ref aout)]) X dL_count_12 rfl (by decide) rfl ?_
      refine g_iconst (v := 1) X dL_count_13 (by decide) ?_
      refine g_ws (ws' := [(a0, .inr (4, [.ref a1, .ref b0_1, .ref a6, .ref a7, .ref b0_4, .ref b0_5, .ref b0_6, .int x0_length, .int y0])), (a1, .inr (2, [.ref a2, .ref a3, .ref a4, .ref a5, .int x1_size])), (a2, .inl (cI, 10, .inl f2)), (a3, .inl (cI, 10, .inl f3)), (a4, .inl (cI, 10, .inl f4)), (a5, .inl (cI, 10, .inl f5)), (a6, .inr (0, [.ref b6_0, .int x6_size])), (a7, .inr (1, [.ref a8, .ref a9, .ref a10, .ref a11, .ref a12, .ref a13, .ref a14, .int y1, .int y2, .int y3])), (a8, .inl (cI, 10, .inl y4)), (a9, .inl (cI, 10, .inl y5)), (a10, .inl (cI, 10, .inl y6)), (a11, .inl (cI, 10, .inl y7)), (a12, .inl (cI, 10, .inl y8)), (a13, .inl (cI, 10, .inl y9)), (a14, .inl (cI, 1024, .inl y10)), (aout, .inl (cL, 1, .inr (.inl fout)))]) [1, 2, 3, 4, 5, 6, 7, 8, 9, 10, 11, 12, 13, 14, 15, 0] rfl (by decide +kernel) ?_
      have h := Option.some.inj h
      simp only [Prod.mk.injEq] at h
      obtain ⟨rfl, rfl, rfl, rfl, rfl, rfl, rfl, rfl, rfl, rfl, rfl, rfl, rfl⟩ := h
      exact g_iret X hr hlk dL_count_14 rfl rfl
    have h := if_f h hq
    cases h
  · subst hv
    dsimp only at h
    rintro _ rfl
    refine g_ws (ws' := [(a0, .inr (4, [.ref a1, .ref b0_1, .ref a6, .ref a7, .ref b0_4, .ref b0_5, .ref b0_6, .int x0_length, .int y0])), (a1, .inr (2, [.ref a2, .ref a3, .ref a4, .ref a5, .int x1_size])), (a2, .inl (cI, 10, .inl f2)), (a3, .inl (cI, 10, .inl f3)), (a4, .inl (cI, 10, .inl f4)), (a5, .inl (cI, 10, .inl f5)), (a6, .inr (0, [.ref b6_0, .int x6_size])), (a7, .inr (1, [.ref a8, .ref a9, .ref a10, .ref a11, .ref a12, .ref a13, .ref a14, .int y1, .int y2, .int y3])), (a8, .inl (cI, 10, .inl y4)), (a9, .inl (cI, 10, .inl y5)), (a10, .inl (cI, 10, .inl y6)), (a11, .inl (cI, 10, .inl y7)), (a12, .inl (cI, 10, .inl y8)), (a13, .inl (cI, 10, .inl y9)), (a14, .inl (cI, 1024, .inl y10)), (aout, .inl (cL, 1, .inr (.inl fout)))]) [1, 2, 3, 4, 5, 6, 7, 8, 9, 10, 11, 12, 13, 14, 15, 0] rfl (by decide +kernel) ?_
    refine g_i2l X dL_count_7 ?_
    refine g_last (q0 := 15) (t0 := 2) (ws1 := fun g => [(a0, .inr (4, [.ref a1, .ref b0_1, .ref a6, .ref a7, .ref b0_4, .ref b0_5, .ref b0_6, .int x0_length, .int y0])), (a1, .inr (2, [.ref a2, .ref a3, .ref a4, .ref a5, .int x1_size])), (a2, .inl (cI, 10, .inl f2)), (a3, .inl (cI, 10, .inl f3)), (a4, .inl (cI, 10, .inl f4)), (a5, .inl (cI, 10, .inl f5)), (a6, .inr (0, [.ref b6_0, .int x6_size])), (a7, .inr (1, [.ref a8, .ref a9, .ref a10, .ref a11, .ref a12, .ref a13, .ref a14, .int y1, .int y2, .int y3])), (a8, .inl (cI, 10, .inl y4)), (a9, .inl (cI, 10, .inl y5)), (a10, .inl (cI, 10, .inl y6)), (a11, .inl (cI, 10, .inl y7)), (a12, .inl (cI, 10, .inl y8)), (a13, .inl (cI, 10, .inl y9)), (a14, .inl (cI, 1024, .inl y10)), (aout, .inl (cL, 1, .inr (.inl g)))]) X h rfl rfl dL_count_8 (fun _ => rfl) (fun g h => ?_)
    refine g_goto (tgt := 15) X dL_count_9 (by decide) ?_
    refine g_iconst (v := 0) X dL_count_15 (by decide) ?_
    have h := Option.some.inj h
    simp only [Prod.mk.injEq] at h
    obtain ⟨rfl, rfl, rfl, rfl, rfl, rfl, rfl, rfl, rfl, rfl, rfl, rfl, rfl⟩ := h
    exact g_iret X hr hlk dL_count_16 rfl rfl
