set_option maxRecDepth 20000 in
theorem ggX3_readToError_X2_clear : GoodIn wsX3_readToError wsX2_clear := goodIn_r _ [8, 9, 80, 81, 82, 83, 84] (by decide +kernel) (by decide +kernel)
set_option maxRecDepth 20000 in
theorem gX3_readToError_X2_clear : GoodIn wsX3_readToError (wsV RX3 25 RX2 yX2_clear wsX2_clear) := goodIn_app (goodIn_of _ (by decide +kernel)) ggX3_readToError_X2_clear
set_option maxRecDepth 20000 in
theorem ggX3_readToError_X3_accepts : GoodIn wsX3_readToError wsX3_accepts := goodIn_r _ [14, 3, 15, 16, 17, 13, 18, 2, 19, 20, 21, 22, 23, 24, 25, 26, 27, 28, 29, 30, 31, 32, 33, 34, 35, 36, 37, 38, 39, 40, 41, 42, 43, 44, 45, 46, 47, 48, 49, 50, 51, 52, 53, 54, 55, 1, 56, 57, 58, 7, 59, 9, 60, 61, 62, 63, 64, 65, 66, 67, 68, 69, 70, 71, 72, 73, 74, 75, 76, 77, 78, 79, 80, 81, 82, 83, 84] (by decide +kernel) (by decide +kernel)
set_option maxRecDepth 20000 in
theorem gX3_readToError_X3_accepts : GoodIn wsX3_readToError (wsV RX3 28 RX3 yX3_accepts wsX3_accepts) := goodIn_app (goodIn_of _ (by decide +kernel)) ggX3_readToError_X3_accepts
theorem dX3_readToError_0 : decode cX3_readToError 0 = .ok (.aload_n 0, 1) := by decide +kernel
theorem dX3_readToError_1 : decode cX3_readToError 1 = .ok (.getfield 12, 3) := by decide +kernel
theorem dX3_readToError_4 : decode cX3_readToError 4 = .ok (.invokevirtual 25, 3) := by decide +kernel
theorem dX3_readToError_7 : decode cX3_readToError 7 = .ok (.aload_n 0, 1) := by decide +kernel
theorem dX3_readToError_8 : decode cX3_readToError 8 = .ok (.iconst 0, 1) := by decide +kernel
theorem dX3_readToError_9 : decode cX3_readToError 9 = .ok (.putfield 18, 3) := by decide +kernel
theorem dX3_readToError_12 : decode cX3_readToError 12 = .ok (.aload_n 0, 1) := by decide +kernel
theorem dX3_readToError_13 : decode cX3_readToError 13 = .ok (.iconst 0, 1) := by decide +kernel
theorem dX3_readToError_14 : decode cX3_readToError 14 = .ok (.putfield 22, 3) := by decide +kernel
theorem dX3_readToError_17 : decode cX3_readToError 17 = .ok (.iconst 0, 1) := by decide +kernel
theorem dX3_readToError_18 : decode cX3_readToError 18 = .ok (.istore_n 3, 1) := by decide +kernel
theorem dX3_readToError_19 : decode cX3_readToError 19 = .ok (.iload_n 3, 1) := by decide +kernel
theorem dX3_readToError_20 : decode cX3_readToError 20 = .ok (.iload_n 2, 1) := by decide +kernel
theorem dX3_readToError_21 : decode cX3_readToError 21 = .ok (.if_icmp .ge 27, 3) := by decide +kernel
theorem dX3_readToError_24 : decode cX3_readToError 24 = .ok (.iload_n 3, 1) := by decide +kernel
theorem dX3_readToError_25 : decode cX3_readToError 25 = .ok (.aload_n 1, 1) := by decide +kernel
theorem dX3_readToError_26 : decode cX3_readToError 26 = .ok (.arraylength, 1) := by decide +kernel
theorem dX3_readToError_27 : decode cX3_readToError 27 = .ok (.if_icmp .ge 21, 3) := by decide +kernel
theorem dX3_readToError_30 : decode cX3_readToError 30 = .ok (.aload_n 0, 1) := by decide +kernel
theorem dX3_readToError_31 : decode cX3_readToError 31 = .ok (.aload_n 1, 1) := by decide +kernel
theorem dX3_readToError_32 : decode cX3_readToError 32 = .ok (.iload_n 3, 1) := by decide +kernel
theorem dX3_readToError_33 : decode cX3_readToError 33 = .ok (.iaload, 1) := by decide +kernel
theorem dX3_readToError_34 : decode cX3_readToError 34 = .ok (.invokevirtual 28, 3) := by decide +kernel
theorem dX3_readToError_37 : decode cX3_readToError 37 = .ok (.ifCond .ne 5, 3) := by decide +kernel
theorem dX3_readToError_40 : decode cX3_readToError 40 = .ok (.iload_n 3, 1) := by decide +kernel
theorem dX3_readToError_41 : decode cX3_readToError 41 = .ok (.ireturn, 1) := by decide +kernel
theorem dX3_readToError_42 : decode cX3_readToError 42 = .ok (.iinc 3 1, 3) := by decide +kernel
theorem dX3_readToError_45 : decode cX3_readToError 45 = .ok (.goto (-26), 3) := by decide +kernel
theorem dX3_readToError_48 : decode cX3_readToError 48 = .ok (.iload_n 2, 1) := by decide +kernel
theorem dX3_readToError_49 : decode cX3_readToError 49 = .ok (.ireturn, 1) := by decide +kernel
theorem dX3_isComplete_0 : decode cX3_isComplete 0 = .ok (.aload_n 0, 1) := by decide +kernel
theorem dX3_isComplete_1 : decode cX3_isComplete 1 = .ok (.getfield 22, 3) := by decide +kernel
theorem dX3_isComplete_4 : decode cX3_isComplete 4 = .ok (.iconst 2, 1) := by decide +kernel
theorem dX3_isComplete_5 : decode cX3_isComplete 5 = .ok (.if_icmp .eq 37, 3) := by decide +kernel
theorem dX3_isComplete_8 : decode cX3_isComplete 8 = .ok (.aload_n 0, 1) := by decide +kernel
theorem dX3_isComplete_9 : decode cX3_isComplete 9 = .ok (.getfield 22, 3) := by decide +kernel
theorem dX3_isComplete_12 : decode cX3_isComplete 12 = .ok (.iconst 3, 1) := by decide +kernel
theorem dX3_isComplete_13 : decode cX3_isComplete 13 = .ok (.if_icmp .eq 29, 3) := by decide +kernel
theorem dX3_isComplete_16 : decode cX3_isComplete 16 = .ok (.aload_n 0, 1) := by decide +kernel
theorem dX3_isComplete_17 : decode cX3_isComplete 17 = .ok (.getfield 22, 3) := by decide +kernel
theorem dX3_isComplete_20 : decode cX3_isComplete 20 = .ok (.iconst 5, 1) := by decide +kernel
theorem dX3_isComplete_21 : decode cX3_isComplete 21 = .ok (.if_icmp .eq 21, 3) := by decide +kernel
theorem dX3_isComplete_24 : decode cX3_isComplete 24 = .ok (.aload_n 0, 1) := by decide +kernel
theorem dX3_isComplete_25 : decode cX3_isComplete 25 = .ok (.getfield 22, 3) := by decide +kernel
theorem dX3_isComplete_28 : decode cX3_isComplete 28 = .ok (.bipush 6, 2) := by decide +kernel
theorem dX3_isComplete_30 : decode cX3_isComplete 30 = .ok (.if_icmp .eq 12, 3) := by decide +kernel
theorem dX3_isComplete_33 : decode cX3_isComplete 33 = .ok (.aload_n 0, 1) := by decide +kernel
theorem dX3_isComplete_34 : decode cX3_isComplete 34 = .ok (.getfield 22, 3) := by decide +kernel
theorem dX3_isComplete_37 : decode cX3_isComplete 37 = .ok (.bipush 8, 2) := by decide +kernel
theorem dX3_isComplete_39 : decode cX3_isComplete 39 = .ok (.if_icmp .ne 7, 3) := by decide +kernel
theorem dX3_isComplete_42 : decode cX3_isComplete 42 = .ok (.iconst 1, 1) := by decide +kernel
theorem dX3_isComplete_43 : decode cX3_isComplete 43 = .ok (.goto 4, 3) := by decide +kernel
theorem dX3_isComplete_46 : decode cX3_isComplete 46 = .ok (.iconst 0, 1) := by decide +kernel
theorem dX3_isComplete_47 : decode cX3_isComplete 47 = .ok (.ireturn, 1) := by decide +kernel
def f_X3_readToError (p2 : Int32) (x0_parts : Int32) (x0_state : Int32) (x0_press : Int32) (x0_letters : Int32) (x0_mould : Int32) (x0_year : Int32) (x0_yearScale : Int32) (x1_size : Int32) (f2 : Nat → Int32) (f3 : Nat → Int32) (f4 : Nat → Int32) (f5 : Nat → Int32) (n6 : Nat) (f6 : Nat → Int32) : Option (Int32 × Int32 × Int32 × Int32 × Int32 × Int32 × Int32 × Int32 × Int32 × (Nat → Int32) × (Nat → Int32) × (Nat → Int32) × (Nat → Int32)) := (f_X2_clear x1_size).bind (u1 fun (o2 : Int32) => (wl (u13 fun (l3_3 : Int32) (w4 : Int32) (w5 : Int32) (w6 : Int32) (w7 : Int32) (w8 : Int32) (w9 : Int32) (w10 : Int32) (w11 : Int32) (w12 : Nat → Int32) (w13 : Nat → Int32) (w14 : Nat → Int32) (w15 : Nat → Int32) => (if p2 ≤ l3_3 then some (Sum.inr (Sum.inr (w4, w5, w6, w7, w8, w9, w10, w11, w12, w13, w14, w15))) else (if (Int32.ofNat n6) ≤ l3_3 then some (Sum.inr (Sum.inr (w4, w5, w6, w7, w8, w9, w10, w11, w12, w13, w14, w15))) else (rdA f6 n6 l3_3).bind (fun v41 => (f_X3_accepts v41 w6 w8 w7 w4 w5 w9 w10 w11 w12 w13 w14 w15).bind (u13 fun (r42 : Int32) (o43 : Int32) (o44 : Int32) (o45 : Int32) (o46 : Int32) (o47 : Int32) (o48 : Int32) (o49 : Int32) (o50 : Int32) (o51 : Nat → Int32) (o52 : Nat → Int32) (o53 : Nat → Int32) (o54 : Nat → Int32) => (if r42 = 0 then some (Sum.inr (Sum.inl (l3_3, o46, o47, o43, o45, o44, o48, o49, o50, o51, o52, o53, o54))) else some (Sum.inl ((l3_3 + 1), o46, o47, o43, o45, o44, o48, o49, o50, o51, o52, o53, o54)))))))) 9999 (0, x0_letters, x0_mould, 0, x0_press, 0, x0_year, x0_yearScale, o2, f2, f3, f4, f5)).bind (Sum.elim (u13 fun (l3_16 : Int32) (w17 : Int32) (w18 : Int32) (w19 : Int32) (w20 : Int32) (w21 : Int32) (w22 : Int32) (w23 : Int32) (w24 : Int32) (w25 : Nat → Int32) (w26 : Nat → Int32) (w27 : Nat → Int32) (w28 : Nat → Int32) => some (l3_16, w19, w21, w20, w17, w18, w22, w23, w24, w25, w26, w27, w28)) (u12 fun (w29 : Int32) (w30 : Int32) (w31 : Int32) (w32 : Int32) (w33 : Int32) (w34 : Int32) (w35 : Int32) (w36 : Int32) (w37 : Nat → Int32) (w38 : Nat → Int32) (w39 : Nat → Int32) (w40 : Nat → Int32) => some (p2, w31, w33, w32, w29, w30, w34, w35, w36, w37, w38, w39, w40))))
theorem in_X3_readToError_X3 : ∀ w ∈ wsX30, w ∈ wsX3_readToError := by decide +kernel
theorem fl_X3_readToError_12 : Cond.fieldLink RX3 12 "ColophonHunt$TextReader" "found" "LColophonHunt$Shelf;" ∈ wsX3_readToError := by decide +kernel
theorem fl_X3_readToError_18 : Cond.fieldLink RX3 18 "ColophonHunt$TextReader" "parts" "I" ∈ wsX3_readToError := by decide +kernel
theorem fl_X3_readToError_22 : Cond.fieldLink RX3 22 "ColophonHunt$TextReader" "state" "I" ∈ wsX3_readToError := by decide +kernel
theorem hd_X3_readToError : yX3_readToError.cls = RX3 ∧ yX3_readToError.cls ≠ "java/lang/invoke/MethodHandle" ∧ yX3_readToError.cls ≠ "java/lang/invoke/VarHandle" ∧ (parseMethodDescriptor yX3_readToError.desc).map (fun d => d.parameters.length) = some 2 := by decide +kernel
set_option maxRecDepth 100000 in
set_option maxHeartbeats 4000000 in
theorem c_X3_readToError (l : Launch) (D : va_G) (cI cS cL : ClassId) (a0 : Nat) (a1 : Nat) (a2 : Nat) (a3 : Nat) (a4 : Nat) (a5 : Nat) (a6 : Nat) (p2 : Int32) (x0_parts : Int32) (x0_state : Int32) (x0_press : Int32) (x0_letters : Int32) (x0_mould : Int32) (x0_year : Int32) (x0_yearScale : Int32) (x1_size : Int32) (f2 : Nat → Int32) (f3 : Nat → Int32) (f4 : Nat → Int32) (f5 : Nat → Int32) (n6 : Nat) (f6 : Nat → Int32) (rr : Int32) (y0 : Int32) (y1 : Int32) (y2 : Int32) (y3 : Int32) (y4 : Int32) (y5 : Int32) (y6 : Int32) (y7 : Int32) (y8 : Nat → Int32) (y9 : Nat → Int32) (y10 : Nat → Int32) (y11 : Nat → Int32) (hc : f_X3_readToError p2 x0_parts x0_state x0_press x0_letters x0_mould x0_year x0_yearScale x1_size f2 f3 f4 f5 n6 f6 = some (rr, y0, y1, y2, y3, y4, y5, y6, y7, y8, y9, y10, y11)) : KM l yX3_readToError wsX3_readToError { frames := 5, cells := 0, slots := 0, locals := 107 } D (tyS cI cS cL) [.ref a0, .ref a6, .int p2] [(a0, .inr (3, [.ref a1, .int x0_parts, .int x0_state, .int x0_press, .int x0_letters, .int x0_mould, .int x0_year, .int x0_yearScale])), (a1, .inr (2, [.ref a2, .ref a3, .ref a4, .ref a5, .int x1_size])), (a2, .inl (cI, 10, .inl f2)), (a3, .inl (cI, 10, .inl f3)), (a4, .inl (cI, 10, .inl f4)), (a5, .inl (cI, 10, .inl f5)), (a6, .inl (cI, n6, .inl f6))] (some (.int rr)) (fun w => w = [(a0, .inr (3, [.ref a1, .int y0, .int y1, .int y2, .int y3, .int y4, .int y5, .int y6])), (a1, .inr (2, [.ref a2, .ref a3, .ref a4, .ref a5, .int y7])), (a2, .inl (cI, 10, .inl y8)), (a3, .inl (cI, 10, .inl y9)), (a4, .inl (cI, 10, .inl y10)), (a5, .inl (cI, 10, .inl y11)), (a6, .inl (cI, n6, .inl f6))]) 0 0 := by
  refine g_entry (cc := cX3_readToError) (nL := 4) (rt := (some .int)) (by decide) rfl (Nat.le_of_ble_eq_true rfl) ?_
  intro p e s m args below meth c A (X : GC p s m args c cX3_readToError 4 RX3 wsX3_readToError D (tyS cI cS cL) A) hr hlk _ _
  have h := hc
  unfold f_X3_readToError at h
  refine g_lv (lv' := [(0, .ref a0), (1, .ref a6), (2, .int p2)]) [0, 1, 2] rfl ?_
  refine g_aload_n X (j := 0) dX3_readToError_0 rfl ?_
  refine g_get (q0 := 0) (k := 0) (ci := 3) X in_X3_readToError_X3 fl_X3_readToError_12 rfl rfl (Nat.le_of_ble_eq_true rfl) rfl dX3_readToError_1 ?_
  obtain ⟨o2, hc, h⟩ := bd1 h
  refine g_callV (q0 := 1) (ci := 2) (is := [1]) (As := []) (ws' := [(a0, .inr (3, [.ref a1, .int x0_parts, .int x0_state, .int x0_press, .int x0_letters, .int x0_mould, .int x0_year, .int x0_yearScale])), (a1, .inr (2, [.ref a2, .ref a3, .ref a4, .ref a5, .int o2])), (a2, .inl (cI, 10, .inl f2)), (a3, .inl (cI, 10, .inl f3)), (a4, .inl (cI, 10, .inl f4)), (a5, .inl (cI, 10, .inl f5)), (a6, .inl (cI, n6, .inl f6))]) (st := []) X (c_X2_clear l D cI cS cL a1 a2 a3 a4 a5 x1_size o2 hc) gX3_readToError_X2_clear rfl ⟨rfl, rfl⟩ hd_X2_clear ⟨Nat.le_of_ble_eq_true rfl, Nat.le_of_ble_eq_true rfl⟩ ⟨Nat.zero_le _, Nat.zero_le _⟩ rfl rfl rfl rfl rfl rfl rfl (Nat.le_of_ble_eq_true rfl) rfl dX3_readToError_4 ?_
  refine g_aload_n X (j := 0) dX3_readToError_7 rfl ?_
  refine g_iconst (v := 0) X dX3_readToError_8 (by decide) ?_
  refine g_put (q0 := 0) (k := 1) (ci := 3) (ws' := [(a0, .inr (3, [.ref a1, .int 0, .int x0_state, .int x0_press, .int x0_letters, .int x0_mould, .int x0_year, .int x0_yearScale])), (a1, .inr (2, [.ref a2, .ref a3, .ref a4, .ref a5, .int o2])), (a2, .inl (cI, 10, .inl f2)), (a3, .inl (cI, 10, .inl f3)), (a4, .inl (cI, 10, .inl f4)), (a5, .inl (cI, 10, .inl f5)), (a6, .inl (cI, n6, .inl f6))]) X tyX3_ok nmX3 in_X3_readToError_X3 fl_X3_readToError_18 rfl rfl (Nat.le_of_ble_eq_true rfl) rfl rfl rfl (Nat.le_of_ble_eq_true rfl) dX3_readToError_9 rfl ?_
  refine g_aload_n X (j := 0) dX3_readToError_12 rfl ?_
  refine g_iconst (v := 0) X dX3_readToError_13 (by decide) ?_
  refine g_put (q0 := 0) (k := 2) (ci := 3) (ws' := [(a0, .inr (3, [.ref a1, .int 0, .int 0, .int x0_press, .int x0_letters, .int x0_mould, .int x0_year, .int x0_yearScale])), (a1, .inr (2, [.ref a2, .ref a3, .ref a4, .ref a5, .int o2])), (a2, .inl (cI, 10, .inl f2)), (a3, .inl (cI, 10, .inl f3)), (a4, .inl (cI, 10, .inl f4)), (a5, .inl (cI, 10, .inl f5)), (a6, .inl (cI, n6, .inl f6))]) X tyX3_ok nmX3 in_X3_readToError_X3 fl_X3_readToError_22 rfl rfl (Nat.le_of_ble_eq_true rfl) rfl rfl rfl (Nat.le_of_ble_eq_true rfl) dX3_readToError_14 rfl ?_
  refine g_iconst (v := 0) X dX3_readToError_17 (by decide) ?_
  refine g_istore_n (lv' := [(3, .int 0), (0, .ref a0), (1, .ref a6), (2, .int p2)]) X dX3_readToError_18 rfl (by decide) rfl ?_
  refine g_lv (lv' := [(0, .ref a0), (1, .ref a6), (2, .int p2), (3, .int 0)]) [1, 2, 3, 0] rfl ?_
  refine wl_g2 h (u13 fun l3_3 w4 w5 w6 w7 w8 w9 w10 w11 w12 w13 w14 w15 => [(a0, .inr (3, [.ref a1, .int w6, .int w8, .int w7, .int w4, .int w5, .int w9, .int w10])), (a1, .inr (2, [.ref a2, .ref a3, .ref a4, .ref a5, .int w11])), (a2, .inl (cI, 10, .inl w12)), (a3, .inl (cI, 10, .inl w13)), (a4, .inl (cI, 10, .inl w14)), (a5, .inl (cI, 10, .inl w15)), (a6, .inl (cI, n6, .inl f6))]) (u13 fun l3_3 w4 w5 w6 w7 w8 w9 w10 w11 w12 w13 w14 w15 => [(0, .ref a0), (1, .ref a6), (2, .int p2), (3, .int l3_3)]) rfl rfl (u13 fun l3_16 w17 w18 w19 w20 w21 w22 w23 w24 w25 w26 w27 w28 => [(a0, .inr (3, [.ref a1, .int w19, .int w21, .int w20, .int w17, .int w18, .int w22, .int w23])), (a1, .inr (2, [.ref a2, .ref a3, .ref a4, .ref a5, .int w24])), (a2, .inl (cI, 10, .inl w25)), (a3, .inl (cI, 10, .inl w26)), (a4, .inl (cI, 10, .inl w27)), (a5, .inl (cI, 10, .inl w28)), (a6, .inl (cI, n6, .inl f6))]) (u13 fun l3_16 w17 w18 w19 w20 w21 w22 w23 w24 w25 w26 w27 w28 => [(3, .int l3_16)]) 40 (u12 fun w29 w30 w31 w32 w33 w34 w35 w36 w37 w38 w39 w40 => [(a0, .inr (3, [.ref a1, .int w31, .int w33, .int w32, .int w29, .int w30, .int w34, .int w35])), (a1, .inr (2, [.ref a2, .ref a3, .ref a4, .ref a5, .int w36])), (a2, .inl (cI, 10, .inl w37)), (a3, .inl (cI, 10, .inl w38)), (a4, .inl (cI, 10, .inl w39)), (a5, .inl (cI, 10, .inl w40)), (a6, .inl (cI, n6, .inl f6))]) (u12 fun w29 w30 w31 w32 w33 w34 w35 w36 w37 w38 w39 w40 => [(2, .int p2)]) 48 ?_ ?_ ?_
  · rintro ⟨l3_16, w17, w18, w19, w20, w21, w22, w23, w24, w25, w26, w27, w28⟩ h
    dsimp only [u13] at h ⊢
    refine g_iload_n X (j := 0) dX3_readToError_40 rfl ?_
    have h := Option.some.inj h
    simp only [Prod.mk.injEq] at h
    obtain ⟨rfl, rfl, rfl, rfl, rfl, rfl, rfl, rfl, rfl, rfl, rfl, rfl, rfl⟩ := h
    exact g_iret X hr hlk dX3_readToError_41 rfl rfl
  · rintro ⟨w29, w30, w31, w32, w33, w34, w35, w36, w37, w38, w39, w40⟩ h
    dsimp only [u12] at h ⊢
    refine g_iload_n X (j := 0) dX3_readToError_48 rfl ?_
    have h := Option.some.inj h
    simp only [Prod.mk.injEq] at h
    obtain ⟨rfl, rfl, rfl, rfl, rfl, rfl, rfl, rfl, rfl, rfl, rfl, rfl, rfl⟩ := h
    exact g_iret X hr hlk dX3_readToError_49 rfl rfl
  · rintro ⟨l3_3, w4, w5, w6, w7, w8, w9, w10, w11, w12, w13, w14, w15⟩ o h hI hE hF
    dsimp only [u13] at h ⊢
    refine g_iload_n X (j := 3) dX3_readToError_19 rfl ?_
    refine g_iload_n X (j := 2) dX3_readToError_20 rfl ?_
    refine g_icmp_ge (tgt := 48) X h dX3_readToError_21 (by decide) (fun h => ?_) (fun h => ?_)
    · refine g_lv (lv' := [(2, .int p2)]) [2] rfl ?_
      exact hF (w4, w5, w6, w7, w8, w9, w10, w11, w12, w13, w14, w15) (Option.some.inj h).symm
    · refine g_iload_n X (j := 3) dX3_readToError_24 rfl ?_
      refine g_aload_n X (j := 1) dX3_readToError_25 rfl ?_
      refine g_alen (q0 := 6) (t0 := 0) X rfl rfl dX3_readToError_26 ?_
      refine g_icmp_ge (tgt := 48) X h dX3_readToError_27 (by decide) (fun h => ?_) (fun h => ?_)
      · refine g_lv (lv' := [(2, .int p2)]) [2] rfl ?_
        exact hF (w4, w5, w6, w7, w8, w9, w10, w11, w12, w13, w14, w15) (Option.some.inj h).symm
      · refine g_aload_n X (j := 0) dX3_readToError_30 rfl ?_
        refine g_aload_n X (j := 1) dX3_readToError_31 rfl ?_
        refine g_iload_n X (j := 3) dX3_readToError_32 rfl ?_
        refine g_iald (q0 := 6) (t0 := 0) X h rfl rfl dX3_readToError_33 (fun v41 h => ?_)
        obtain ⟨r42, o43, o44, o45, o46, o47, o48, o49, o50, o51, o52, o53, o54, hc, h⟩ := bd13 h
        refine g_callV (q0 := 0) (ci := 3) (is := [0, 1, 2, 3, 4, 5]) (As := [.int v41]) (ws' := [(a0, .inr (3, [.ref a1, .int o43, .int o44, .int o45, .int o46, .int o47, .int o48, .int o49])), (a1, .inr (2, [.ref a2, .ref a3, .ref a4, .ref a5, .int o50])), (a2, .inl (cI, 10, .inl o51)), (a3, .inl (cI, 10, .inl o52)), (a4, .inl (cI, 10, .inl o53)), (a5, .inl (cI, 10, .inl o54)), (a6, .inl (cI, n6, .inl f6))]) (st := []) X (c_X3_accepts l D cI cS cL a0 a1 a2 a3 a4 a5 v41 w6 w8 w7 w4 w5 w9 w10 w11 w12 w13 w14 w15 r42 o43 o44 o45 o46 o47 o48 o49 o50 o51 o52 o53 o54 hc) gX3_readToError_X3_accepts rfl ⟨rfl, rfl⟩ hd_X3_accepts ⟨Nat.le_of_ble_eq_true rfl, Nat.le_of_ble_eq_true rfl⟩ ⟨Nat.zero_le _, Nat.zero_le _⟩ rfl rfl rfl rfl rfl rfl rfl (Nat.le_of_ble_eq_true rfl) rfl dX3_readToError_34 ?_
        refine g_if_ne (tgt := 42) X h dX3_readToError_37 (by decide) (fun h => ?_) (fun h => ?_)
        · refine g_iinc (j := 3) (lv' := [(3, .int (l3_3 + 1)), (0, .ref a0), (1, .ref a6), (2, .int p2)]) X (l3_3 + 1) dX3_readToError_42 rfl rfl (by decide) rfl ?_
          refine g_goto (tgt := 19) X dX3_readToError_45 (by decide) ?_
          refine g_lv (lv' := [(0, .ref a0), (1, .ref a6), (2, .int p2), (3, .int (l3_3 + 1))]) [1, 2, 3, 0] rfl ?_
          exact hI ((l3_3 + 1), o46, o47, o43, o45, o44, o48, o49, o50, o51, o52, o53, o54) (Option.some.inj h).symm
        · refine g_lv (lv' := [(3, .int l3_3)]) [3] rfl ?_
          exact hE (l3_3, o46, o47, o43, o45, o44, o48, o49, o50, o51, o52, o53, o54) (Option.some.inj h).symm
def f_X3_isComplete (x0_state : Int32) : Option (Int32) := (jn (u1 fun (s1 : Int32) => gB s1 (some s1)) (fun K2 => jn (u0 (K2 1)) (fun K3 => (if x0_state = 2 then K3 () else (if x0_state = 3 then K3 () else (if x0_state = 5 then K3 () else (if x0_state = 6 then K3 () else (if x0_state = 8 then K3 () else K2 0))))))))
theorem in_X3_isComplete_X3 : ∀ w ∈ wsX30, w ∈ wsX3_isComplete := by decide +kernel
theorem fl_X3_isComplete_22 : Cond.fieldLink RX3 22 "ColophonHunt$TextReader" "state" "I" ∈ wsX3_isComplete := by decide +kernel
theorem hd_X3_isComplete : yX3_isComplete.cls = RX3 ∧ yX3_isComplete.cls ≠ "java/lang/invoke/MethodHandle" ∧ yX3_isComplete.cls ≠ "java/lang/invoke/VarHandle" ∧ (parseMethodDescriptor yX3_isComplete.desc).map (fun d => d.parameters.length) = some 0 := by decide +kernel
set_option maxRecDepth 100000 in
set_option maxHeartbeats 4000000 in
theorem c_X3_isComplete (l : Launch) (D : va_G) (cI cS cL : ClassId) (a0 : Nat) (b0_0 : Nat) (x0_parts : Int32) (x0_state : Int32) (x0_press : Int32) (x0_letters : Int32) (x0_mould : Int32) (x0_year : Int32) (x0_yearScale : Int32) (rr : Int32) (hc : f_X3_isComplete x0_state = some rr) : KM l yX3_isComplete wsX3_isComplete { frames := 0, cells := 0, slots := 0, locals := 0 } D (tyS cI cS cL) [.ref a0] [(a0, .inr (3, [.ref b0_0, .int x0_parts, .int x0_state, .int x0_press, .int x0_letters, .int x0_mould, .int x0_year, .int x0_yearScale]))] (some (.int rr)) (fun w => w = [(a0, .inr (3, [.ref b0_0, .int x0_parts, .int x0_state, .int x0_press, .int x0_letters, .int x0_mould, .int x0_year, .int x0_yearScale]))]) 0 0 := by
  refine g_entry (cc := cX3_isComplete) (nL := 1) (rt := (some .boolean)) (by decide) rfl (Nat.le_of_ble_eq_true rfl) ?_
  intro p e s m args below meth c A (X : GC p s m args c cX3_isComplete 1 RX3 wsX3_isComplete D (tyS cI cS cL) A) hr hlk _ _
  have h := hc
  unfold f_X3_isComplete at h
  refine g_lv (lv' := [(0, .ref a0)]) [0] rfl ?_
  refine g_aload_n X (j := 0) dX3_isComplete_0 rfl ?_
  refine g_get (q0 := 0) (k := 2) (ci := 3) X in_X3_isComplete_X3 fl_X3_isComplete_22 rfl rfl (Nat.le_of_ble_eq_true rfl) rfl dX3_isComplete_1 ?_
  refine g_iconst (v := 2) X dX3_isComplete_4 (by decide) ?_
  refine jn_g h (u1 fun s1 => [(a0, .inr (3, [.ref b0_0, .int x0_parts, .int x0_state, .int x0_press, .int x0_letters, .int x0_mould, .int x0_year, .int x0_yearScale]))]) (u1 fun s1 => []) (u1 fun s1 => [.int s1]) 47 ?_ ?_
  · rintro s1 h
    dsimp only [u1] at h ⊢
    obtain ⟨hz, h⟩ := gB_e h
    have h := Option.some.inj h
    subst h
    exact g_zret X hr hlk hz dX3_isComplete_47 rfl rfl
  · intro K2 hK2 h
    refine jn_g h (u0 ([(a0, .inr (3, [.ref b0_0, .int x0_parts, .int x0_state, .int x0_press, .int x0_letters, .int x0_mould, .int x0_year, .int x0_yearScale]))])) (u0 ([])) (u0 ([])) 42 ?_ ?_
    · rintro ⟨⟩ h
      dsimp only [u0] at h ⊢
      refine g_iconst (v := 1) X dX3_isComplete_42 (by decide) ?_
      refine g_goto (tgt := 47) X dX3_isComplete_43 (by decide) ?_
      exact hK2 1 h
    · intro K3 hK3 h
      refine g_icmp_eq (tgt := 42) X h dX3_isComplete_5 (by decide) (fun h => ?_) (fun h => ?_)
      · refine g_lv (lv' := []) [] rfl ?_
        exact hK3 () h
      · refine g_aload_n X (j := 0) dX3_isComplete_8 rfl ?_
        refine g_get (q0 := 0) (k := 2) (ci := 3) X in_X3_isComplete_X3 fl_X3_isComplete_22 rfl rfl (Nat.le_of_ble_eq_true rfl) rfl dX3_isComplete_9 ?_
        refine g_iconst (v := 3) X dX3_isComplete_12 (by decide) ?_
        refine g_icmp_eq (tgt := 42) X h dX3_isComplete_13 (by decide) (fun h => ?_) (fun h => ?_)
        · refine g_lv (lv' := []) [] rfl ?_
          exact hK3 () h
        · refine g_aload_n X (j := 0) dX3_isComplete_16 rfl ?_
          refine g_get (q0 := 0) (k := 2) (ci := 3) X in_X3_isComplete_X3 fl_X3_isComplete_22 rfl rfl (Nat.le_of_ble_eq_true rfl) rfl dX3_isComplete_17 ?_
          refine g_iconst (v := 5) X dX3_isComplete_20 (by decide) ?_
          refine g_icmp_eq (tgt := 42) X h dX3_isComplete_21 (by decide) (fun h => ?_) (fun h => ?_)
          · refine g_lv (lv' := []) [] rfl ?_
            exact hK3 () h
          · refine g_aload_n X (j := 0) dX3_isComplete_24 rfl ?_
            refine g_get (q0 := 0) (k := 2) (ci := 3) X in_X3_isComplete_X3 fl_X3_isComplete_22 rfl rfl (Nat.le_of_ble_eq_true rfl) rfl dX3_isComplete_25 ?_
            refine g_bipush (v := 6) X dX3_isComplete_28 (by decide) ?_
            refine g_icmp_eq (tgt := 42) X h dX3_isComplete_30 (by decide) (fun h => ?_) (fun h => ?_)
            · refine g_lv (lv' := []) [] rfl ?_
              exact hK3 () h
            · refine g_aload_n X (j := 0) dX3_isComplete_33 rfl ?_
              refine g_get (q0 := 0) (k := 2) (ci := 3) X in_X3_isComplete_X3 fl_X3_isComplete_22 rfl rfl (Nat.le_of_ble_eq_true rfl) rfl dX3_isComplete_34 ?_
              refine g_bipush (v := 8) X dX3_isComplete_37 (by decide) ?_
              refine g_icmp_ne (tgt := 46) X h dX3_isComplete_39 (by decide) (fun h => ?_) (fun h => ?_)
              · refine g_iconst (v := 0) X dX3_isComplete_46 (by decide) ?_
                refine g_lv (lv' := []) [] rfl ?_
                exact hK2 0 h
              · refine g_lv (lv' := []) [] rfl ?_
                exact hK3 () h
