theorem dX5_in_0 : decode cX5_in 0 = .ok (.iload_n 0, 1) := by decide +kernel
theorem dX5_in_1 : decode cX5_in 1 = .ok (.iload_n 1, 1) := by decide +kernel
theorem dX5_in_2 : decode cX5_in 2 = .ok (.if_icmp .lt 12, 3) := by decide +kernel
theorem dX5_in_5 : decode cX5_in 5 = .ok (.iload_n 0, 1) := by decide +kernel
theorem dX5_in_6 : decode cX5_in 6 = .ok (.iload_n 2, 1) := by decide +kernel
theorem dX5_in_7 : decode cX5_in 7 = .ok (.if_icmp .gt 7, 3) := by decide +kernel
theorem dX5_in_10 : decode cX5_in 10 = .ok (.iconst 1, 1) := by decide +kernel
theorem dX5_in_11 : decode cX5_in 11 = .ok (.goto 4, 3) := by decide +kernel
theorem dX5_in_14 : decode cX5_in 14 = .ok (.iconst 0, 1) := by decide +kernel
theorem dX5_in_15 : decode cX5_in 15 = .ok (.ireturn, 1) := by decide +kernel
theorem dX5_of_0 : decode cX5_of 0 = .ok (.aload_n 0, 1) := by decide +kernel
theorem dX5_of_1 : decode cX5_of 1 = .ok (.iconst 4, 1) := by decide +kernel
theorem dX5_of_2 : decode cX5_of 2 = .ok (.iload_n 1, 1) := by decide +kernel
theorem dX5_of_3 : decode cX5_of 3 = .ok (.imul, 1) := by decide +kernel
theorem dX5_of_4 : decode cX5_of 4 = .ok (.iload_n 2, 1) := by decide +kernel
theorem dX5_of_5 : decode cX5_of 5 = .ok (.iadd, 1) := by decide +kernel
theorem dX5_of_6 : decode cX5_of 6 = .ok (.iaload, 1) := by decide +kernel
theorem dX5_of_7 : decode cX5_of 7 = .ok (.ireturn, 1) := by decide +kernel
theorem dX5_isLess_0 : decode cX5_isLess 0 = .ok (.iload_n 0, 1) := by decide +kernel
theorem dX5_isLess_1 : decode cX5_isLess 1 = .ok (.iconst (-1), 1) := by decide +kernel
theorem dX5_isLess_2 : decode cX5_isLess 2 = .ok (.if_icmp .eq 17, 3) := by decide +kernel
theorem dX5_isLess_5 : decode cX5_isLess 5 = .ok (.iload_n 1, 1) := by decide +kernel
theorem dX5_isLess_6 : decode cX5_isLess 6 = .ok (.iconst (-1), 1) := by decide +kernel
theorem dX5_isLess_7 : decode cX5_isLess 7 = .ok (.if_icmp .eq 12, 3) := by decide +kernel
theorem dX5_isLess_10 : decode cX5_isLess 10 = .ok (.iload_n 0, 1) := by decide +kernel
theorem dX5_isLess_11 : decode cX5_isLess 11 = .ok (.iload_n 1, 1) := by decide +kernel
theorem dX5_isLess_12 : decode cX5_isLess 12 = .ok (.if_icmp .ge 7, 3) := by decide +kernel
theorem dX5_isLess_15 : decode cX5_isLess 15 = .ok (.iconst 1, 1) := by decide +kernel
theorem dX5_isLess_16 : decode cX5_isLess 16 = .ok (.goto 4, 3) := by decide +kernel
theorem dX5_isLess_19 : decode cX5_isLess 19 = .ok (.iconst 0, 1) := by decide +kernel
theorem dX5_isLess_20 : decode cX5_isLess 20 = .ok (.ireturn, 1) := by decide +kernel
set_option maxRecDepth 20000 in
theorem ggX5_by_X5_of : GoodIn wsX5_by wsX5_of := goodIn_r _ [4] (by decide +kernel) (by decide +kernel)
set_option maxRecDepth 20000 in
theorem gX5_by_X5_of : GoodIn wsX5_by (va_wsS RX5 53 yX5_of wsX5_of) := goodIn_app (goodIn_of _ (by decide +kernel)) ggX5_by_X5_of
set_option maxRecDepth 20000 in
theorem ggX5_by_X5_isLess : GoodIn wsX5_by wsX5_isLess := goodIn_r _ [7] (by decide +kernel) (by decide +kernel)
set_option maxRecDepth 20000 in
theorem gX5_by_X5_isLess : GoodIn wsX5_by (va_wsS RX5 57 yX5_isLess wsX5_isLess) := goodIn_app (goodIn_of _ (by decide +kernel)) ggX5_by_X5_isLess
theorem dX5_by_0 : decode cX5_by 0 = .ok (.aload_n 0, 1) := by decide +kernel
theorem dX5_by_1 : decode cX5_by 1 = .ok (.iload_n 1, 1) := by decide +kernel
theorem dX5_by_2 : decode cX5_by 2 = .ok (.iconst 3, 1) := by decide +kernel
theorem dX5_by_3 : decode cX5_by 3 = .ok (.invokestatic 53, 3) := by decide +kernel
theorem dX5_by_6 : decode cX5_by 6 = .ok (.aload_n 0, 1) := by decide +kernel
theorem dX5_by_7 : decode cX5_by 7 = .ok (.iload_n 2, 1) := by decide +kernel
theorem dX5_by_8 : decode cX5_by 8 = .ok (.iconst 3, 1) := by decide +kernel
theorem dX5_by_9 : decode cX5_by 9 = .ok (.invokestatic 53, 3) := by decide +kernel
theorem dX5_by_12 : decode cX5_by 12 = .ok (.invokestatic 57, 3) := by decide +kernel
theorem dX5_by_15 : decode cX5_by 15 = .ok (.ifCond .eq 7, 3) := by decide +kernel
theorem dX5_by_18 : decode cX5_by 18 = .ok (.iconst 4, 1) := by decide +kernel
theorem dX5_by_19 : decode cX5_by 19 = .ok (.goto 4, 3) := by decide +kernel
theorem dX5_by_22 : decode cX5_by 22 = .ok (.iconst 0, 1) := by decide +kernel
theorem dX5_by_23 : decode cX5_by 23 = .ok (.istore_n 3, 1) := by decide +kernel
theorem dX5_by_24 : decode cX5_by 24 = .ok (.aload_n 0, 1) := by decide +kernel
theorem dX5_by_25 : decode cX5_by 25 = .ok (.iload_n 1, 1) := by decide +kernel
theorem dX5_by_26 : decode cX5_by 26 = .ok (.iconst 0, 1) := by decide +kernel
theorem dX5_by_27 : decode cX5_by 27 = .ok (.invokestatic 53, 3) := by decide +kernel
theorem dX5_by_30 : decode cX5_by 30 = .ok (.aload_n 0, 1) := by decide +kernel
theorem dX5_by_31 : decode cX5_by 31 = .ok (.iload_n 2, 1) := by decide +kernel
theorem dX5_by_32 : decode cX5_by 32 = .ok (.iconst 0, 1) := by decide +kernel
theorem dX5_by_33 : decode cX5_by 33 = .ok (.invokestatic 53, 3) := by decide +kernel
theorem dX5_by_36 : decode cX5_by 36 = .ok (.if_icmp .eq 5, 3) := by decide +kernel
theorem dX5_by_39 : decode cX5_by 39 = .ok (.iload_n 3, 1) := by decide +kernel
theorem dX5_by_40 : decode cX5_by 40 = .ok (.ireturn, 1) := by decide +kernel
theorem dX5_by_41 : decode cX5_by 41 = .ok (.aload_n 0, 1) := by decide +kernel
theorem dX5_by_42 : decode cX5_by 42 = .ok (.iload_n 2, 1) := by decide +kernel
theorem dX5_by_43 : decode cX5_by 43 = .ok (.iconst 1, 1) := by decide +kernel
theorem dX5_by_44 : decode cX5_by 44 = .ok (.invokestatic 53, 3) := by decide +kernel
theorem dX5_by_47 : decode cX5_by 47 = .ok (.aload_n 0, 1) := by decide +kernel
theorem dX5_by_48 : decode cX5_by 48 = .ok (.iload_n 1, 1) := by decide +kernel
theorem dX5_by_49 : decode cX5_by 49 = .ok (.iconst 1, 1) := by decide +kernel
theorem dX5_by_50 : decode cX5_by 50 = .ok (.invokestatic 53, 3) := by decide +kernel
theorem dX5_by_53 : decode cX5_by 53 = .ok (.iconst (-1), 1) := by decide +kernel
theorem dX5_by_54 : decode cX5_by 54 = .ok (.ixor, 1) := by decide +kernel
theorem dX5_by_55 : decode cX5_by 55 = .ok (.iand, 1) := by decide +kernel
theorem dX5_by_56 : decode cX5_by 56 = .ok (.ifCond .eq 7, 3) := by decide +kernel
theorem dX5_by_59 : decode cX5_by 59 = .ok (.iconst 1, 1) := by decide +kernel
theorem dX5_by_60 : decode cX5_by 60 = .ok (.goto 4, 3) := by decide +kernel
theorem dX5_by_63 : decode cX5_by 63 = .ok (.iconst 0, 1) := by decide +kernel
theorem dX5_by_64 : decode cX5_by 64 = .ok (.istore 4, 2) := by decide +kernel
theorem dX5_by_66 : decode cX5_by 66 = .ok (.iload 4, 2) := by decide +kernel
theorem dX5_by_68 : decode cX5_by 68 = .ok (.aload_n 0, 1) := by decide +kernel
theorem dX5_by_69 : decode cX5_by 69 = .ok (.iload_n 1, 1) := by decide +kernel
theorem dX5_by_70 : decode cX5_by 70 = .ok (.iconst 2, 1) := by decide +kernel
theorem dX5_by_71 : decode cX5_by 71 = .ok (.invokestatic 53, 3) := by decide +kernel
theorem dX5_by_74 : decode cX5_by 74 = .ok (.aload_n 0, 1) := by decide +kernel
theorem dX5_by_75 : decode cX5_by 75 = .ok (.iload_n 2, 1) := by decide +kernel
theorem dX5_by_76 : decode cX5_by 76 = .ok (.iconst 2, 1) := by decide +kernel
theorem dX5_by_77 : decode cX5_by 77 = .ok (.invokestatic 53, 3) := by decide +kernel
theorem dX5_by_80 : decode cX5_by 80 = .ok (.invokestatic 57, 3) := by decide +kernel
theorem dX5_by_83 : decode cX5_by 83 = .ok (.ifCond .eq 7, 3) := by decide +kernel
theorem dX5_by_86 : decode cX5_by 86 = .ok (.iconst 2, 1) := by decide +kernel
theorem dX5_by_87 : decode cX5_by 87 = .ok (.goto 4, 3) := by decide +kernel
theorem dX5_by_90 : decode cX5_by 90 = .ok (.iconst 0, 1) := by decide +kernel
theorem dX5_by_91 : decode cX5_by 91 = .ok (.iadd, 1) := by decide +kernel
theorem dX5_by_92 : decode cX5_by 92 = .ok (.iload_n 3, 1) := by decide +kernel
theorem dX5_by_93 : decode cX5_by 93 = .ok (.iadd, 1) := by decide +kernel
theorem dX5_by_94 : decode cX5_by 94 = .ok (.ireturn, 1) := by decide +kernel
set_option maxRecDepth 20000 in
theorem ggX5_laysAhead_X5_by : GoodIn wsX5_laysAhead wsX5_by := goodIn_r _ [5, 6, 7, 4, 8, 9, 10, 11] (by decide +kernel) (by decide +kernel)
set_option maxRecDepth 20000 in
theorem gX5_laysAhead_X5_by : GoodIn wsX5_laysAhead (va_wsS RX5 61 yX5_by wsX5_by) := goodIn_app (goodIn_of _ (by decide +kernel)) ggX5_laysAhead_X5_by
theorem dX5_laysAhead_0 : decode cX5_laysAhead 0 = .ok (.iconst 0, 1) := by decide +kernel
theorem dX5_laysAhead_1 : decode cX5_laysAhead 1 = .ok (.istore_n 2, 1) := by decide +kernel
theorem dX5_laysAhead_2 : decode cX5_laysAhead 2 = .ok (.iload_n 2, 1) := by decide +kernel
theorem dX5_laysAhead_3 : decode cX5_laysAhead 3 = .ok (.bipush 10, 2) := by decide +kernel
theorem dX5_laysAhead_5 : decode cX5_laysAhead 5 = .ok (.if_icmp .ge 70, 3) := by decide +kernel
theorem dX5_laysAhead_8 : decode cX5_laysAhead 8 = .ok (.aload_n 0, 1) := by decide +kernel
theorem dX5_laysAhead_9 : decode cX5_laysAhead 9 = .ok (.getfield 25, 3) := by decide +kernel
theorem dX5_laysAhead_12 : decode cX5_laysAhead 12 = .ok (.iload_n 2, 1) := by decide +kernel
theorem dX5_laysAhead_13 : decode cX5_laysAhead 13 = .ok (.iconst 0, 1) := by decide +kernel
theorem dX5_laysAhead_14 : decode cX5_laysAhead 14 = .ok (.iastore, 1) := by decide +kernel
theorem dX5_laysAhead_15 : decode cX5_laysAhead 15 = .ok (.iconst 0, 1) := by decide +kernel
theorem dX5_laysAhead_16 : decode cX5_laysAhead 16 = .ok (.istore_n 3, 1) := by decide +kernel
theorem dX5_laysAhead_17 : decode cX5_laysAhead 17 = .ok (.iload_n 3, 1) := by decide +kernel
theorem dX5_laysAhead_18 : decode cX5_laysAhead 18 = .ok (.aload_n 1, 1) := by decide +kernel
theorem dX5_laysAhead_19 : decode cX5_laysAhead 19 = .ok (.bipush 40, 2) := by decide +kernel
theorem dX5_laysAhead_21 : decode cX5_laysAhead 21 = .ok (.iaload, 1) := by decide +kernel
theorem dX5_laysAhead_22 : decode cX5_laysAhead 22 = .ok (.if_icmp .ge 47, 3) := by decide +kernel
theorem dX5_laysAhead_25 : decode cX5_laysAhead 25 = .ok (.iload_n 2, 1) := by decide +kernel
theorem dX5_laysAhead_26 : decode cX5_laysAhead 26 = .ok (.aload_n 1, 1) := by decide +kernel
theorem dX5_laysAhead_27 : decode cX5_laysAhead 27 = .ok (.bipush 40, 2) := by decide +kernel
theorem dX5_laysAhead_29 : decode cX5_laysAhead 29 = .ok (.iaload, 1) := by decide +kernel
theorem dX5_laysAhead_30 : decode cX5_laysAhead 30 = .ok (.if_icmp .ge 39, 3) := by decide +kernel
theorem dX5_laysAhead_33 : decode cX5_laysAhead 33 = .ok (.aload_n 0, 1) := by decide +kernel
theorem dX5_laysAhead_34 : decode cX5_laysAhead 34 = .ok (.getfield 25, 3) := by decide +kernel
theorem dX5_laysAhead_37 : decode cX5_laysAhead 37 = .ok (.iload_n 2, 1) := by decide +kernel
theorem dX5_laysAhead_38 : decode cX5_laysAhead 38 = .ok (.dup2, 1) := by decide +kernel
theorem dX5_laysAhead_39 : decode cX5_laysAhead 39 = .ok (.iaload, 1) := by decide +kernel
theorem dX5_laysAhead_40 : decode cX5_laysAhead 40 = .ok (.iload_n 3, 1) := by decide +kernel
theorem dX5_laysAhead_41 : decode cX5_laysAhead 41 = .ok (.iload_n 2, 1) := by decide +kernel
theorem dX5_laysAhead_42 : decode cX5_laysAhead 42 = .ok (.if_icmp .eq 18, 3) := by decide +kernel
theorem dX5_laysAhead_45 : decode cX5_laysAhead 45 = .ok (.aload_n 1, 1) := by decide +kernel
theorem dX5_laysAhead_46 : decode cX5_laysAhead 46 = .ok (.iload_n 3, 1) := by decide +kernel
theorem dX5_laysAhead_47 : decode cX5_laysAhead 47 = .ok (.iload_n 2, 1) := by decide +kernel
theorem dX5_laysAhead_48 : decode cX5_laysAhead 48 = .ok (.invokestatic 61, 3) := by decide +kernel
theorem dX5_laysAhead_51 : decode cX5_laysAhead 51 = .ok (.ifCond .eq 9, 3) := by decide +kernel
theorem dX5_laysAhead_54 : decode cX5_laysAhead 54 = .ok (.iconst 1, 1) := by decide +kernel
theorem dX5_laysAhead_55 : decode cX5_laysAhead 55 = .ok (.iload_n 3, 1) := by decide +kernel
theorem dX5_laysAhead_56 : decode cX5_laysAhead 56 = .ok (.ishl, 1) := by decide +kernel
theorem dX5_laysAhead_57 : decode cX5_laysAhead 57 = .ok (.goto 4, 3) := by decide +kernel
theorem dX5_laysAhead_60 : decode cX5_laysAhead 60 = .ok (.iconst 0, 1) := by decide +kernel
theorem dX5_laysAhead_61 : decode cX5_laysAhead 61 = .ok (.ior, 1) := by decide +kernel
theorem dX5_laysAhead_62 : decode cX5_laysAhead 62 = .ok (.iastore, 1) := by decide +kernel
theorem dX5_laysAhead_63 : decode cX5_laysAhead 63 = .ok (.iinc 3 1, 3) := by decide +kernel
theorem dX5_laysAhead_66 : decode cX5_laysAhead 66 = .ok (.goto (-49), 3) := by decide +kernel
theorem dX5_laysAhead_69 : decode cX5_laysAhead 69 = .ok (.iinc 2 1, 3) := by decide +kernel
theorem dX5_laysAhead_72 : decode cX5_laysAhead 72 = .ok (.goto (-70), 3) := by decide +kernel
theorem dX5_laysAhead_75 : decode cX5_laysAhead 75 = .ok (.return_, 1) := by decide +kernel
def f_X5_in (p0 : Int32) (p1 : Int32) (p2 : Int32) : Option (Int32) := (jn (u1 fun (s1 : Int32) => gB s1 (some s1)) (fun K2 => jn (u0 (K2 0)) (fun K3 => (if p0 < p1 then K3 () else (if p2 < p0 then K3 () else K2 1)))))
theorem hd_X5_in : yX5_in.cls = RX5 ∧ yX5_in.cls ≠ "java/lang/invoke/MethodHandle" ∧ yX5_in.cls ≠ "java/lang/invoke/VarHandle" ∧ (parseMethodDescriptor yX5_in.desc).map (fun d => d.parameters.length) = some 3 := by decide +kernel
set_option maxRecDepth 100000 in
set_option maxHeartbeats 4000000 in
theorem c_X5_in (l : Launch) (D : va_G) (cI cS cL : ClassId) (p0 : Int32) (p1 : Int32) (p2 : Int32) (rr : Int32) (hc : f_X5_in p0 p1 p2 = some rr) : KM l yX5_in wsX5_in { frames := 0, cells := 0, slots := 0, locals := 0 } D (tyS cI cS cL) [.int p0, .int p1, .int p2] [] (some (.int rr)) (fun w => w = []) 0 0 := by
  refine g_entry (cc := cX5_in) (nL := 3) (rt := (some .boolean)) (by decide) rfl (Nat.le_of_ble_eq_true rfl) ?_
  intro p e s m args below meth c A (X : GC p s m args c cX5_in 3 RX5 wsX5_in D (tyS cI cS cL) A) hr hlk _ _
  have h := hc
  unfold f_X5_in at h
  refine g_lv (lv' := [(0, .int p0), (1, .int p1), (2, .int p2)]) [0, 1, 2] rfl ?_
  refine g_iload_n X (j := 0) dX5_in_0 rfl ?_
  refine g_iload_n X (j := 1) dX5_in_1 rfl ?_
  refine jn_g h (u1 fun s1 => []) (u1 fun s1 => []) (u1 fun s1 => [.int s1]) 15 ?_ ?_
  · rintro s1 h
    dsimp only [u1] at h ⊢
    obtain ⟨hz, h⟩ := gB_e h
    have h := Option.some.inj h
    have e0 := h
    exact g_zret X hr hlk hz dX5_in_15 e0 (by rfl)
  · intro K2 hK2 h
    refine jn_g h (u0 ([])) (u0 ([])) (u0 ([])) 14 ?_ ?_
    · rintro ⟨⟩ h
      dsimp only [u0] at h ⊢
      refine g_iconst (v := 0) X dX5_in_14 (by decide) ?_
      exact hK2 0 h
    · intro K3 hK3 h
      refine g_icmp_lt (tgt := 14) X h dX5_in_2 (by decide) (fun h => ?_) (fun h => ?_)
      · refine g_lv (lv' := []) [] rfl ?_
        exact hK3 () h
      · refine g_iload_n X (j := 0) dX5_in_5 rfl ?_
        refine g_iload_n X (j := 2) dX5_in_6 rfl ?_
        refine g_icmp_gt (tgt := 14) X h dX5_in_7 (by decide) (fun h => ?_) (fun h => ?_)
        · refine g_lv (lv' := []) [] rfl ?_
          exact hK3 () h
        · refine g_iconst (v := 1) X dX5_in_10 (by decide) ?_
          refine g_goto (tgt := 15) X dX5_in_11 (by decide) ?_
          refine g_lv (lv' := []) [] rfl ?_
          exact hK2 1 h
def f_X5_of (p1 : Int32) (p2 : Int32) (n0 : Nat) (f0 : Nat → Int32) : Option (Int32) := (rdA f0 n0 ((4 * p1) + p2)).bind (fun v1 => some v1)
theorem hd_X5_of : yX5_of.cls = RX5 ∧ yX5_of.cls ≠ "java/lang/invoke/MethodHandle" ∧ yX5_of.cls ≠ "java/lang/invoke/VarHandle" ∧ (parseMethodDescriptor yX5_of.desc).map (fun d => d.parameters.length) = some 3 := by decide +kernel
set_option maxRecDepth 100000 in
set_option maxHeartbeats 4000000 in
theorem c_X5_of (l : Launch) (D : va_G) (cI cS cL : ClassId) (a0 : Nat) (p1 : Int32) (p2 : Int32) (n0 : Nat) (f0 : Nat → Int32) (rr : Int32) (hc : f_X5_of p1 p2 n0 f0 = some rr) : KM l yX5_of wsX5_of { frames := 0, cells := 0, slots := 0, locals := 0 } D (tyS cI cS cL) [.ref a0, .int p1, .int p2] [(a0, .inl (cI, n0, .inl f0))] (some (.int rr)) (fun w => w = [(a0, .inl (cI, n0, .inl f0))]) 0 0 := by
  refine g_entry (cc := cX5_of) (nL := 3) (rt := (some .int)) (by decide) rfl (Nat.le_of_ble_eq_true rfl) ?_
  intro p e s m args below meth c A (X : GC p s m args c cX5_of 3 RX5 wsX5_of D (tyS cI cS cL) A) hr hlk _ _
  have h := hc
  unfold f_X5_of at h
  refine g_lv (lv' := [(0, .ref a0), (1, .int p1), (2, .int p2)]) [0, 1, 2] rfl ?_
  refine g_aload_n X (j := 0) dX5_of_0 rfl ?_
  refine g_iconst (v := 4) X dX5_of_1 (by decide) ?_
  refine g_iload_n X (j := 1) dX5_of_2 rfl ?_
  refine g_imul X dX5_of_3 ?_
  refine g_iload_n X (j := 2) dX5_of_4 rfl ?_
  refine g_iadd X dX5_of_5 ?_
  refine g_iald (q0 := 0) (t0 := 0) X h rfl rfl dX5_of_6 (fun v1 h => ?_)
  have h := Option.some.inj h
  have e0 := h
  exact g_iret X hr hlk dX5_of_7 e0 (by rfl)
def f_X5_isLess (p0 : Int32) (p1 : Int32) : Option (Int32) := (jn (u1 fun (s1 : Int32) => gB s1 (some s1)) (fun K2 => jn (u0 (K2 0)) (fun K3 => (if p0 = (-1) then K3 () else (if p1 = (-1) then K3 () else (if p1 ≤ p0 then K3 () else K2 1))))))
theorem hd_X5_isLess : yX5_isLess.cls = RX5 ∧ yX5_isLess.cls ≠ "java/lang/invoke/MethodHandle" ∧ yX5_isLess.cls ≠ "java/lang/invoke/VarHandle" ∧ (parseMethodDescriptor yX5_isLess.desc).map (fun d => d.parameters.length) = some 2 := by decide +kernel
set_option maxRecDepth 100000 in
set_option maxHeartbeats 4000000 in
theorem c_X5_isLess (l : Launch) (D : va_G) (cI cS cL : ClassId) (p0 : Int32) (p1 : Int32) (rr : Int32) (hc : f_X5_isLess p0 p1 = some rr) : KM l yX5_isLess wsX5_isLess { frames := 0, cells := 0, slots := 0, locals := 0 } D (tyS cI cS cL) [.int p0, .int p1] [] (some (.int rr)) (fun w => w = []) 0 0 := by
  refine g_entry (cc := cX5_isLess) (nL := 2) (rt := (some .boolean)) (by decide) rfl (Nat.le_of_ble_eq_true rfl) ?_
  intro p e s m args below meth c A (X : GC p s m args c cX5_isLess 2 RX5 wsX5_isLess D (tyS cI cS cL) A) hr hlk _ _
  have h := hc
  unfold f_X5_isLess at h
  refine g_lv (lv' := [(0, .int p0), (1, .int p1)]) [0, 1] rfl ?_
  refine g_iload_n X (j := 0) dX5_isLess_0 rfl ?_
  refine g_iconst (v := (-1)) X dX5_isLess_1 (by decide) ?_
  refine jn_g h (u1 fun s1 => []) (u1 fun s1 => []) (u1 fun s1 => [.int s1]) 20 ?_ ?_
  · rintro s1 h
    dsimp only [u1] at h ⊢
    obtain ⟨hz, h⟩ := gB_e h
    have h := Option.some.inj h
    have e0 := h
    exact g_zret X hr hlk hz dX5_isLess_20 e0 (by rfl)
  · intro K2 hK2 h
    refine jn_g h (u0 ([])) (u0 ([])) (u0 ([])) 19 ?_ ?_
    · rintro ⟨⟩ h
      dsimp only [u0] at h ⊢
      refine g_iconst (v := 0) X dX5_isLess_19 (by decide) ?_
      exact hK2 0 h
    · intro K3 hK3 h
      refine g_icmp_eq (tgt := 19) X h dX5_isLess_2 (by decide) (fun h => ?_) (fun h => ?_)
      · refine g_lv (lv' := []) [] rfl ?_
        exact hK3 () h
      · refine g_iload_n X (j := 1) dX5_isLess_5 rfl ?_
        refine g_iconst (v := (-1)) X dX5_isLess_6 (by decide) ?_
        refine g_icmp_eq (tgt := 19) X h dX5_isLess_7 (by decide) (fun h => ?_) (fun h => ?_)
        · refine g_lv (lv' := []) [] rfl ?_
          exact hK3 () h
        · refine g_iload_n X (j := 0) dX5_isLess_10 rfl ?_
          refine g_iload_n X (j := 1) dX5_isLess_11 rfl ?_
          refine g_icmp_ge (tgt := 19) X h dX5_isLess_12 (by decide) (fun h => ?_) (fun h => ?_)
          · refine g_lv (lv' := []) [] rfl ?_
            exact hK3 () h
          · refine g_iconst (v := 1) X dX5_isLess_15 (by decide) ?_
            refine g_goto (tgt := 20) X dX5_isLess_16 (by decide) ?_
            refine g_lv (lv' := []) [] rfl ?_
            exact hK2 1 h
def f_X5_by (p1 : Int32) (p2 : Int32) (n0 : Nat) (f0 : Nat → Int32) : Option (Int32) := (f_X5_of p1 3 n0 f0).bind (u1 fun (r1 : Int32) => (f_X5_of p2 3 n0 f0).bind (u1 fun (r2 : Int32) => (f_X5_isLess r1 r2).bind (u1 fun (r3 : Int32) => (jn (u1 fun (s4 : Int32) => (f_X5_of p1 0 n0 f0).bind (u1 fun (r6 : Int32) => (f_X5_of p2 0 n0 f0).bind (u1 fun (r7 : Int32) => (if r6 = r7 then (f_X5_of p2 1 n0 f0).bind (u1 fun (r8 : Int32) => (f_X5_of p1 1 n0 f0).bind (u1 fun (r9 : Int32) => (jn (u1 fun (s10 : Int32) => (f_X5_of p1 2 n0 f0).bind (u1 fun (r12 : Int32) => (f_X5_of p2 2 n0 f0).bind (u1 fun (r13 : Int32) => (f_X5_isLess r12 r13).bind (u1 fun (r14 : Int32) => (jn (u1 fun (s15 : Int32) => some ((s10 + s15) + s4)) (fun K16 => (if r14 = 0 then K16 0 else K16 2))))))) (fun K11 => (if (r8 &&& (r9 ^^^ (-1))) = 0 then K11 0 else K11 1))))) else some s4)))) (fun K5 => (if r3 = 0 then K5 0 else K5 4))))))
theorem hd_X5_by : yX5_by.cls = RX5 ∧ yX5_by.cls ≠ "java/lang/invoke/MethodHandle" ∧ yX5_by.cls ≠ "java/lang/invoke/VarHandle" ∧ (parseMethodDescriptor yX5_by.desc).map (fun d => d.parameters.length) = some 3 := by decide +kernel
set_option maxRecDepth 100000 in
set_option maxHeartbeats 4000000 in
theorem c_X5_by (l : Launch) (D : va_G) (cI cS cL : ClassId) (a0 : Nat) (p1 : Int32) (p2 : Int32) (n0 : Nat) (f0 : Nat → Int32) (rr : Int32) (hc : f_X5_by p1 p2 n0 f0 = some rr) : KM l yX5_by wsX5_by { frames := 1, cells := 0, slots := 0, locals := 22 } D (tyS cI cS cL) [.ref a0, .int p1, .int p2] [(a0, .inl (cI, n0, .inl f0))] (some (.int rr)) (fun w => w = [(a0, .inl (cI, n0, .inl f0))]) 0 0 := by
  refine g_entry (cc := cX5_by) (nL := 5) (rt := (some .int)) (by decide) rfl (Nat.le_of_ble_eq_true rfl) ?_
  intro p e s m args below meth c A (X : GC p s m args c cX5_by 5 RX5 wsX5_by D (tyS cI cS cL) A) hr hlk _ _
  have h := hc
  unfold f_X5_by at h
  refine g_lv (lv' := [(0, .ref a0), (1, .int p1), (2, .int p2)]) [0, 1, 2] rfl ?_
  refine g_aload_n X (j := 0) dX5_by_0 rfl ?_
  refine g_iload_n X (j := 1) dX5_by_1 rfl ?_
  refine g_iconst (v := 3) X dX5_by_2 (by decide) ?_
  obtain ⟨r1, hc, h⟩ := bd1 h
  refine g_callS (is := [0]) (As := [.ref a0, .int p1, .int 3]) (ws' := [(a0, .inl (cI, n0, .inl f0))]) (st := []) X (c_X5_of l D cI cS cL a0 p1 3 n0 f0 r1 hc) gX5_by_X5_of rfl ⟨rfl, rfl⟩ hd_X5_of.2 ⟨Nat.le_of_ble_eq_true rfl, Nat.le_of_ble_eq_true rfl⟩ ⟨Nat.zero_le _, Nat.zero_le _⟩ rfl rfl rfl rfl rfl (Nat.le_of_ble_eq_true rfl) rfl dX5_by_3 ?_
  refine g_aload_n X (j := 0) dX5_by_6 rfl ?_
  refine g_iload_n X (j := 2) dX5_by_7 rfl ?_
  refine g_iconst (v := 3) X dX5_by_8 (by decide) ?_
  obtain ⟨r2, hc, h⟩ := bd1 h
  refine g_callS (is := [0]) (As := [.ref a0, .int p2, .int 3]) (ws' := [(a0, .inl (cI, n0, .inl f0))]) (st := [.int r1]) X (c_X5_of l D cI cS cL a0 p2 3 n0 f0 r2 hc) gX5_by_X5_of rfl ⟨rfl, rfl⟩ hd_X5_of.2 ⟨Nat.le_of_ble_eq_true rfl, Nat.le_of_ble_eq_true rfl⟩ ⟨Nat.zero_le _, Nat.zero_le _⟩ rfl rfl rfl rfl rfl (Nat.le_of_ble_eq_true rfl) rfl dX5_by_9 ?_
  obtain ⟨r3, hc, h⟩ := bd1 h
  refine g_callS (is := []) (As := [.int r1, .int r2]) (ws' := [(a0, .inl (cI, n0, .inl f0))]) (st := []) X (c_X5_isLess l D cI cS cL r1 r2 r3 hc) gX5_by_X5_isLess rfl ⟨rfl, rfl⟩ hd_X5_isLess.2 ⟨Nat.le_of_ble_eq_true rfl, Nat.le_of_ble_eq_true rfl⟩ ⟨Nat.zero_le _, Nat.zero_le _⟩ rfl rfl rfl rfl rfl (Nat.le_of_ble_eq_true rfl) rfl dX5_by_12 ?_
  refine jn_g h (u1 fun s4 => [(a0, .inl (cI, n0, .inl f0))]) (u1 fun s4 => [(0, .ref a0), (1, .int p1), (2, .int p2)]) (u1 fun s4 => [.int s4]) 23 ?_ ?_
  · rintro s4 h
    dsimp only [u1] at h ⊢
    refine g_istore_n (lv' := [(3, .int s4), (0, .ref a0), (1, .int p1), (2, .int p2)]) X dX5_by_23 rfl (by decide) rfl ?_
    refine g_aload_n X (j := 1) dX5_by_24 rfl ?_
    refine g_iload_n X (j := 2) dX5_by_25 rfl ?_
    refine g_iconst (v := 0) X dX5_by_26 (by decide) ?_
    obtain ⟨r6, hc, h⟩ := bd1 h
    refine g_callS (is := [0]) (As := [.ref a0, .int p1, .int 0]) (ws' := [(a0, .inl (cI, n0, .inl f0))]) (st := []) X (c_X5_of l D cI cS cL a0 p1 0 n0 f0 r6 hc) gX5_by_X5_of rfl ⟨rfl, rfl⟩ hd_X5_of.2 ⟨Nat.le_of_ble_eq_true rfl, Nat.le_of_ble_eq_true rfl⟩ ⟨Nat.zero_le _, Nat.zero_le _⟩ rfl rfl rfl rfl rfl (Nat.le_of_ble_eq_true rfl) rfl dX5_by_27 ?_
    refine g_aload_n X (j := 1) dX5_by_30 rfl ?_
    refine g_iload_n X (j := 3) dX5_by_31 rfl ?_
    refine g_iconst (v := 0) X dX5_by_32 (by decide) ?_
    obtain ⟨r7, hc, h⟩ := bd1 h
    refine g_callS (is := [0]) (As := [.ref a0, .int p2, .int 0]) (ws' := [(a0, .inl (cI, n0, .inl f0))]) (st := [.int r6]) X (c_X5_of l D cI cS cL a0 p2 0 n0 f0 r7 hc) gX5_by_X5_of rfl ⟨rfl, rfl⟩ hd_X5_of.2 ⟨Nat.le_of_ble_eq_true rfl, Nat.le_of_ble_eq_true rfl⟩ ⟨Nat.zero_le _, Nat.zero_le _⟩ rfl rfl rfl rfl rfl (Nat.le_of_ble_eq_true rfl) rfl dX5_by_33 ?_
    refine g_icmp_eq (tgt := 41) X h dX5_by_36 (by decide) (fun h => ?_) (fun h => ?_)
    · refine g_aload_n X (j := 1) dX5_by_41 rfl ?_
      refine g_iload_n X (j := 3) dX5_by_42 rfl ?_
      refine g_iconst (v := 1) X dX5_by_43 (by decide) ?_
      obtain ⟨r8, hc, h⟩ := bd1 h
      refine g_callS (is := [0]) (As := [.ref a0, .int p2, .int 1]) (ws' := [(a0, .inl (cI, n0, .inl f0))]) (st := []) X (c_X5_of l D cI cS cL a0 p2 1 n0 f0 r8 hc) gX5_by_X5_of rfl ⟨rfl, rfl⟩ hd_X5_of.2 ⟨Nat.le_of_ble_eq_true rfl, Nat.le_of_ble_eq_true rfl⟩ ⟨Nat.zero_le _, Nat.zero_le _⟩ rfl rfl rfl rfl rfl (Nat.le_of_ble_eq_true rfl) rfl dX5_by_44 ?_
      refine g_aload_n X (j := 1) dX5_by_47 rfl ?_
      refine g_iload_n X (j := 2) dX5_by_48 rfl ?_
      refine g_iconst (v := 1) X dX5_by_49 (by decide) ?_
      obtain ⟨r9, hc, h⟩ := bd1 h
      refine g_callS (is := [0]) (As := [.ref a0, .int p1, .int 1]) (ws' := [(a0, .inl (cI, n0, .inl f0))]) (st := [.int r8]) X (c_X5_of l D cI cS cL a0 p1 1 n0 f0 r9 hc) gX5_by_X5_of rfl ⟨rfl, rfl⟩ hd_X5_of.2 ⟨Nat.le_of_ble_eq_true rfl, Nat.le_of_ble_eq_true rfl⟩ ⟨Nat.zero_le _, Nat.zero_le _⟩ rfl rfl rfl rfl rfl (Nat.le_of_ble_eq_true rfl) rfl dX5_by_50 ?_
      refine g_iconst (v := (-1)) X dX5_by_53 (by decide) ?_
      refine g_ixor X dX5_by_54 ?_
      refine g_iand X dX5_by_55 ?_
      refine jn_g h (u1 fun s10 => [(a0, .inl (cI, n0, .inl f0))]) (u1 fun s10 => [(0, .ref a0), (1, .int p1), (2, .int p2), (3, .int s4)]) (u1 fun s10 => [.int s10]) 64 ?_ ?_
      · rintro s10 h
        dsimp only [u1] at h ⊢
        refine g_istore (lv' := [(4, .int s10), (0, .ref a0), (1, .int p1), (2, .int p2), (3, .int s4)]) X dX5_by_64 (by decide) rfl ?_
        refine g_iload X (j := 0) dX5_by_66 rfl ?_
        refine g_aload_n X (j := 1) dX5_by_68 rfl ?_
        refine g_iload_n X (j := 2) dX5_by_69 rfl ?_
        refine g_iconst (v := 2) X dX5_by_70 (by decide) ?_
        obtain ⟨r12, hc, h⟩ := bd1 h
        refine g_callS (is := [0]) (As := [.ref a0, .int p1, .int 2]) (ws' := [(a0, .inl (cI, n0, .inl f0))]) (st := [.int s10]) X (c_X5_of l D cI cS cL a0 p1 2 n0 f0 r12 hc) gX5_by_X5_of rfl ⟨rfl, rfl⟩ hd_X5_of.2 ⟨Nat.le_of_ble_eq_true rfl, Nat.le_of_ble_eq_true rfl⟩ ⟨Nat.zero_le _, Nat.zero_le _⟩ rfl rfl rfl rfl rfl (Nat.le_of_ble_eq_true rfl) rfl dX5_by_71 ?_
        refine g_aload_n X (j := 1) dX5_by_74 rfl ?_
        refine g_iload_n X (j := 3) dX5_by_75 rfl ?_
        refine g_iconst (v := 2) X dX5_by_76 (by decide) ?_
        obtain ⟨r13, hc, h⟩ := bd1 h
        refine g_callS (is := [0]) (As := [.ref a0, .int p2, .int 2]) (ws' := [(a0, .inl (cI, n0, .inl f0))]) (st := [.int r12, .int s10]) X (c_X5_of l D cI cS cL a0 p2 2 n0 f0 r13 hc) gX5_by_X5_of rfl ⟨rfl, rfl⟩ hd_X5_of.2 ⟨Nat.le_of_ble_eq_true rfl, Nat.le_of_ble_eq_true rfl⟩ ⟨Nat.zero_le _, Nat.zero_le _⟩ rfl rfl rfl rfl rfl (Nat.le_of_ble_eq_true rfl) rfl dX5_by_77 ?_
        obtain ⟨r14, hc, h⟩ := bd1 h
        refine g_callS (is := []) (As := [.int r12, .int r13]) (ws' := [(a0, .inl (cI, n0, .inl f0))]) (st := [.int s10]) X (c_X5_isLess l D cI cS cL r12 r13 r14 hc) gX5_by_X5_isLess rfl ⟨rfl, rfl⟩ hd_X5_isLess.2 ⟨Nat.le_of_ble_eq_true rfl, Nat.le_of_ble_eq_true rfl⟩ ⟨Nat.zero_le _, Nat.zero_le _⟩ rfl rfl rfl rfl rfl (Nat.le_of_ble_eq_true rfl) rfl dX5_by_80 ?_
        refine jn_g h (u1 fun s15 => [(a0, .inl (cI, n0, .inl f0))]) (u1 fun s15 => [(3, .int s4)]) (u1 fun s15 => [.int s15, .int s10]) 91 ?_ ?_
        · rintro s15 h
          dsimp only [u1] at h ⊢
          refine g_iadd X dX5_by_91 ?_
          refine g_iload_n X (j := 0) dX5_by_92 rfl ?_
          refine g_iadd X dX5_by_93 ?_
          have h := Option.some.inj h
          have e0 := h
          exact g_iret X hr hlk dX5_by_94 e0 (by rfl)
        · intro K16 hK16 h
          refine g_if_eq (tgt := 90) X h dX5_by_83 (by decide) (fun h => ?_) (fun h => ?_)
          · refine g_iconst (v := 0) X dX5_by_90 (by decide) ?_
            refine g_lv (lv' := [(3, .int s4)]) [4] rfl ?_
            exact hK16 0 h
          · refine g_iconst (v := 2) X dX5_by_86 (by decide) ?_
            refine g_goto (tgt := 91) X dX5_by_87 (by decide) ?_
            refine g_lv (lv' := [(3, .int s4)]) [4] rfl ?_
            exact hK16 2 h
      · intro K11 hK11 h
        refine g_if_eq (tgt := 63) X h dX5_by_56 (by decide) (fun h => ?_) (fun h => ?_)
        · refine g_iconst (v := 0) X dX5_by_63 (by decide) ?_
          refine g_lv (lv' := [(0, .ref a0), (1, .int p1), (2, .int p2), (3, .int s4)]) [1, 2, 3, 0] rfl ?_
          exact hK11 0 h
        · refine g_iconst (v := 1) X dX5_by_59 (by decide) ?_
          refine g_goto (tgt := 64) X dX5_by_60 (by decide) ?_
          refine g_lv (lv' := [(0, .ref a0), (1, .int p1), (2, .int p2), (3, .int s4)]) [1, 2, 3, 0] rfl ?_
          exact hK11 1 h
    · refine g_iload_n X (j := 0) dX5_by_39 rfl ?_
      have h := Option.some.inj h
      have e0 := h
      exact g_iret X hr hlk dX5_by_40 e0 (by rfl)
  · intro K5 hK5 h
    refine g_if_eq (tgt := 22) X h dX5_by_15 (by decide) (fun h => ?_) (fun h => ?_)
    · refine g_iconst (v := 0) X dX5_by_22 (by decide) ?_
      exact hK5 0 h
    · refine g_iconst (v := 4) X dX5_by_18 (by decide) ?_
      refine g_goto (tgt := 23) X dX5_by_19 (by decide) ?_
      exact hK5 4 h
def f_X5_laysAhead (f1 : Nat → Int32) (n2 : Nat) (f2 : Nat → Int32) : Option ((Nat → Int32)) := (wl (u2 fun (l2_1 : Int32) (w2 : Nat → Int32) => (if 10 ≤ l2_1 then some (Sum.inr w2) else (wrA w2 10 l2_1 0).bind (fun g4 => (wl (u2 fun (l3_5 : Int32) (w6 : Nat → Int32) => (rdA f2 n2 40).bind (fun v8 => (if v8 ≤ l3_5 then some (Sum.inr w6) else (rdA f2 n2 40).bind (fun v9 => (if v9 ≤ l2_1 then some (Sum.inr w6) else (rdA w6 10 l2_1).bind (fun v10 => (jn (u1 fun (s11 : Int32) => (wrA w6 10 l2_1 (v10 ||| s11)).bind (fun g13 => some (Sum.inl ((l3_5 + 1), g13)))) (fun K12 => jn (u0 (K12 0)) (fun K14 => (if l3_5 = l2_1 then K14 () else (f_X5_by l3_5 l2_1 n2 f2).bind (u1 fun (r15 : Int32) => (if r15 = 0 then K14 () else K12 (1 <<< (l3_5 &&& 31)))))))))))))) 9999 (0, g4)).bind (u1 fun (w7 : Nat → Int32) => some (Sum.inl ((l2_1 + 1), w7)))))) 9999 (0, f1)).bind (u1 fun (w3 : Nat → Int32) => some w3)
theorem in_X5_laysAhead_X5 : ∀ w ∈ wsX50, w ∈ wsX5_laysAhead := by decide +kernel
theorem fl_X5_laysAhead_25 : Cond.fieldLink RX5 25 "ColophonHuntModel" "before" "[I" ∈ wsX5_laysAhead := by decide +kernel
theorem hd_X5_laysAhead : yX5_laysAhead.cls = RX5 ∧ yX5_laysAhead.cls ≠ "java/lang/invoke/MethodHandle" ∧ yX5_laysAhead.cls ≠ "java/lang/invoke/VarHandle" ∧ (parseMethodDescriptor yX5_laysAhead.desc).map (fun d => d.parameters.length) = some 1 := by decide +kernel
set_option maxRecDepth 100000 in
set_option maxHeartbeats 4000000 in
theorem c_X5_laysAhead (l : Launch) (D : va_G) (cI cS cL : ClassId) (a0 : Nat) (a1 : Nat) (a2 : Nat) (b0_0 : Nat) (b0_1 : Nat) (b0_2 : Nat) (b0_4 : Nat) (b0_10 : Nat) (b0_13 : Nat) (b0_14 : Nat) (x0_kept : Int32) (x0_typed : Int32) (x0_thrown : Int32) (x0_at : Int32) (x0_isFault : Int32) (x0_value : Int32) (x0_tolds : Int32) (f1 : Nat → Int32) (n2 : Nat) (f2 : Nat → Int32) (y0 : Nat → Int32) (hc : f_X5_laysAhead f1 n2 f2 = some y0) : KM l yX5_laysAhead wsX5_laysAhead { frames := 2, cells := 0, slots := 0, locals := 46 } D (tyS cI cS cL) [.ref a0, .ref a2] [(a0, .inr (5, [.ref b0_0, .ref b0_1, .ref b0_2, .int x0_kept, .ref b0_4, .int x0_typed, .int x0_thrown, .int x0_at, .int x0_isFault, .int x0_value, .ref b0_10, .int x0_tolds, .ref a1, .ref b0_13, .ref b0_14])), (a1, .inl (cI, 10, .inl f1)), (a2, .inl (cI, n2, .inl f2))] none (fun w => w = [(a0, .inr (5, [.ref b0_0, .ref b0_1, .ref b0_2, .int x0_kept, .ref b0_4, .int x0_typed, .int x0_thrown, .int x0_at, .int x0_isFault, .int x0_value, .ref b0_10, .int x0_tolds, .ref a1, .ref b0_13, .ref b0_14])), (a1, .inl (cI, 10, .inl y0)), (a2, .inl (cI, n2, .inl f2))]) 0 0 := by
  refine g_entry (cc := cX5_laysAhead) (nL := 4) (rt := none) (by decide) rfl (Nat.le_of_ble_eq_true rfl) ?_
  intro p e s m args below meth c A (X : GC p s m args c cX5_laysAhead 4 RX5 wsX5_laysAhead D (tyS cI cS cL) A) hr hlk _ _
  have h := hc
  unfold f_X5_laysAhead at h
  refine g_lv (lv' := [(0, .ref a0), (1, .ref a2)]) [0, 1] rfl ?_
  refine g_iconst (v := 0) X dX5_laysAhead_0 (by decide) ?_
  refine g_istore_n (lv' := [(2, .int 0), (0, .ref a0), (1, .ref a2)]) X dX5_laysAhead_1 rfl (by decide) rfl ?_
  refine g_lv (lv' := [(0, .ref a0), (1, .ref a2), (2, .int 0)]) [1, 2, 0] rfl ?_
  refine wl_g1 h (u2 fun l2_1 w2 => [(a0, .inr (5, [.ref b0_0, .ref b0_1, .ref b0_2, .int x0_kept, .ref b0_4, .int x0_typed, .int x0_thrown, .int x0_at, .int x0_isFault, .int x0_value, .ref b0_10, .int x0_tolds, .ref a1, .ref b0_13, .ref b0_14])), (a1, .inl (cI, 10, .inl w2)), (a2, .inl (cI, n2, .inl f2))]) (u2 fun l2_1 w2 => [(0, .ref a0), (1, .ref a2), (2, .int l2_1)]) rfl rfl (u1 fun w3 => [(a0, .inr (5, [.ref b0_0, .ref b0_1, .ref b0_2, .int x0_kept, .ref b0_4, .int x0_typed, .int x0_thrown, .int x0_at, .int x0_isFault, .int x0_value, .ref b0_10, .int x0_tolds, .ref a1, .ref b0_13, .ref b0_14])), (a1, .inl (cI, 10, .inl w3)), (a2, .inl (cI, n2, .inl f2))]) (u1 fun w3 => []) 75 ?_ ?_
  · rintro w3 h
    dsimp only [u1] at h ⊢
    have h := Option.some.inj h
    have e0 := h
    exact g_vret X hr hlk dX5_laysAhead_75 (by subst_vars; rfl)
  · rintro ⟨l2_1, w2⟩ o h hI hE
    dsimp only [u2] at h ⊢
    refine g_iload_n X (j := 2) dX5_laysAhead_2 rfl ?_
    refine g_bipush (v := 10) X dX5_laysAhead_3 (by decide) ?_
    refine g_icmp_ge (tgt := 75) X h dX5_laysAhead_5 (by decide) (fun h => ?_) (fun h => ?_)
    · refine g_lv (lv' := []) [] rfl ?_
      exact hE w2 (Option.some.inj h).symm
    · refine g_aload_n X (j := 0) dX5_laysAhead_8 rfl ?_
      refine g_get (q0 := 0) (k := 12) (ci := 5) X in_X5_laysAhead_X5 fl_X5_laysAhead_25 rfl rfl (Nat.le_of_ble_eq_true rfl) rfl dX5_laysAhead_9 ?_
      refine g_iload_n X (j := 2) dX5_laysAhead_12 rfl ?_
      refine g_iconst (v := 0) X dX5_laysAhead_13 (by decide) ?_
      refine g_iast (q0 := 1) (t0 := 0) (ws1 := fun g4 => [(a0, .inr (5, [.ref b0_0, .ref b0_1, .ref b0_2, .int x0_kept, .ref b0_4, .int x0_typed, .int x0_thrown, .int x0_at, .int x0_isFault, .int x0_value, .ref b0_10, .int x0_tolds, .ref a1, .ref b0_13, .ref b0_14])), (a1, .inl (cI, 10, .inl g4)), (a2, .inl (cI, n2, .inl f2))]) X h rfl rfl dX5_laysAhead_14 (fun _ => rfl) (fun g4 h => ?_)
      refine g_iconst (v := 0) X dX5_laysAhead_15 (by decide) ?_
      refine g_istore_n (lv' := [(3, .int 0), (0, .ref a0), (1, .ref a2), (2, .int l2_1)]) X dX5_laysAhead_16 rfl (by decide) rfl ?_
      refine g_lv (lv' := [(0, .ref a0), (1, .ref a2), (2, .int l2_1), (3, .int 0)]) [1, 2, 3, 0] rfl ?_
      refine wl_g1 h (u2 fun l3_5 w6 => [(a0, .inr (5, [.ref b0_0, .ref b0_1, .ref b0_2, .int x0_kept, .ref b0_4, .int x0_typed, .int x0_thrown, .int x0_at, .int x0_isFault, .int x0_value, .ref b0_10, .int x0_tolds, .ref a1, .ref b0_13, .ref b0_14])), (a1, .inl (cI, 10, .inl w6)), (a2, .inl (cI, n2, .inl f2))]) (u2 fun l3_5 w6 => [(0, .ref a0), (1, .ref a2), (2, .int l2_1), (3, .int l3_5)]) rfl rfl (u1 fun w7 => [(a0, .inr (5, [.ref b0_0, .ref b0_1, .ref b0_2, .int x0_kept, .ref b0_4, .int x0_typed, .int x0_thrown, .int x0_at, .int x0_isFault, .int x0_value, .ref b0_10, .int x0_tolds, .ref a1, .ref b0_13, .ref b0_14])), (a1, .inl (cI, 10, .inl w7)), (a2, .inl (cI, n2, .inl f2))]) (u1 fun w7 => [(0, .ref a0), (1, .ref a2), (2, .int l2_1)]) 69 ?_ ?_
      · rintro w7 h
        dsimp only [u1] at h ⊢
        refine g_iinc (j := 2) (lv' := [(2, .int (l2_1 + 1)), (0, .ref a0), (1, .ref a2)]) X (l2_1 + 1) dX5_laysAhead_69 rfl rfl (by decide) rfl ?_
        refine g_goto (tgt := 2) X dX5_laysAhead_72 (by decide) ?_
        refine g_lv (lv' := [(0, .ref a0), (1, .ref a2), (2, .int (l2_1 + 1))]) [1, 2, 0] rfl ?_
        exact hI ((l2_1 + 1), w7) (Option.some.inj h).symm
      · rintro ⟨l3_5, w6⟩ o h hI hE
        dsimp only [u2] at h ⊢
        refine g_iload_n X (j := 3) dX5_laysAhead_17 rfl ?_
        refine g_aload_n X (j := 1) dX5_laysAhead_18 rfl ?_
        refine g_bipush (v := 40) X dX5_laysAhead_19 (by decide) ?_
        refine g_iald (q0 := 2) (t0 := 0) X h rfl rfl dX5_laysAhead_21 (fun v8 h => ?_)
        refine g_icmp_ge (tgt := 69) X h dX5_laysAhead_22 (by decide) (fun h => ?_) (fun h => ?_)
        · refine g_lv (lv' := [(0, .ref a0), (1, .ref a2), (2, .int l2_1)]) [0, 1, 2] rfl ?_
          exact hE w6 (Option.some.inj h).symm
        · refine g_iload_n X (j := 2) dX5_laysAhead_25 rfl ?_
          refine g_aload_n X (j := 1) dX5_laysAhead_26 rfl ?_
          refine g_bipush (v := 40) X dX5_laysAhead_27 (by decide) ?_
          refine g_iald (q0 := 2) (t0 := 0) X h rfl rfl dX5_laysAhead_29 (fun v9 h => ?_)
          refine g_icmp_ge (tgt := 69) X h dX5_laysAhead_30 (by decide) (fun h => ?_) (fun h => ?_)
          · refine g_lv (lv' := [(0, .ref a0), (1, .ref a2), (2, .int l2_1)]) [0, 1, 2] rfl ?_
            exact hE w6 (Option.some.inj h).symm
          · refine g_aload_n X (j := 0) dX5_laysAhead_33 rfl ?_
            refine g_get (q0 := 0) (k := 12) (ci := 5) X in_X5_laysAhead_X5 fl_X5_laysAhead_25 rfl rfl (Nat.le_of_ble_eq_true rfl) rfl dX5_laysAhead_34 ?_
            refine g_iload_n X (j := 2) dX5_laysAhead_37 rfl ?_
            refine g_dup2 X dX5_laysAhead_38 rfl rfl ?_
            refine g_iald (q0 := 1) (t0 := 0) X h rfl rfl dX5_laysAhead_39 (fun v10 h => ?_)
            refine g_iload_n X (j := 3) dX5_laysAhead_40 rfl ?_
            refine g_iload_n X (j := 2) dX5_laysAhead_41 rfl ?_
            refine jn_g h (u1 fun s11 => [(a0, .inr (5, [.ref b0_0, .ref b0_1, .ref b0_2, .int x0_kept, .ref b0_4, .int x0_typed, .int x0_thrown, .int x0_at, .int x0_isFault, .int x0_value, .ref b0_10, .int x0_tolds, .ref a1, .ref b0_13, .ref b0_14])), (a1, .inl (cI, 10, .inl w6)), (a2, .inl (cI, n2, .inl f2))]) (u1 fun s11 => [(0, .ref a0), (1, .ref a2), (2, .int l2_1), (3, .int l3_5)]) (u1 fun s11 => [.int s11, .int v10, .int l2_1, .ref a1]) 61 ?_ ?_
            · rintro s11 h
              dsimp only [u1] at h ⊢
              refine g_ior X dX5_laysAhead_61 ?_
              refine g_iast (q0 := 1) (t0 := 0) (ws1 := fun g13 => [(a0, .inr (5, [.ref b0_0, .ref b0_1, .ref b0_2, .int x0_kept, .ref b0_4, .int x0_typed, .int x0_thrown, .int x0_at, .int x0_isFault, .int x0_value, .ref b0_10, .int x0_tolds, .ref a1, .ref b0_13, .ref b0_14])), (a1, .inl (cI, 10, .inl g13)), (a2, .inl (cI, n2, .inl f2))]) X h rfl rfl dX5_laysAhead_62 (fun _ => rfl) (fun g13 h => ?_)
              refine g_iinc (j := 3) (lv' := [(3, .int (l3_5 + 1)), (0, .ref a0), (1, .ref a2), (2, .int l2_1)]) X (l3_5 + 1) dX5_laysAhead_63 rfl rfl (by decide) rfl ?_
              refine g_goto (tgt := 17) X dX5_laysAhead_66 (by decide) ?_
              refine g_lv (lv' := [(0, .ref a0), (1, .ref a2), (2, .int l2_1), (3, .int (l3_5 + 1))]) [1, 2, 3, 0] rfl ?_
              exact hI ((l3_5 + 1), g13) (Option.some.inj h).symm
            · intro K12 hK12 h
              refine jn_g h (u0 ([(a0, .inr (5, [.ref b0_0, .ref b0_1, .ref b0_2, .int x0_kept, .ref b0_4, .int x0_typed, .int x0_thrown, .int x0_at, .int x0_isFault, .int x0_value, .ref b0_10, .int x0_tolds, .ref a1, .ref b0_13, .ref b0_14])), (a1, .inl (cI, 10, .inl w6)), (a2, .inl (cI, n2, .inl f2))])) (u0 ([(0, .ref a0), (1, .ref a2), (2, .int l2_1), (3, .int l3_5)])) (u0 ([.int v10, .int l2_1, .ref a1])) 60 ?_ ?_
              · rintro ⟨⟩ h
                dsimp only [u0] at h ⊢
                refine g_iconst (v := 0) X dX5_laysAhead_60 (by decide) ?_
                exact hK12 0 h
              · intro K14 hK14 h
                refine g_icmp_eq (tgt := 60) X h dX5_laysAhead_42 (by decide) (fun h => ?_) (fun h => ?_)
                · exact hK14 () h
                · refine g_aload_n X (j := 1) dX5_laysAhead_45 rfl ?_
                  refine g_iload_n X (j := 3) dX5_laysAhead_46 rfl ?_
                  refine g_iload_n X (j := 2) dX5_laysAhead_47 rfl ?_
                  obtain ⟨r15, hc, h⟩ := bd1 h
                  refine g_callS (is := [2]) (As := [.ref a2, .int l3_5, .int l2_1]) (ws' := [(a0, .inr (5, [.ref b0_0, .ref b0_1, .ref b0_2, .int x0_kept, .ref b0_4, .int x0_typed, .int x0_thrown, .int x0_at, .int x0_isFault, .int x0_value, .ref b0_10, .int x0_tolds, .ref a1, .ref b0_13, .ref b0_14])), (a1, .inl (cI, 10, .inl w6)), (a2, .inl (cI, n2, .inl f2))]) (st := [.int v10, .int l2_1, .ref a1]) X (c_X5_by l D cI cS cL a2 l3_5 l2_1 n2 f2 r15 hc) gX5_laysAhead_X5_by rfl ⟨rfl, rfl⟩ hd_X5_by.2 ⟨Nat.le_of_ble_eq_true rfl, Nat.le_of_ble_eq_true rfl⟩ ⟨Nat.zero_le _, Nat.zero_le _⟩ rfl rfl rfl rfl rfl (Nat.le_of_ble_eq_true rfl) rfl dX5_laysAhead_48 ?_
                  refine g_if_eq (tgt := 60) X h dX5_laysAhead_51 (by decide) (fun h => ?_) (fun h => ?_)
                  · exact hK14 () h
                  · refine g_iconst (v := 1) X dX5_laysAhead_54 (by decide) ?_
                    refine g_iload_n X (j := 3) dX5_laysAhead_55 rfl ?_
                    refine g_ishl X dX5_laysAhead_56 ?_
                    refine g_goto (tgt := 61) X dX5_laysAhead_57 (by decide) ?_
                    exact hK12 (1 <<< (l3_5 &&& 31)) h
