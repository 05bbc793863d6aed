theorem dL_low_0 : decode cL_low 0 = .ok (.iload_n 0, 1) := by decide +kernel
theorem dL_low_1 : decode cL_low 1 = .ok (.ldc 7, 2) := by decide +kernel
theorem dL_low_3 : decode cL_low 3 = .ok (.iand, 1) := by decide +kernel
theorem dL_low_4 : decode cL_low 4 = .ok (.iload_n 1, 1) := by decide +kernel
theorem dL_low_5 : decode cL_low 5 = .ok (.irem, 1) := by decide +kernel
theorem dL_low_6 : decode cL_low 6 = .ok (.ireturn, 1) := by decide +kernel
theorem dL_cell_0 : decode cL_cell 0 = .ok (.iload_n 1, 1) := by decide +kernel
theorem dL_cell_1 : decode cL_cell 1 = .ok (.aload_n 0, 1) := by decide +kernel
theorem dL_cell_2 : decode cL_cell 2 = .ok (.arraylength, 1) := by decide +kernel
theorem dL_cell_3 : decode cL_cell 3 = .ok (.if_icmp .ge 9, 3) := by decide +kernel
theorem dL_cell_6 : decode cL_cell 6 = .ok (.aload_n 0, 1) := by decide +kernel
theorem dL_cell_7 : decode cL_cell 7 = .ok (.iload_n 1, 1) := by decide +kernel
theorem dL_cell_8 : decode cL_cell 8 = .ok (.iaload, 1) := by decide +kernel
theorem dL_cell_9 : decode cL_cell 9 = .ok (.goto 11, 3) := by decide +kernel
theorem dL_cell_12 : decode cL_cell 12 = .ok (.ldc 8, 2) := by decide +kernel
theorem dL_cell_14 : decode cL_cell 14 = .ok (.iload_n 1, 1) := by decide +kernel
theorem dL_cell_15 : decode cL_cell 15 = .ok (.imul, 1) := by decide +kernel
theorem dL_cell_16 : decode cL_cell 16 = .ok (.sipush 977, 3) := by decide +kernel
theorem dL_cell_19 : decode cL_cell 19 = .ok (.iadd, 1) := by decide +kernel
theorem dL_cell_20 : decode cL_cell 20 = .ok (.ireturn, 1) := by decide +kernel
theorem dL_ones_0 : decode cL_ones 0 = .ok (.iconst 0, 1) := by decide +kernel
theorem dL_ones_1 : decode cL_ones 1 = .ok (.istore_n 1, 1) := by decide +kernel
theorem dL_ones_2 : decode cL_ones 2 = .ok (.iload_n 0, 1) := by decide +kernel
theorem dL_ones_3 : decode cL_ones 3 = .ok (.istore_n 2, 1) := by decide +kernel
theorem dL_ones_4 : decode cL_ones 4 = .ok (.iload_n 2, 1) := by decide +kernel
theorem dL_ones_5 : decode cL_ones 5 = .ok (.ifCond .eq 15, 3) := by decide +kernel
theorem dL_ones_8 : decode cL_ones 8 = .ok (.iinc 1 1, 3) := by decide +kernel
theorem dL_ones_11 : decode cL_ones 11 = .ok (.iload_n 2, 1) := by decide +kernel
theorem dL_ones_12 : decode cL_ones 12 = .ok (.iload_n 2, 1) := by decide +kernel
theorem dL_ones_13 : decode cL_ones 13 = .ok (.iconst 1, 1) := by decide +kernel
theorem dL_ones_14 : decode cL_ones 14 = .ok (.isub, 1) := by decide +kernel
theorem dL_ones_15 : decode cL_ones 15 = .ok (.iand, 1) := by decide +kernel
theorem dL_ones_16 : decode cL_ones 16 = .ok (.istore_n 2, 1) := by decide +kernel
theorem dL_ones_17 : decode cL_ones 17 = .ok (.goto (-13), 3) := by decide +kernel
theorem dL_ones_20 : decode cL_ones 20 = .ok (.iload_n 1, 1) := by decide +kernel
theorem dL_ones_21 : decode cL_ones 21 = .ok (.ireturn, 1) := by decide +kernel
def f_L_low (p0 : Int32) (p1 : Int32) : Option (Int32) := gZ p1 (some ((p0 &&& 2147483647) - (p0 &&& 2147483647) / p1 * p1))
theorem ct_L_low_7 : Jvm.Cond.constant RL 7 (2147483647) ∈ wsL_low := by decide +kernel
theorem hd_L_low : yL_low.cls = RL ∧ yL_low.cls ≠ "java/lang/invoke/MethodHandle" ∧ yL_low.cls ≠ "java/lang/invoke/VarHandle" ∧ (parseMethodDescriptor yL_low.desc).map (fun d => d.parameters.length) = some 2 := by decide +kernel
set_option maxRecDepth 100000 in
set_option maxHeartbeats 4000000 in
theorem c_L_low (l : Launch) (D : va_G) (cI cS cL : ClassId) (p0 : Int32) (p1 : Int32) (rr : Int32) (hc : f_L_low p0 p1 = some rr) : KM l yL_low wsL_low { frames := 0, cells := 0, slots := 0, locals := 0 } D (tyS cI cS cL) [.int p0, .int p1] [] (some (.int rr)) (fun w => w = []) 0 0 := by
  refine g_entry (cc := cL_low) (nL := 2) (rt := (some .int)) (by decide) rfl (Nat.le_of_ble_eq_true rfl) ?_
  intro p e s m args below meth c A (X : GC p s m args c cL_low 2 RL wsL_low D (tyS cI cS cL) A) hr hlk _ _
  have h := hc
  unfold f_L_low at h
  refine g_lv (lv' := [(0, .int p0), (1, .int p1)]) [0, 1] rfl ?_
  refine g_iload_n X (j := 0) dL_low_0 rfl ?_
  refine g_ldc X ct_L_low_7 dL_low_1 ?_
  refine g_iand X dL_low_3 ?_
  refine g_iload_n X (j := 1) dL_low_4 rfl ?_
  refine g_irem X h dL_low_5 (fun h => ?_)
  have h := Option.some.inj h
  subst h
  exact g_iret X hr hlk dL_low_6 rfl rfl
def f_L_ones (p0 : Int32) : Option (Int32) := (wl (u2 fun (l1_1 : Int32) (l2_2 : Int32) => (if l2_2 = 0 then some (Sum.inr l1_1) else some (Sum.inl ((l1_1 + 1), (l2_2 &&& (l2_2 - 1)))))) 9999 (0, p0)).bind (u1 fun (l1_3 : Int32) => some l1_3)
theorem hd_L_ones : yL_ones.cls = RL ∧ yL_ones.cls ≠ "java/lang/invoke/MethodHandle" ∧ yL_ones.cls ≠ "java/lang/invoke/VarHandle" ∧ (parseMethodDescriptor yL_ones.desc).map (fun d => d.parameters.length) = some 1 := by decide +kernel
set_option maxRecDepth 100000 in
set_option maxHeartbeats 4000000 in
theorem c_L_ones (l : Launch) (D : va_G) (cI cS cL : ClassId) (p0 : Int32) (rr : Int32) (hc : f_L_ones p0 = some rr) : KM l yL_ones wsL_ones { frames := 0, cells := 0, slots := 0, locals := 0 } D (tyS cI cS cL) [.int p0] [] (some (.int rr)) (fun w => w = []) 0 0 := by
  refine g_entry (cc := cL_ones) (nL := 3) (rt := (some .int)) (by decide) rfl (Nat.le_of_ble_eq_true rfl) ?_
  intro p e s m args below meth c A (X : GC p s m args c cL_ones 3 RL wsL_ones D (tyS cI cS cL) A) hr hlk _ _
  have h := hc
  unfold f_L_ones at h
  refine g_lv (lv' := [(0, .int p0)]) [0] rfl ?_
  refine g_iconst (v := 0) X dL_ones_0 (by decide) ?_
  refine g_istore_n (lv' := [(1, .int 0), (0, .int p0)]) X dL_ones_1 rfl (by decide) rfl ?_
  refine g_iload_n X (j := 1) dL_ones_2 rfl ?_
  refine g_istore_n (lv' := [(2, .int p0), (1, .int 0), (0, .int p0)]) X dL_ones_3 rfl (by decide) rfl ?_
  refine g_lv (lv' := [(1, .int 0), (2, .int p0)]) [1, 0] rfl ?_
  refine wl_g1 h (u2 fun l1_1 l2_2 => []) (u2 fun l1_1 l2_2 => [(1, .int l1_1), (2, .int l2_2)]) rfl rfl (u1 fun l1_3 => []) (u1 fun l1_3 => [(1, .int l1_3)]) 20 ?_ ?_
  · rintro l1_3 h
    dsimp only [u1] at h ⊢
    refine g_iload_n X (j := 0) dL_ones_20 rfl ?_
    have h := Option.some.inj h
    subst h
    exact g_iret X hr hlk dL_ones_21 rfl rfl
  · rintro ⟨l1_1, l2_2⟩ o h hI hE
    dsimp only [u2] at h ⊢
    refine g_iload_n X (j := 1) dL_ones_4 rfl ?_
    refine g_if_eq (tgt := 20) X h dL_ones_5 (by decide) (fun h => ?_) (fun h => ?_)
    · refine g_lv (lv' := [(1, .int l1_1)]) [0] rfl ?_
      exact hE l1_1 (Option.some.inj h).symm
    · refine g_iinc (j := 0) (lv' := [(1, .int (l1_1 + 1)), (2, .int l2_2)]) X (l1_1 + 1) dL_ones_8 rfl rfl (by decide) rfl ?_
      refine g_iload_n X (j := 1) dL_ones_11 rfl ?_
      refine g_iload_n X (j := 1) dL_ones_12 rfl ?_
      refine g_iconst (v := 1) X dL_ones_13 (by decide) ?_
      refine g_isub X dL_ones_14 ?_
      refine g_iand X dL_ones_15 ?_
      refine g_istore_n (lv' := [(2, .int (l2_2 &&& (l2_2 - 1))), (1, .int (l1_1 + 1))]) X dL_ones_16 rfl (by decide) rfl ?_
      refine g_goto (tgt := 4) X dL_ones_17 (by decide) ?_
      refine g_lv (lv' := [(1, .int (l1_1 + 1)), (2, .int (l2_2 &&& (l2_2 - 1)))]) [1, 0] rfl ?_
      exact hI ((l1_1 + 1), (l2_2 &&& (l2_2 - 1))) (Option.some.inj h).symm
def f_L_cell (L : Nat) (xs : Nat → Int32) (p1 : Int32) : Option (Int32) := (jn (u1 fun (s1 : Int32) => some s1) (fun K2 => (if (Int32.ofNat L) ≤ p1 then K2 (((40503 : Int32) * p1) + 977) else (rdA xs L p1).bind (fun v3 => K2 v3))))
theorem ct_L_cell_8 : Jvm.Cond.constant RL 8 (40503) ∈ wsL_cell := by decide +kernel
theorem hd_L_cell : yL_cell.cls = RL ∧ yL_cell.cls ≠ "java/lang/invoke/MethodHandle" ∧ yL_cell.cls ≠ "java/lang/invoke/VarHandle" ∧ (parseMethodDescriptor yL_cell.desc).map (fun d => d.parameters.length) = some 2 := by decide +kernel
set_option maxRecDepth 100000 in
set_option maxHeartbeats 4000000 in
theorem c_L_cell (l : Launch) (D : va_G) (cI cS cL : ClassId) (b L : Nat) (xs : Nat → Int32) (p1 : Int32) (rr : Int32) (hc : f_L_cell L xs p1 = some rr) : KS l yL_cell wsL_cell { frames := 0, cells := 0, slots := 0, locals := 0 } D (tyS cI cS cL) b L xs [.ref b, .int p1] [] (some (.int rr)) (fun w => w = []) 0 0 := by
  refine g_entryS (cc := cL_cell) (nL := 2) (rt := (some .int)) (by decide) rfl (Nat.le_of_ble_eq_true rfl) ?_
  intro p e s m args below meth c A (X : GC p s m args c cL_cell 2 RL wsL_cell D (tyS cI cS cL) A) Y Z hr hlk
  have h := hc
  unfold f_L_cell at h
  refine g_lv (lv' := [(0, .ref b), (1, .int p1)]) [0, 1] rfl ?_
  refine g_iload_n X (j := 1) dL_cell_0 rfl ?_
  refine g_aload_n X (j := 0) dL_cell_1 rfl ?_
  refine g_slenR X Z dL_cell_2 ?_
  refine jn_g h (u1 fun s1 => []) (u1 fun s1 => []) (u1 fun s1 => [.int s1]) 20 ?_ ?_
  · rintro s1 h
    dsimp only [u1] at h ⊢
    have h := Option.some.inj h
    subst h
    exact g_iret X hr hlk dL_cell_20 rfl rfl
  · intro K2 hK2 h
    refine g_icmp_ge (tgt := 12) X h dL_cell_3 (by decide) (fun h => ?_) (fun h => ?_)
    · refine g_ldc X ct_L_cell_8 dL_cell_12 ?_
      refine g_iload_n X (j := 1) dL_cell_14 rfl ?_
      refine g_imul X dL_cell_15 ?_
      refine g_sipush (v := 977) X dL_cell_16 (by decide) ?_
      refine g_iadd X dL_cell_19 ?_
      refine g_lv (lv' := []) [] rfl ?_
      exact hK2 (((40503 : Int32) * p1) + 977) h
    · refine g_aload_n X (j := 0) dL_cell_6 rfl ?_
      refine g_iload_n X (j := 1) dL_cell_7 rfl ?_
      refine g_sldR X Z h dL_cell_8 (fun v3 h => ?_)
      refine g_goto (tgt := 20) X dL_cell_9 (by decide) ?_
      refine g_lv (lv' := []) [] rfl ?_
      exact hK2 v3 h
