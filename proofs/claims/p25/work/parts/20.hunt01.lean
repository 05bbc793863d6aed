theorem dX4_isBook_0 : decode cX4_isBook 0 = .ok (.iload_n 1, 1) := by decide +kernel
theorem dX4_isBook_1 : decode cX4_isBook 1 = .ok (.ifCond .lt 18, 3) := by decide +kernel
theorem dX4_isBook_4 : decode cX4_isBook 4 = .ok (.iload_n 1, 1) := by decide +kernel
theorem dX4_isBook_5 : decode cX4_isBook 5 = .ok (.aload_n 0, 1) := by decide +kernel
theorem dX4_isBook_6 : decode cX4_isBook 6 = .ok (.getfield 12, 3) := by decide +kernel
theorem dX4_isBook_9 : decode cX4_isBook 9 = .ok (.getfield 75, 3) := by decide +kernel
theorem dX4_isBook_12 : decode cX4_isBook 12 = .ok (.if_icmp .ge 7, 3) := by decide +kernel
theorem dX4_isBook_15 : decode cX4_isBook 15 = .ok (.iconst 1, 1) := by decide +kernel
theorem dX4_isBook_16 : decode cX4_isBook 16 = .ok (.goto 4, 3) := by decide +kernel
theorem dX4_isBook_19 : decode cX4_isBook 19 = .ok (.iconst 0, 1) := by decide +kernel
theorem dX4_isBook_20 : decode cX4_isBook 20 = .ok (.ireturn, 1) := by decide +kernel
theorem dX4_isPress_0 : decode cX4_isPress 0 = .ok (.iload_n 0, 1) := by decide +kernel
theorem dX4_isPress_1 : decode cX4_isPress 1 = .ok (.ifCond .lt 12, 3) := by decide +kernel
theorem dX4_isPress_4 : decode cX4_isPress 4 = .ok (.iload_n 0, 1) := by decide +kernel
theorem dX4_isPress_5 : decode cX4_isPress 5 = .ok (.iconst 3, 1) := by decide +kernel
theorem dX4_isPress_6 : decode cX4_isPress 6 = .ok (.if_icmp .ge 7, 3) := by decide +kernel
theorem dX4_isPress_9 : decode cX4_isPress 9 = .ok (.iconst 1, 1) := by decide +kernel
theorem dX4_isPress_10 : decode cX4_isPress 10 = .ok (.goto 4, 3) := by decide +kernel
theorem dX4_isPress_13 : decode cX4_isPress 13 = .ok (.iconst 0, 1) := by decide +kernel
theorem dX4_isPress_14 : decode cX4_isPress 14 = .ok (.ireturn, 1) := by decide +kernel
theorem dX4_isLetter_0 : decode cX4_isLetter 0 = .ok (.iload_n 0, 1) := by decide +kernel
theorem dX4_isLetter_1 : decode cX4_isLetter 1 = .ok (.ifCond .lt 13, 3) := by decide +kernel
theorem dX4_isLetter_4 : decode cX4_isLetter 4 = .ok (.iload_n 0, 1) := by decide +kernel
theorem dX4_isLetter_5 : decode cX4_isLetter 5 = .ok (.bipush 12, 2) := by decide +kernel
theorem dX4_isLetter_7 : decode cX4_isLetter 7 = .ok (.if_icmp .ge 7, 3) := by decide +kernel
theorem dX4_isLetter_10 : decode cX4_isLetter 10 = .ok (.iconst 1, 1) := by decide +kernel
theorem dX4_isLetter_11 : decode cX4_isLetter 11 = .ok (.goto 4, 3) := by decide +kernel
theorem dX4_isLetter_14 : decode cX4_isLetter 14 = .ok (.iconst 0, 1) := by decide +kernel
theorem dX4_isLetter_15 : decode cX4_isLetter 15 = .ok (.ireturn, 1) := by decide +kernel
theorem dX4_isLetterMask_0 : decode cX4_isLetterMask 0 = .ok (.iload_n 0, 1) := by decide +kernel
theorem dX4_isLetterMask_1 : decode cX4_isLetterMask 1 = .ok (.ifCond .lt 14, 3) := by decide +kernel
theorem dX4_isLetterMask_4 : decode cX4_isLetterMask 4 = .ok (.iload_n 0, 1) := by decide +kernel
theorem dX4_isLetterMask_5 : decode cX4_isLetterMask 5 = .ok (.sipush 4096, 3) := by decide +kernel
theorem dX4_isLetterMask_8 : decode cX4_isLetterMask 8 = .ok (.if_icmp .ge 7, 3) := by decide +kernel
theorem dX4_isLetterMask_11 : decode cX4_isLetterMask 11 = .ok (.iconst 1, 1) := by decide +kernel
theorem dX4_isLetterMask_12 : decode cX4_isLetterMask 12 = .ok (.goto 4, 3) := by decide +kernel
theorem dX4_isLetterMask_15 : decode cX4_isLetterMask 15 = .ok (.iconst 0, 1) := by decide +kernel
theorem dX4_isLetterMask_16 : decode cX4_isLetterMask 16 = .ok (.ireturn, 1) := by decide +kernel
theorem dX4_isMouldOrNone_0 : decode cX4_isMouldOrNone 0 = .ok (.iload_n 0, 1) := by decide +kernel
theorem dX4_isMouldOrNone_1 : decode cX4_isMouldOrNone 1 = .ok (.iconst (-1), 1) := by decide +kernel
theorem dX4_isMouldOrNone_2 : decode cX4_isMouldOrNone 2 = .ok (.if_icmp .eq 13, 3) := by decide +kernel
theorem dX4_isMouldOrNone_5 : decode cX4_isMouldOrNone 5 = .ok (.iload_n 0, 1) := by decide +kernel
theorem dX4_isMouldOrNone_6 : decode cX4_isMouldOrNone 6 = .ok (.ifCond .lt 13, 3) := by decide +kernel
theorem dX4_isMouldOrNone_9 : decode cX4_isMouldOrNone 9 = .ok (.iload_n 0, 1) := by decide +kernel
theorem dX4_isMouldOrNone_10 : decode cX4_isMouldOrNone 10 = .ok (.bipush 99, 2) := by decide +kernel
theorem dX4_isMouldOrNone_12 : decode cX4_isMouldOrNone 12 = .ok (.if_icmp .gt 7, 3) := by decide +kernel
theorem dX4_isMouldOrNone_15 : decode cX4_isMouldOrNone 15 = .ok (.iconst 1, 1) := by decide +kernel
theorem dX4_isMouldOrNone_16 : decode cX4_isMouldOrNone 16 = .ok (.goto 4, 3) := by decide +kernel
theorem dX4_isMouldOrNone_19 : decode cX4_isMouldOrNone 19 = .ok (.iconst 0, 1) := by decide +kernel
theorem dX4_isMouldOrNone_20 : decode cX4_isMouldOrNone 20 = .ok (.ireturn, 1) := by decide +kernel
theorem dX4_isYear_0 : decode cX4_isYear 0 = .ok (.iload_n 0, 1) := by decide +kernel
theorem dX4_isYear_1 : decode cX4_isYear 1 = .ok (.sipush 1450, 3) := by decide +kernel
theorem dX4_isYear_4 : decode cX4_isYear 4 = .ok (.if_icmp .lt 14, 3) := by decide +kernel
theorem dX4_isYear_7 : decode cX4_isYear 7 = .ok (.iload_n 0, 1) := by decide +kernel
theorem dX4_isYear_8 : decode cX4_isYear 8 = .ok (.sipush 1999, 3) := by decide +kernel
theorem dX4_isYear_11 : decode cX4_isYear 11 = .ok (.if_icmp .gt 7, 3) := by decide +kernel
theorem dX4_isYear_14 : decode cX4_isYear 14 = .ok (.iconst 1, 1) := by decide +kernel
theorem dX4_isYear_15 : decode cX4_isYear 15 = .ok (.goto 4, 3) := by decide +kernel
theorem dX4_isYear_18 : decode cX4_isYear 18 = .ok (.iconst 0, 1) := by decide +kernel
theorem dX4_isYear_19 : decode cX4_isYear 19 = .ok (.ireturn, 1) := by decide +kernel
set_option maxRecDepth 20000 in
theorem ggX4_isYearOrNone_X4_isYear : GoodIn wsX4_isYearOrNone wsX4_isYear := goodIn_r _ [4] (by decide +kernel) (by decide +kernel)
set_option maxRecDepth 20000 in
theorem gX4_isYearOrNone_X4_isYear : GoodIn wsX4_isYearOrNone (va_wsS RX4 220 yX4_isYear wsX4_isYear) := goodIn_app (goodIn_of _ (by decide +kernel)) ggX4_isYearOrNone_X4_isYear
theorem dX4_isYearOrNone_0 : decode cX4_isYearOrNone 0 = .ok (.iload_n 0, 1) := by decide +kernel
theorem dX4_isYearOrNone_1 : decode cX4_isYearOrNone 1 = .ok (.iconst (-1), 1) := by decide +kernel
theorem dX4_isYearOrNone_2 : decode cX4_isYearOrNone 2 = .ok (.if_icmp .eq 10, 3) := by decide +kernel
theorem dX4_isYearOrNone_5 : decode cX4_isYearOrNone 5 = .ok (.iload_n 0, 1) := by decide +kernel
theorem dX4_isYearOrNone_6 : decode cX4_isYearOrNone 6 = .ok (.invokestatic 220, 3) := by decide +kernel
theorem dX4_isYearOrNone_9 : decode cX4_isYearOrNone 9 = .ok (.ifCond .eq 7, 3) := by decide +kernel
theorem dX4_isYearOrNone_12 : decode cX4_isYearOrNone 12 = .ok (.iconst 1, 1) := by decide +kernel
theorem dX4_isYearOrNone_13 : decode cX4_isYearOrNone 13 = .ok (.goto 4, 3) := by decide +kernel
theorem dX4_isYearOrNone_16 : decode cX4_isYearOrNone 16 = .ok (.iconst 0, 1) := by decide +kernel
theorem dX4_isYearOrNone_17 : decode cX4_isYearOrNone 17 = .ok (.ireturn, 1) := by decide +kernel
def f_X4_isPress (p0 : Int32) : Option (Int32) := (jn (u1 fun (s1 : Int32) => gB s1 (some s1)) (fun K2 => jn (u0 (K2 0)) (fun K3 => (if p0 < 0 then K3 () else (if 3 ≤ p0 then K3 () else K2 1)))))
theorem hd_X4_isPress : yX4_isPress.cls = RX4 ∧ yX4_isPress.cls ≠ "java/lang/invoke/MethodHandle" ∧ yX4_isPress.cls ≠ "java/lang/invoke/VarHandle" ∧ (parseMethodDescriptor yX4_isPress.desc).map (fun d => d.parameters.length) = some 1 := by decide +kernel
set_option maxRecDepth 100000 in
set_option maxHeartbeats 4000000 in
theorem c_X4_isPress (l : Launch) (D : va_G) (cI cS cL : ClassId) (p0 : Int32) (rr : Int32) (hc : f_X4_isPress p0 = some rr) : KM l yX4_isPress wsX4_isPress { frames := 0, cells := 0, slots := 0, locals := 0 } D (tyS cI cS cL) [.int p0] [] (some (.int rr)) (fun w => w = []) 0 0 := by
  refine g_entry (cc := cX4_isPress) (nL := 1) (rt := (some .boolean)) (by decide) rfl (Nat.le_of_ble_eq_true rfl) ?_
  intro p e s m args below meth c A (X : GC p s m args c cX4_isPress 1 RX4 wsX4_isPress D (tyS cI cS cL) A) hr hlk _ _
  have h := hc
  unfold f_X4_isPress at h
  refine g_lv (lv' := [(0, .int p0)]) [0] rfl ?_
  refine g_iload_n X (j := 0) dX4_isPress_0 rfl ?_
  refine jn_g h (u1 fun s1 => []) (u1 fun s1 => []) (u1 fun s1 => [.int s1]) 14 ?_ ?_
  · rintro s1 h
    dsimp only [u1] at h ⊢
    obtain ⟨hz, h⟩ := gB_e h
    have h := Option.some.inj h
    subst h
    exact g_zret X hr hlk hz dX4_isPress_14 rfl rfl
  · intro K2 hK2 h
    refine jn_g h (u0 ([])) (u0 ([])) (u0 ([])) 13 ?_ ?_
    · rintro ⟨⟩ h
      dsimp only [u0] at h ⊢
      refine g_iconst (v := 0) X dX4_isPress_13 (by decide) ?_
      exact hK2 0 h
    · intro K3 hK3 h
      refine g_if_lt (tgt := 13) X h dX4_isPress_1 (by decide) (fun h => ?_) (fun h => ?_)
      · refine g_lv (lv' := []) [] rfl ?_
        exact hK3 () h
      · refine g_iload_n X (j := 0) dX4_isPress_4 rfl ?_
        refine g_iconst (v := 3) X dX4_isPress_5 (by decide) ?_
        refine g_icmp_ge (tgt := 13) X h dX4_isPress_6 (by decide) (fun h => ?_) (fun h => ?_)
        · refine g_lv (lv' := []) [] rfl ?_
          exact hK3 () h
        · refine g_iconst (v := 1) X dX4_isPress_9 (by decide) ?_
          refine g_goto (tgt := 14) X dX4_isPress_10 (by decide) ?_
          refine g_lv (lv' := []) [] rfl ?_
          exact hK2 1 h
def f_X4_isLetter (p0 : Int32) : Option (Int32) := (jn (u1 fun (s1 : Int32) => gB s1 (some s1)) (fun K2 => jn (u0 (K2 0)) (fun K3 => (if p0 < 0 then K3 () else (if 12 ≤ p0 then K3 () else K2 1)))))
theorem hd_X4_isLetter : yX4_isLetter.cls = RX4 ∧ yX4_isLetter.cls ≠ "java/lang/invoke/MethodHandle" ∧ yX4_isLetter.cls ≠ "java/lang/invoke/VarHandle" ∧ (parseMethodDescriptor yX4_isLetter.desc).map (fun d => d.parameters.length) = some 1 := by decide +kernel
set_option maxRecDepth 100000 in
set_option maxHeartbeats 4000000 in
theorem c_X4_isLetter (l : Launch) (D : va_G) (cI cS cL : ClassId) (p0 : Int32) (rr : Int32) (hc : f_X4_isLetter p0 = some rr) : KM l yX4_isLetter wsX4_isLetter { frames := 0, cells := 0, slots := 0, locals := 0 } D (tyS cI cS cL) [.int p0] [] (some (.int rr)) (fun w => w = []) 0 0 := by
  refine g_entry (cc := cX4_isLetter) (nL := 1) (rt := (some .boolean)) (by decide) rfl (Nat.le_of_ble_eq_true rfl) ?_
  intro p e s m args below meth c A (X : GC p s m args c cX4_isLetter 1 RX4 wsX4_isLetter D (tyS cI cS cL) A) hr hlk _ _
  have h := hc
  unfold f_X4_isLetter at h
  refine g_lv (lv' := [(0, .int p0)]) [0] rfl ?_
  refine g_iload_n X (j := 0) dX4_isLetter_0 rfl ?_
  refine jn_g h (u1 fun s1 => []) (u1 fun s1 => []) (u1 fun s1 => [.int s1]) 15 ?_ ?_
  · rintro s1 h
    dsimp only [u1] at h ⊢
    obtain ⟨hz, h⟩ := gB_e h
    have h := Option.some.inj h
    subst h
    exact g_zret X hr hlk hz dX4_isLetter_15 rfl rfl
  · intro K2 hK2 h
    refine jn_g h (u0 ([])) (u0 ([])) (u0 ([])) 14 ?_ ?_
    · rintro ⟨⟩ h
      dsimp only [u0] at h ⊢
      refine g_iconst (v := 0) X dX4_isLetter_14 (by decide) ?_
      exact hK2 0 h
    · intro K3 hK3 h
      refine g_if_lt (tgt := 14) X h dX4_isLetter_1 (by decide) (fun h => ?_) (fun h => ?_)
      · refine g_lv (lv' := []) [] rfl ?_
        exact hK3 () h
      · refine g_iload_n X (j := 0) dX4_isLetter_4 rfl ?_
        refine g_bipush (v := 12) X dX4_isLetter_5 (by decide) ?_
        refine g_icmp_ge (tgt := 14) X h dX4_isLetter_7 (by decide) (fun h => ?_) (fun h => ?_)
        · refine g_lv (lv' := []) [] rfl ?_
          exact hK3 () h
        · refine g_iconst (v := 1) X dX4_isLetter_10 (by decide) ?_
          refine g_goto (tgt := 15) X dX4_isLetter_11 (by decide) ?_
          refine g_lv (lv' := []) [] rfl ?_
          exact hK2 1 h
def f_X4_isLetterMask (p0 : Int32) : Option (Int32) := (jn (u1 fun (s1 : Int32) => gB s1 (some s1)) (fun K2 => jn (u0 (K2 0)) (fun K3 => (if p0 < 0 then K3 () else (if 4096 ≤ p0 then K3 () else K2 1)))))
theorem hd_X4_isLetterMask : yX4_isLetterMask.cls = RX4 ∧ yX4_isLetterMask.cls ≠ "java/lang/invoke/MethodHandle" ∧ yX4_isLetterMask.cls ≠ "java/lang/invoke/VarHandle" ∧ (parseMethodDescriptor yX4_isLetterMask.desc).map (fun d => d.parameters.length) = some 1 := by decide +kernel
set_option maxRecDepth 100000 in
set_option maxHeartbeats 4000000 in
theorem c_X4_isLetterMask (l : Launch) (D : va_G) (cI cS cL : ClassId) (p0 : Int32) (rr : Int32) (hc : f_X4_isLetterMask p0 = some rr) : KM l yX4_isLetterMask wsX4_isLetterMask { frames := 0, cells := 0, slots := 0, locals := 0 } D (tyS cI cS cL) [.int p0] [] (some (.int rr)) (fun w => w = []) 0 0 := by
  refine g_entry (cc := cX4_isLetterMask) (nL := 1) (rt := (some .boolean)) (by decide) rfl (Nat.le_of_ble_eq_true rfl) ?_
  intro p e s m args below meth c A (X : GC p s m args c cX4_isLetterMask 1 RX4 wsX4_isLetterMask D (tyS cI cS cL) A) hr hlk _ _
  have h := hc
  unfold f_X4_isLetterMask at h
  refine g_lv (lv' := [(0, .int p0)]) [0] rfl ?_
  refine g_iload_n X (j := 0) dX4_isLetterMask_0 rfl ?_
  refine jn_g h (u1 fun s1 => []) (u1 fun s1 => []) (u1 fun s1 => [.int s1]) 16 ?_ ?_
  · rintro s1 h
    dsimp only [u1] at h ⊢
    obtain ⟨hz, h⟩ := gB_e h
    have h := Option.some.inj h
    subst h
    exact g_zret X hr hlk hz dX4_isLetterMask_16 rfl rfl
  · intro K2 hK2 h
    refine jn_g h (u0 ([])) (u0 ([])) (u0 ([])) 15 ?_ ?_
    · rintro ⟨⟩ h
      dsimp only [u0] at h ⊢
      refine g_iconst (v := 0) X dX4_isLetterMask_15 (by decide) ?_
      exact hK2 0 h
    · intro K3 hK3 h
      refine g_if_lt (tgt := 15) X h dX4_isLetterMask_1 (by decide) (fun h => ?_) (fun h => ?_)
      · refine g_lv (lv' := []) [] rfl ?_
        exact hK3 () h
      · refine g_iload_n X (j := 0) dX4_isLetterMask_4 rfl ?_
        refine g_sipush (v := 4096) X dX4_isLetterMask_5 (by decide) ?_
        refine g_icmp_ge (tgt := 15) X h dX4_isLetterMask_8 (by decide) (fun h => ?_) (fun h => ?_)
        · refine g_lv (lv' := []) [] rfl ?_
          exact hK3 () h
        · refine g_iconst (v := 1) X dX4_isLetterMask_11 (by decide) ?_
          refine g_goto (tgt := 16) X dX4_isLetterMask_12 (by decide) ?_
          refine g_lv (lv' := []) [] rfl ?_
          exact hK2 1 h
def f_X4_isMouldOrNone (p0 : Int32) : Option (Int32) := (jn (u1 fun (s1 : Int32) => gB s1 (some s1)) (fun K2 => jn (u0 (K2 1)) (fun K3 => (if p0 = (-1) then K3 () else (jn (u0 (K2 0)) (fun K4 => (if p0 < 0 then K4 () else (if 99 < p0 then K4 () else K3 ()))))))))
theorem hd_X4_isMouldOrNone : yX4_isMouldOrNone.cls = RX4 ∧ yX4_isMouldOrNone.cls ≠ "java/lang/invoke/MethodHandle" ∧ yX4_isMouldOrNone.cls ≠ "java/lang/invoke/VarHandle" ∧ (parseMethodDescriptor yX4_isMouldOrNone.desc).map (fun d => d.parameters.length) = some 1 := by decide +kernel
set_option maxRecDepth 100000 in
set_option maxHeartbeats 4000000 in
theorem c_X4_isMouldOrNone (l : Launch) (D : va_G) (cI cS cL : ClassId) (p0 : Int32) (rr : Int32) (hc : f_X4_isMouldOrNone p0 = some rr) : KM l yX4_isMouldOrNone wsX4_isMouldOrNone { frames := 0, cells := 0, slots := 0, locals := 0 } D (tyS cI cS cL) [.int p0] [] (some (.int rr)) (fun w => w = []) 0 0 := by
  refine g_entry (cc := cX4_isMouldOrNone) (nL := 1) (rt := (some .boolean)) (by decide) rfl (Nat.le_of_ble_eq_true rfl) ?_
  intro p e s m args below meth c A (X : GC p s m args c cX4_isMouldOrNone 1 RX4 wsX4_isMouldOrNone D (tyS cI cS cL) A) hr hlk _ _
  have h := hc
  unfold f_X4_isMouldOrNone at h
  refine g_lv (lv' := [(0, .int p0)]) [0] rfl ?_
  refine g_iload_n X (j := 0) dX4_isMouldOrNone_0 rfl ?_
  refine g_iconst (v := (-1)) X dX4_isMouldOrNone_1 (by decide) ?_
  refine jn_g h (u1 fun s1 => []) (u1 fun s1 => []) (u1 fun s1 => [.int s1]) 20 ?_ ?_
  · rintro s1 h
    dsimp only [u1] at h ⊢
    obtain ⟨hz, h⟩ := gB_e h
    have h := Option.some.inj h
    subst h
    exact g_zret X hr hlk hz dX4_isMouldOrNone_20 rfl rfl
  · intro K2 hK2 h
    refine jn_g h (u0 ([])) (u0 ([])) (u0 ([])) 15 ?_ ?_
    · rintro ⟨⟩ h
      dsimp only [u0] at h ⊢
      refine g_iconst (v := 1) X dX4_isMouldOrNone_15 (by decide) ?_
      refine g_goto (tgt := 20) X dX4_isMouldOrNone_16 (by decide) ?_
      exact hK2 1 h
    · intro K3 hK3 h
      refine g_icmp_eq (tgt := 15) X h dX4_isMouldOrNone_2 (by decide) (fun h => ?_) (fun h => ?_)
      · refine g_lv (lv' := []) [] rfl ?_
        exact hK3 () h
      · refine g_iload_n X (j := 0) dX4_isMouldOrNone_5 rfl ?_
        refine jn_g h (u0 ([])) (u0 ([])) (u0 ([])) 19 ?_ ?_
        · rintro ⟨⟩ h
          dsimp only [u0] at h ⊢
          refine g_iconst (v := 0) X dX4_isMouldOrNone_19 (by decide) ?_
          exact hK2 0 h
        · intro K4 hK4 h
          refine g_if_lt (tgt := 19) X h dX4_isMouldOrNone_6 (by decide) (fun h => ?_) (fun h => ?_)
          · refine g_lv (lv' := []) [] rfl ?_
            exact hK4 () h
          · refine g_iload_n X (j := 0) dX4_isMouldOrNone_9 rfl ?_
            refine g_bipush (v := 99) X dX4_isMouldOrNone_10 (by decide) ?_
            refine g_icmp_gt (tgt := 19) X h dX4_isMouldOrNone_12 (by decide) (fun h => ?_) (fun h => ?_)
            · refine g_lv (lv' := []) [] rfl ?_
              exact hK4 () h
            · refine g_lv (lv' := []) [] rfl ?_
              exact hK3 () h
def f_X4_isYear (p0 : Int32) : Option (Int32) := (jn (u1 fun (s1 : Int32) => gB s1 (some s1)) (fun K2 => jn (u0 (K2 0)) (fun K3 => (if p0 < 1450 then K3 () else (if 1999 < p0 then K3 () else K2 1)))))
theorem hd_X4_isYear : yX4_isYear.cls = RX4 ∧ yX4_isYear.cls ≠ "java/lang/invoke/MethodHandle" ∧ yX4_isYear.cls ≠ "java/lang/invoke/VarHandle" ∧ (parseMethodDescriptor yX4_isYear.desc).map (fun d => d.parameters.length) = some 1 := by decide +kernel
set_option maxRecDepth 100000 in
set_option maxHeartbeats 4000000 in
theorem c_X4_isYear (l : Launch) (D : va_G) (cI cS cL : ClassId) (p0 : Int32) (rr : Int32) (hc : f_X4_isYear p0 = some rr) : KM l yX4_isYear wsX4_isYear { frames := 0, cells := 0, slots := 0, locals := 0 } D (tyS cI cS cL) [.int p0] [] (some (.int rr)) (fun w => w = []) 0 0 := by
  refine g_entry (cc := cX4_isYear) (nL := 1) (rt := (some .boolean)) (by decide) rfl (Nat.le_of_ble_eq_true rfl) ?_
  intro p e s m args below meth c A (X : GC p s m args c cX4_isYear 1 RX4 wsX4_isYear D (tyS cI cS cL) A) hr hlk _ _
  have h := hc
  unfold f_X4_isYear at h
  refine g_lv (lv' := [(0, .int p0)]) [0] rfl ?_
  refine g_iload_n X (j := 0) dX4_isYear_0 rfl ?_
  refine g_sipush (v := 1450) X dX4_isYear_1 (by decide) ?_
  refine jn_g h (u1 fun s1 => []) (u1 fun s1 => []) (u1 fun s1 => [.int s1]) 19 ?_ ?_
  · rintro s1 h
    dsimp only [u1] at h ⊢
    obtain ⟨hz, h⟩ := gB_e h
    have h := Option.some.inj h
    subst h
    exact g_zret X hr hlk hz dX4_isYear_19 rfl rfl
  · intro K2 hK2 h
    refine jn_g h (u0 ([])) (u0 ([])) (u0 ([])) 18 ?_ ?_
    · rintro ⟨⟩ h
      dsimp only [u0] at h ⊢
      refine g_iconst (v := 0) X dX4_isYear_18 (by decide) ?_
      exact hK2 0 h
    · intro K3 hK3 h
      refine g_icmp_lt (tgt := 18) X h dX4_isYear_4 (by decide) (fun h => ?_) (fun h => ?_)
      · refine g_lv (lv' := []) [] rfl ?_
        exact hK3 () h
      · refine g_iload_n X (j := 0) dX4_isYear_7 rfl ?_
        refine g_sipush (v := 1999) X dX4_isYear_8 (by decide) ?_
        refine g_icmp_gt (tgt := 18) X h dX4_isYear_11 (by decide) (fun h => ?_) (fun h => ?_)
        · refine g_lv (lv' := []) [] rfl ?_
          exact hK3 () h
        · refine g_iconst (v := 1) X dX4_isYear_14 (by decide) ?_
          refine g_goto (tgt := 19) X dX4_isYear_15 (by decide) ?_
          refine g_lv (lv' := []) [] rfl ?_
          exact hK2 1 h
def f_X4_isYearOrNone (p0 : Int32) : Option (Int32) := (jn (u1 fun (s1 : Int32) => gB s1 (some s1)) (fun K2 => jn (u0 (K2 1)) (fun K3 => (if p0 = (-1) then K3 () else (f_X4_isYear p0).bind (u1 fun (r4 : Int32) => (if r4 = 0 then K2 0 else K3 ()))))))
theorem hd_X4_isYearOrNone : yX4_isYearOrNone.cls = RX4 ∧ yX4_isYearOrNone.cls ≠ "java/lang/invoke/MethodHandle" ∧ yX4_isYearOrNone.cls ≠ "java/lang/invoke/VarHandle" ∧ (parseMethodDescriptor yX4_isYearOrNone.desc).map (fun d => d.parameters.length) = some 1 := by decide +kernel
set_option maxRecDepth 100000 in
set_option maxHeartbeats 4000000 in
theorem c_X4_isYearOrNone (l : Launch) (D : va_G) (cI cS cL : ClassId) (p0 : Int32) (rr : Int32) (hc : f_X4_isYearOrNone p0 = some rr) : KM l yX4_isYearOrNone wsX4_isYearOrNone { frames := 1, cells := 0, slots := 0, locals := 20 } D (tyS cI cS cL) [.int p0] [] (some (.int rr)) (fun w => w = []) 0 0 := by
  refine g_entry (cc := cX4_isYearOrNone) (nL := 1) (rt := (some .boolean)) (by decide) rfl (Nat.le_of_ble_eq_true rfl) ?_
  intro p e s m args below meth c A (X : GC p s m args c cX4_isYearOrNone 1 RX4 wsX4_isYearOrNone D (tyS cI cS cL) A) hr hlk _ _
  have h := hc
  unfold f_X4_isYearOrNone at h
  refine g_lv (lv' := [(0, .int p0)]) [0] rfl ?_
  refine g_iload_n X (j := 0) dX4_isYearOrNone_0 rfl ?_
  refine g_iconst (v := (-1)) X dX4_isYearOrNone_1 (by decide) ?_
  refine jn_g h (u1 fun s1 => []) (u1 fun s1 => []) (u1 fun s1 => [.int s1]) 17 ?_ ?_
  · rintro s1 h
    dsimp only [u1] at h ⊢
    obtain ⟨hz, h⟩ := gB_e h
    have h := Option.some.inj h
    subst h
    exact g_zret X hr hlk hz dX4_isYearOrNone_17 rfl rfl
  · intro K2 hK2 h
    refine jn_g h (u0 ([])) (u0 ([])) (u0 ([])) 12 ?_ ?_
    · rintro ⟨⟩ h
      dsimp only [u0] at h ⊢
      refine g_iconst (v := 1) X dX4_isYearOrNone_12 (by decide) ?_
      refine g_goto (tgt := 17) X dX4_isYearOrNone_13 (by decide) ?_
      exact hK2 1 h
    · intro K3 hK3 h
      refine g_icmp_eq (tgt := 12) X h dX4_isYearOrNone_2 (by decide) (fun h => ?_) (fun h => ?_)
      · refine g_lv (lv' := []) [] rfl ?_
        exact hK3 () h
      · refine g_iload_n X (j := 0) dX4_isYearOrNone_5 rfl ?_
        obtain ⟨r4, hc, h⟩ := bd1 h
        refine g_callS0 (As := [.int p0]) (st := []) X (c_X4_isYear l D cI cS cL p0 r4 hc) gX4_isYearOrNone_X4_isYear rfl ⟨rfl, rfl⟩ hd_X4_isYear.2 ⟨Nat.le_of_ble_eq_true rfl, Nat.le_of_ble_eq_true rfl⟩ ⟨Nat.zero_le _, Nat.zero_le _⟩ rfl (Nat.le_of_ble_eq_true rfl) rfl dX4_isYearOrNone_6 ?_
        refine g_if_eq (tgt := 16) X h dX4_isYearOrNone_9 (by decide) (fun h => ?_) (fun h => ?_)
        · refine g_iconst (v := 0) X dX4_isYearOrNone_16 (by decide) ?_
          refine g_lv (lv' := []) [] rfl ?_
          exact hK2 0 h
        · refine g_lv (lv' := []) [] rfl ?_
          exact hK3 () h
def f_X4_isBook (p1 : Int32) (x1_size : Int32) : Option (Int32) := (jn (u1 fun (s1 : Int32) => gB s1 (some s1)) (fun K2 => jn (u0 (K2 0)) (fun K3 => (if p1 < 0 then K3 () else (if x1_size ≤ p1 then K3 () else K2 1)))))
theorem in_X4_isBook_X4 : ∀ w ∈ wsX40, w ∈ wsX4_isBook := by decide +kernel
theorem fl_X4_isBook_12 : Cond.fieldLink RX4 12 "ColophonHunt" "shelf" "LColophonHunt$Shelf;" ∈ wsX4_isBook := by decide +kernel
theorem in_X4_isBook_X2 : ∀ w ∈ wsX20, w ∈ wsX4_isBook := by decide +kernel
theorem fl_X4_isBook_75 : Cond.fieldLink RX4 75 "ColophonHunt$Shelf" "size" "I" ∈ wsX4_isBook := by decide +kernel
theorem hd_X4_isBook : yX4_isBook.cls = RX4 ∧ yX4_isBook.cls ≠ "java/lang/invoke/MethodHandle" ∧ yX4_isBook.cls ≠ "java/lang/invoke/VarHandle" ∧ (parseMethodDescriptor yX4_isBook.desc).map (fun d => d.parameters.length) = some 1 := by decide +kernel
set_option maxRecDepth 100000 in
set_option maxHeartbeats 4000000 in
theorem c_X4_isBook (l : Launch) (D : va_G) (cI cS cL : ClassId) (a0 : Nat) (a1 : Nat) (b0_1 : Nat) (b0_2 : Nat) (b0_3 : Nat) (b0_4 : Nat) (b0_5 : Nat) (b0_6 : Nat) (b1_0 : Nat) (b1_1 : Nat) (b1_2 : Nat) (b1_3 : Nat) (p1 : Int32) (x0_length : Int32) (x0_isReadingOld : Int32) (x1_size : Int32) (rr : Int32) (hc : f_X4_isBook p1 x1_size = some rr) : KM l yX4_isBook wsX4_isBook { frames := 0, cells := 0, slots := 0, locals := 0 } D (tyS cI cS cL) [.ref a0, .int p1] [(a0, .inr (4, [.ref a1, .ref b0_1, .ref b0_2, .ref b0_3, .ref b0_4, .ref b0_5, .ref b0_6, .int x0_length, .int x0_isReadingOld])), (a1, .inr (2, [.ref b1_0, .ref b1_1, .ref b1_2, .ref b1_3, .int x1_size]))] (some (.int rr)) (fun w => w = [(a0, .inr (4, [.ref a1, .ref b0_1, .ref b0_2, .ref b0_3, .ref b0_4, .ref b0_5, .ref b0_6, .int x0_length, .int x0_isReadingOld])), (a1, .inr (2, [.ref b1_0, .ref b1_1, .ref b1_2, .ref b1_3, .int x1_size]))]) 0 0 := by
  refine g_entry (cc := cX4_isBook) (nL := 2) (rt := (some .boolean)) (by decide) rfl (Nat.le_of_ble_eq_true rfl) ?_
  intro p e s m args below meth c A (X : GC p s m args c cX4_isBook 2 RX4 wsX4_isBook D (tyS cI cS cL) A) hr hlk _ _
  have h := hc
  unfold f_X4_isBook at h
  refine g_lv (lv' := [(0, .ref a0), (1, .int p1)]) [0, 1] rfl ?_
  refine g_iload_n X (j := 1) dX4_isBook_0 rfl ?_
  refine jn_g h (u1 fun s1 => [(a0, .inr (4, [.ref a1, .ref b0_1, .ref b0_2, .ref b0_3, .ref b0_4, .ref b0_5, .ref b0_6, .int x0_length, .int x0_isReadingOld])), (a1, .inr (2, [.ref b1_0, .ref b1_1, .ref b1_2, .ref b1_3, .int x1_size]))]) (u1 fun s1 => []) (u1 fun s1 => [.int s1]) 20 ?_ ?_
  · rintro s1 h
    dsimp only [u1] at h ⊢
    obtain ⟨hz, h⟩ := gB_e h
    have h := Option.some.inj h
    subst h
    exact g_zret X hr hlk hz dX4_isBook_20 rfl rfl
  · intro K2 hK2 h
    refine jn_g h (u0 ([(a0, .inr (4, [.ref a1, .ref b0_1, .ref b0_2, .ref b0_3, .ref b0_4, .ref b0_5, .ref b0_6, .int x0_length, .int x0_isReadingOld])), (a1, .inr (2, [.ref b1_0, .ref b1_1, .ref b1_2, .ref b1_3, .int x1_size]))])) (u0 ([])) (u0 ([])) 19 ?_ ?_
    · rintro ⟨⟩ h
      dsimp only [u0] at h ⊢
      refine g_iconst (v := 0) X dX4_isBook_19 (by decide) ?_
      exact hK2 0 h
    · intro K3 hK3 h
      refine g_if_lt (tgt := 19) X h dX4_isBook_1 (by decide) (fun h => ?_) (fun h => ?_)
      · refine g_lv (lv' := []) [] rfl ?_
        exact hK3 () h
      · refine g_iload_n X (j := 1) dX4_isBook_4 rfl ?_
        refine g_aload_n X (j := 0) dX4_isBook_5 rfl ?_
        refine g_get (q0 := 0) (k := 0) (ci := 4) X in_X4_isBook_X4 fl_X4_isBook_12 rfl rfl (Nat.le_of_ble_eq_true rfl) rfl dX4_isBook_6 ?_
        refine g_get (q0 := 1) (k := 4) (ci := 2) X in_X4_isBook_X2 fl_X4_isBook_75 rfl rfl (Nat.le_of_ble_eq_true rfl) rfl dX4_isBook_9 ?_
        refine g_icmp_ge (tgt := 19) X h dX4_isBook_12 (by decide) (fun h => ?_) (fun h => ?_)
        · refine g_lv (lv' := []) [] rfl ?_
          exact hK3 () h
        · refine g_iconst (v := 1) X dX4_isBook_15 (by decide) ?_
          refine g_goto (tgt := 20) X dX4_isBook_16 (by decide) ?_
          refine g_lv (lv' := []) [] rfl ?_
          exact hK2 1 h
