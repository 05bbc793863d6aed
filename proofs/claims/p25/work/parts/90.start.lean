set_option maxHeartbeats 16000000 in
set_option maxRecDepth 100000 in
/-- from the entry, for every script, the law comes to its end with true -/
theorem whole_start {p : Program} {e : Env} {s : State} {m : MethodId} {below : List Frame} {meth : Method} {c : Code} (l : Launch) (hflags : l.flags = flags0) {b L : Nat} {xs : Nat → Int32} (hL : L ≤ 260) (C0 : lw_At p s m meth c b L xs) : W p l e room_1 s m #[Value.ref b] below meth c s.heap [] 0 0 (lw_Z below #[Value.ref b] s) (entryFrame m ([Value.ref b] : List Value).toArray 15) := by
  obtain ⟨D, cI, cS, cL, X, Y, hlt, Z, hO⟩ := lw_LC hflags C0
  suffices G : GG p l e room_1 s m #[Value.ref b] below meth c 0 0 (lw_Z below #[Value.ref b] s) 15 D (fun q => s.heap.size ≤ q) [] [(0, .ref b)] 0 [] by
    have hl := lv_entry ([.ref b]) (n := 15) (Nat.le_of_ble_eq_true rfl)
    rw [lg_entry_eq]
    exact G s.heap [] _ (fun k q h => by simp at h) ⟨fun i j p q h => by simp at h, fun k q h => by simp at h⟩ va_S.rf hl
  refine g_newO (ci := 4) (fs := [.null, .null, .null, .null, .null, .null, .null, .int 0, .int 0]) (cells' := 1) (slots' := 9) X tyX4_ok inlX4 mL_cl mL_is mL_in rfl (by decide) rfl rfl (Nat.le_of_ble_eq_true rfl) (Nat.le_of_ble_eq_true rfl) dL_law_0 (fun a0 => ?_)
  refine g_dup X dL_law_3 rfl ?_
  refine g_callI (is := [0]) (isR := []) (wr := []) (cells' := 66) (slots' := 2678) (st := [.ref a0]) X hO (c_X4_init l D cI cS cL a0) gL_law_X4_init mL_ml mL_im mL_yi rfl rfl ⟨rfl, rfl⟩ hd_X4_init.2 (by exact ⟨Nat.le_of_ble_eq_true rfl, Nat.le_of_ble_eq_true rfl⟩) rfl rfl ⟨(Nat.le_of_ble_eq_true rfl), (Nat.le_of_ble_eq_true rfl)⟩ rfl rfl rfl (by decide +kernel) (by decide +kernel) (Nat.le_of_ble_eq_true rfl) dL_law_4 ?_
  rintro _ ⟨q1, q2, q3, q4, q5, q6, q7, q8, q9, q10, q11, q12, q14, q15, q16, q17, q18, q19, q20, q21, q22, q23, q24, q25, q26, q27, q28, q29, q30, q31, q32, q33, q34, q35, q36, ad, rfl⟩
  refine g_astore_n X dL_law_7 rfl (by decide) rfl ?_
  refine g_ws (ws' := [(a0, .inr (4, [.ref q1, .ref q6, .ref q11, .ref q14, .ref q22, .ref q30, .ref q36, .int 0, .int 1])), (q1, .inr (2, [.ref q2, .ref q3, .ref q4, .ref q5, .int 0])), (q2, .inl (cI, 10, .inl (fun _ => 0))), (q3, .inl (cI, 10, .inl (fun _ => 0))), (q4, .inl (cI, 10, .inl (fun _ => 0))), (q5, .inl (cI, 10, .inl (fun _ => 0))), (q6, .inr (2, [.ref q7, .ref q8, .ref q9, .ref q10, .int 0])), (q7, .inl (cI, 10, .inl (fun _ => 0))), (q8, .inl (cI, 10, .inl (fun _ => 0))), (q9, .inl (cI, 10, .inl (fun _ => 0))), (q10, .inl (cI, 10, .inl (fun _ => 0))), (q11, .inr (0, [.ref q12, .int 0])), (q12, .inl (cS, 6, .inr (.inr (.inr (.inr (fun j => ([(ad 0), (ad 5), (ad 10), (ad 15), (ad 20), (ad 25)] : List Nat)[j]?)))))), ((ad 0), .inr (2, [.ref (ad 1), .ref (ad 2), .ref (ad 3), .ref (ad 4), .int ((fun _ => 0) 0)])), ((ad 1), .inl (cI, 10, .inl ((fun _ _ => 0) 0))), ((ad 2), .inl (cI, 10, .inl ((fun _ _ => 0) 0))), ((ad 3), .inl (cI, 10, .inl ((fun _ _ => 0) 0))), ((ad 4), .inl (cI, 10, .inl ((fun _ _ => 0) 0))), ((ad 5), .inr (2, [.ref (ad 6), .ref (ad 7), .ref (ad 8), .ref (ad 9), .int ((fun _ => 0) 1)])), ((ad 6), .inl (cI, 10, .inl ((fun _ _ => 0) 1))), ((ad 7), .inl (cI, 10, .inl ((fun _ _ => 0) 1))), ((ad 8), .inl (cI, 10, .inl ((fun _ _ => 0) 1))), ((ad 9), .inl (cI, 10, .inl ((fun _ _ => 0) 1))), ((ad 10), .inr (2, [.ref (ad 11), .ref (ad 12), .ref (ad 13), .ref (ad 14), .int ((fun _ => 0) 2)])), ((ad 11), .inl (cI, 10, .inl ((fun _ _ => 0) 2))), ((ad 12), .inl (cI, 10, .inl ((fun _ _ => 0) 2))), ((ad 13), .inl (cI, 10, .inl ((fun _ _ => 0) 2))), ((ad 14), .inl (cI, 10, .inl ((fun _ _ => 0) 2))), ((ad 15), .inr (2, [.ref (ad 16), .ref (ad 17), .ref (ad 18), .ref (ad 19), .int ((fun _ => 0) 3)])), ((ad 16), .inl (cI, 10, .inl ((fun _ _ => 0) 3))), ((ad 17), .inl (cI, 10, .inl ((fun _ _ => 0) 3))), ((ad 18), .inl (cI, 10, .inl ((fun _ _ => 0) 3))), ((ad 19), .inl (cI, 10, .inl ((fun _ _ => 0) 3))), ((ad 20), .inr (2, [.ref (ad 21), .ref (ad 22), .ref (ad 23), .ref (ad 24), .int ((fun _ => 0) 4)])), ((ad 21), .inl (cI, 10, .inl ((fun _ _ => 0) 4))), ((ad 22), .inl (cI, 10, .inl ((fun _ _ => 0) 4))), ((ad 23), .inl (cI, 10, .inl ((fun _ _ => 0) 4))), ((ad 24), .inl (cI, 10, .inl ((fun _ _ => 0) 4))), ((ad 25), .inr (2, [.ref (ad 26), .ref (ad 27), .ref (ad 28), .ref (ad 29), .int ((fun _ => 0) 5)])), ((ad 26), .inl (cI, 10, .inl ((fun _ _ => 0) 5))), ((ad 27), .inl (cI, 10, .inl ((fun _ _ => 0) 5))), ((ad 28), .inl (cI, 10, .inl ((fun _ _ => 0) 5))), ((ad 29), .inl (cI, 10, .inl ((fun _ _ => 0) 5))), (q14, .inr (1, [.ref q15, .ref q16, .ref q17, .ref q18, .ref q19, .ref q20, .ref q21, .int 0, .int 1, .int 0])), (q15, .inl (cI, 10, .inl (fun _ => 0))), (q16, .inl (cI, 10, .inl (fun _ => 0))), (q17, .inl (cI, 10, .inl (fun _ => 0))), (q18, .inl (cI, 10, .inl (fun _ => 0))), (q19, .inl (cI, 10, .inl (fun _ => 0))), (q20, .inl (cI, 10, .inl (fun _ => 0))), (q21, .inl (cI, 1024, .inl (fun _ => 0))), (q22, .inr (1, [.ref q23, .ref q24, .ref q25, .ref q26, .ref q27, .ref q28, .ref q29, .int 0, .int 1, .int 0])), (q23, .inl (cI, 10, .inl (fun _ => 0))), (q24, .inl (cI, 10, .inl (fun _ => 0))), (q25, .inl (cI, 10, .inl (fun _ => 0))), (q26, .inl (cI, 10, .inl (fun _ => 0))), (q27, .inl (cI, 10, .inl (fun _ => 0))), (q28, .inl (cI, 10, .inl (fun _ => 0))), (q29, .inl (cI, 1024, .inl (fun _ => 0)))]) [0, 1, 2, 3, 4, 5, 6, 7, 8, 9, 10, 11, 12, 13, 14, 15, 16, 17, 18, 19, 20, 21, 22, 23, 24, 25, 26, 27, 28, 29, 30, 31, 32, 33, 34, 35, 36, 37, 38, 39, 40, 41, 42, 43, 44, 45, 46, 47, 48, 49, 50, 51, 52, 53, 54, 55, 56, 57, 58] rfl (by decide +kernel) ?_
  refine g_iconst (v := 1) X dL_law_8 (by decide) ?_
  refine g_istore_n X dL_law_9 rfl (by decide) rfl ?_
  have h31 : L / 3 < 2 ^ 31 := by omega
  have hdiv : Int32.ofNat L / 3 = nI (L / 3) := pk_div (a := L) (d := 3) (by omega) (by decide) (by decide)
  have hz : gZ (3 : Int32) (some (0 : Nat)) = some 0 := rfl
  -- the turns, then the loop
  have hgo : ∀ turns, turns ≤ 30 → GG p l e room_1 s m #[Value.ref b] below meth c 66 2678 (lw_Z below #[Value.ref b] s) 15 D (fun q => s.heap.size ≤ q) [(a0, .inr (4, [.ref q1, .ref q6, .ref q11, .ref q14, .ref q22, .ref q30, .ref q36, .int 0, .int 1])), (q1, .inr (2, [.ref q2, .ref q3, .ref q4, .ref q5, .int 0])), (q2, .inl (cI, 10, .inl (fun _ => 0))), (q3, .inl (cI, 10, .inl (fun _ => 0))), (q4, .inl (cI, 10, .inl (fun _ => 0))), (q5, .inl (cI, 10, .inl (fun _ => 0))), (q6, .inr (2, [.ref q7, .ref q8, .ref q9, .ref q10, .int 0])), (q7, .inl (cI, 10, .inl (fun _ => 0))), (q8, .inl (cI, 10, .inl (fun _ => 0))), (q9, .inl (cI, 10, .inl (fun _ => 0))), (q10, .inl (cI, 10, .inl (fun _ => 0))), (q11, .inr (0, [.ref q12, .int 0])), (q12, .inl (cS, 6, .inr (.inr (.inr (.inr (fun j => ([(ad 0), (ad 5), (ad 10), (ad 15), (ad 20), (ad 25)] : List Nat)[j]?)))))), ((ad 0), .inr (2, [.ref (ad 1), .ref (ad 2), .ref (ad 3), .ref (ad 4), .int ((fun _ => 0) 0)])), ((ad 1), .inl (cI, 10, .inl ((fun _ _ => 0) 0))), ((ad 2), .inl (cI, 10, .inl ((fun _ _ => 0) 0))), ((ad 3), .inl (cI, 10, .inl ((fun _ _ => 0) 0))), ((ad 4), .inl (cI, 10, .inl ((fun _ _ => 0) 0))), ((ad 5), .inr (2, [.ref (ad 6), .ref (ad 7), .ref (ad 8), .ref (ad 9), .int ((fun _ => 0) 1)])), ((ad 6), .inl (cI, 10, .inl ((fun _ _ => 0) 1))), ((ad 7), .inl (cI, 10, .inl ((fun _ _ => 0) 1))), ((ad 8), .inl (cI, 10, .inl ((fun _ _ => 0) 1))), ((ad 9), .inl (cI, 10, .inl ((fun _ _ => 0) 1))), ((ad 10), .inr (2, [.ref (ad 11), .ref (ad 12), .ref (ad 13), .ref (ad 14), .int ((fun _ => 0) 2)])), ((ad 11), .inl (cI, 10, .inl ((fun _ _ => 0) 2))), ((ad 12), .inl (cI, 10, .inl ((fun _ _ => 0) 2))), ((ad 13), .inl (cI, 10, .inl ((fun _ _ => 0) 2))), ((ad 14), .inl (cI, 10, .inl ((fun _ _ => 0) 2))), ((ad 15), .inr (2, [.ref (ad 16), .ref (ad 17), .ref (ad 18), .ref (ad 19), .int ((fun _ => 0) 3)])), ((ad 16), .inl (cI, 10, .inl ((fun _ _ => 0) 3))), ((ad 17), .inl (cI, 10, .inl ((fun _ _ => 0) 3))), ((ad 18), .inl (cI, 10, .inl ((fun _ _ => 0) 3))), ((ad 19), .inl (cI, 10, .inl ((fun _ _ => 0) 3))), ((ad 20), .inr (2, [.ref (ad 21), .ref (ad 22), .ref (ad 23), .ref (ad 24), .int ((fun _ => 0) 4)])), ((ad 21), .inl (cI, 10, .inl ((fun _ _ => 0) 4))), ((ad 22), .inl (cI, 10, .inl ((fun _ _ => 0) 4))), ((ad 23), .inl (cI, 10, .inl ((fun _ _ => 0) 4))), ((ad 24), .inl (cI, 10, .inl ((fun _ _ => 0) 4))), ((ad 25), .inr (2, [.ref (ad 26), .ref (ad 27), .ref (ad 28), .ref (ad 29), .int ((fun _ => 0) 5)])), ((ad 26), .inl (cI, 10, .inl ((fun _ _ => 0) 5))), ((ad 27), .inl (cI, 10, .inl ((fun _ _ => 0) 5))), ((ad 28), .inl (cI, 10, .inl ((fun _ _ => 0) 5))), ((ad 29), .inl (cI, 10, .inl ((fun _ _ => 0) 5))), (q14, .inr (1, [.ref q15, .ref q16, .ref q17, .ref q18, .ref q19, .ref q20, .ref q21, .int 0, .int 1, .int 0])), (q15, .inl (cI, 10, .inl (fun _ => 0))), (q16, .inl (cI, 10, .inl (fun _ => 0))), (q17, .inl (cI, 10, .inl (fun _ => 0))), (q18, .inl (cI, 10, .inl (fun _ => 0))), (q19, .inl (cI, 10, .inl (fun _ => 0))), (q20, .inl (cI, 10, .inl (fun _ => 0))), (q21, .inl (cI, 1024, .inl (fun _ => 0))), (q22, .inr (1, [.ref q23, .ref q24, .ref q25, .ref q26, .ref q27, .ref q28, .ref q29, .int 0, .int 1, .int 0])), (q23, .inl (cI, 10, .inl (fun _ => 0))), (q24, .inl (cI, 10, .inl (fun _ => 0))), (q25, .inl (cI, 10, .inl (fun _ => 0))), (q26, .inl (cI, 10, .inl (fun _ => 0))), (q27, .inl (cI, 10, .inl (fun _ => 0))), (q28, .inl (cI, 10, .inl (fun _ => 0))), (q29, .inl (cI, 1024, .inl (fun _ => 0)))] [(2, .int 1), (1, .ref a0), (0, .ref b)] 28 [.int (nI turns)] := by
    intro turns ht
    refine g_istore_n X dL_law_28 rfl (by decide) rfl ?_
    refine g_iconst (v := nI 0) X dL_law_29 (by decide) ?_
    refine g_istore X dL_law_30 (by decide) rfl ?_
    refine g_lv [4, 3, 2, 1, 0] rfl ?_
    refine law_loop hlt D cI cS cL b L xs a0 q1 q2 q3 q4 q5 q6 q7 q8 q9 q10 q11 q12 q14 q15 q16 q17 q18 q19 q20 q21 q22 q23 q24 q25 q26 q27 q28 q29 q30 q36 X Y Z hL turns ht (fun nc ns ad x0_length x0_isReadingOld x1_size f2 f3 f4 f5 x6_size f7 f8 f9 f10 x11_size hN hP hL hM hY x43_areOrdersCounted x43_isAnyOrder x43_size f44 f45 f46 f47 f48 f49 f50 x51_areOrdersCounted x51_isAnyOrder x51_size f52 f53 f54 f55 f56 f57 f58 h1 h2 => ?_) turns 0 66 2678 ad 0 1 0 (fun _ => 0) (fun _ => 0) (fun _ => 0) (fun _ => 0) 0 (fun _ => 0) (fun _ => 0) (fun _ => 0) (fun _ => 0) 0 (fun _ => 0) (fun _ _ => 0) (fun _ _ => 0) (fun _ _ => 0) (fun _ _ => 0) 0 1 0 (fun _ => 0) (fun _ => 0) (fun _ => 0) (fun _ => 0) (fun _ => 0) (fun _ => 0) (fun _ => 0) 0 1 0 (fun _ => 0) (fun _ => 0) (fun _ => 0) (fun _ => 0) (fun _ => 0) (fun _ => 0) (fun _ => 0) (by omega) (by omega) (by omega) (by omega) st_0
    obtain ⟨hx, hb, hr, hml, hown, hts, hX, hbl, hlocks, hgv⟩ := id C0
    refine g_iload_n X (j := 0) dL_law_370 rfl ?_
    intro H locs ls hP hD hS hl
    refine va_forget (fun q hq => hS.2.2 q hq) ?_
    refine W.widen (k := 600104) (n := 7301314) h1 h2 ?_
    exact lw_ret hx hb hr hlocks dL_law_371
  refine g_aload_n X (j := 2) dL_law_10 rfl ?_
  refine g_slenR X Z dL_law_11 ?_
  refine g_iconst (v := 3) X dL_law_12 (by decide) ?_
  refine g_idiv X hz dL_law_13 (fun _ => ?_)
  refine g_topc (nI (L / 3)) hdiv ?_
  refine g_bipush (v := nI 30) X dL_law_14 (by decide) ?_
  by_cases h30 : L / 3 ≤ 30
  · refine g_icmpT_le (tgt := 24) X ((nI_leI h31 (by decide)).mpr h30) dL_law_16 (by decide) ?_
    refine g_aload_n X (j := 2) dL_law_24 rfl ?_
    refine g_slenR X Z dL_law_25 ?_
    refine g_iconst (v := 3) X dL_law_26 (by decide) ?_
    refine g_idiv X hz dL_law_27 (fun _ => ?_)
    refine g_topc (nI (L / 3)) hdiv ?_
    exact hgo (L / 3) h30
  · refine g_icmpF_le (tgt := 24) X (fun z => h30 ((nI_leI h31 (by decide)).mp z)) dL_law_16 (by decide) ?_
    refine g_bipush (v := nI 30) X dL_law_19 (by decide) ?_
    refine g_goto (tgt := 28) X dL_law_21 (by decide) ?_
    exact hgo 30 (Nat.le_refl 30)
set_option maxHeartbeats 4000000 in
theorem lw_walk (l : Launch) (hflags : l.flags = flags0) (b : Addr) (xs : List Int32) : MetFree l x (headSpec (Jvm.Cond.code x code maxLocals ret :: tables_1) room_1) (lw_P b xs) (fun _ _ _ _ _ => True) lw_Q := by
  refine MetFree.of_bodyS (code := code) (maxLocals := maxLocals) (ret := ret) (by decide) ?_ ?_
  · intro args s m h hn
    obtain ⟨meth, c, h1, h2, h3, h4, h5, h6, -, -⟩ := Cond.code_spec hn (atoms_spec (ws := Jvm.Cond.code x code maxLocals ret :: tables_1) h _ List.mem_cons_self)
    exact ⟨meth, c, h1, h2, h3, h4, h5, h6⟩
  · intro p e s m args below meth c s₁ B hml0 hP _
    obtain ⟨rfl, hx, hbd, hgv⟩ := hP
    obtain ⟨scr, harrAt, hlist, hof, hsmall⟩ := hx
    obtain ⟨hcb, hkn, -, -⟩ := State.arrayAt?_spec harrAt
    have hown : s.vm.findClass R_law = some m.cls := findClass_of_methodNamed B.named
    have hts0 : ∀ c ∈ (Jvm.Cond.code x code maxLocals ret :: tables_1), c.before #[Value.ref b] s = true := atoms_spec (ws := Jvm.Cond.code x code maxLocals ret :: tables_1) B.pre
    have hts : ∀ w ∈ lw_tbl, w.before #[Value.ref b] s = true := k2_hts_sels lw_privs (fun w hw => hts0 w (List.mem_cons_of_mem _ hw)) lw_privs_ok
    have hml : c.maxLocals = 15 := B.maxLocals_eq (hts0 _ List.mem_cons_self)
    have X₀ : Stand p l e room_1 s m #[Value.ref b] below meth c s₁ [] 0 0 := Stand.of_body B
    have hh0 : s₁.heap = s.heap := by rw [B.state]; rfl
    have hsz : scr.slots.size = xs.length := by rw [← Array.length_toList, hlist, List.length_map]
    have hval : ∀ j : Nat, j < xs.length → scr.slots[j]? = some (.int (xs.getD j 0)) := fun j hj => by
      rw [← Array.getElem?_toList, hlist]
      simp [hj]
    have hbl : b < s.heap.size := (Array.getElem?_eq_some_iff.mp hcb).1
    have hX : va_X b xs.length (fun j => xs.getD j 0) s s.heap := ⟨scr, hcb, hof, hkn, hsz, hval⟩
    have K : W p l e room_1 s m #[Value.ref b] below meth c s₁.heap [] 0 0 (lw_Z below #[Value.ref b] s) (entryFrame m ([Value.ref b] : List Value).toArray 15) := by
      rw [hh0]
      exact whole_start l hflags hbd ⟨B.exec, B.bytes, B.returns, hml, hown, hts, hX, hbl, B.notSynchronized, hgv⟩
    obtain ⟨t, a1, o, b1, b2, b3⟩ := K s₁ rfl X₀
    exact ⟨t, o, a1, b1, b2, b3⟩
theorem lw_pre_spec {args : Array Value} {s : State} (h : (Jvm.Cond.and given_1 narrow_1).before args s = true) (hr : rest_1_c.before args s = true) : ∃ (b : Addr) (xs : List Int32), lw_P b xs args s := by
  have hs := flat_of_before _ h
  have hq := flat_of_before _ hr
  have hc : (Cond.count 1).before args s = true := hs _ (by decide +kernel)
  have harr : (Cond.arrayOf (.arg 0) .int).before args s = true := hs _ (by decide +kernel)
  have hle : (Cond.le (.length (.arg 0)) (.int 260)).before args s = true := hs _ (by decide +kernel)
  have hlen : (Cond.isInt (.length (.arg 0))).before args s = true := hq _ (by decide +kernel)
  have hall : (Cond.all (.arg 0) (.isInt (.elem (.arg 0) (.index 0)))).before args s = true := hq _ (by decide +kernel)
  obtain ⟨b, xs, hb, hx⟩ := State.ints_of_pre rfl harr hlen hall
  have hsm : xs.length < 2 ^ 31 := hx.choose_spec.2.2.2
  have hev : (Term.length (.arg 0)).eval args s none [] s = some (.int xs.length.toInt32) := hx.length_eval hb
  have hv := Cond.le_ints hev (show (Term.int 260).eval args s none [] s = some (.int 260) from rfl)
  have hd : xs.length.toInt32 ≤ 260 := by
    simpa [Cond.before, Cond.holds, hv] using hle
  have hN : xs.length ≤ 260 := (Int32.ofNat_le_ofNat hsm (by decide)).mp (show Int32.ofNat xs.length ≤ Int32.ofNat 260 from hd)
  exact ⟨b, xs, Cond.one_arg hc (show args[0]? = some (.ref b) from hb), hx, hN, h⟩
theorem lw_comes (l : Launch) (hflags : l.flags = flags0) : Comes l x (Jvm.Cond.code x code maxLocals ret :: tables_1) room_1 (fun tb e args s => Calls_1 tb e args s ∧ rest_1 tb e args s ∧ Pre_1 tb e args s)
    (fun _ _ args s o t => lw_Q args s o t) := by
  intro p e ha hc hk s m args below hf hfit hheap happ hpre
  obtain ⟨b, xs, hP⟩ := lw_pre_spec hpre.2.2 hpre.2.1
  obtain ⟨k, o, h1, h2, h3, hQ⟩ := lw_walk l hflags b xs p e ha hc hk s m args below hf ((Spec.applies_iff_loose hf).mp happ).1 hP trivial
  exact ⟨k, o, h1, h2, h3, hQ⟩
theorem lw_frame {s t : State} {o : Outcome} {args : Array Value} (h : Framed s o t [] 600104 7301314) :
    Framed s o t (fieldLocs frame_1_writes args s ++ arrayLocs frame_1_arrays args s ++ staticLocs frame_1_statics s) 600104 7301314 := h
theorem lw_limb (L : Cond) (hL : ∀ (args : Array Value) (s t : State), L.after args s (.returned (some (.int 1))) t = true) :
    ArmFor flags0 classFile x code maxLocals ret World_1 tables_1 room_1 Calls_1 rest_1 Pre_1
      (fun tb e a s o t => postC L tb e a s o t ∧ Framed s o t (fieldLocs frame_1_writes a s ++ arrayLocs frame_1_arrays a s ++ staticLocs frame_1_statics s) 600104 7301314) := by
  intro l hflags _ _ p e ha hc hk s m args below hf hfit hheap happ hpre
  obtain ⟨k, o, h1, h2, h3, rfl, hF⟩ := lw_comes l hflags p e ha hc hk s m args below hf hfit hheap happ hpre
  exact ⟨k, _, h1, h2, h3, hL args s _, lw_frame hF⟩
theorem i_vc : Claimed_1_1 ∧ Claimed_1_2 := ⟨lw_limb limb_1_1 (fun args s t => by simp [limb_1_1, Cond.after, Cond.holds, Cond.value]), lw_limb limb_1_2 (fun args s t => Cond.after_iff.mpr (by
  first | (rw [show limb_1_2 = Cond.eq .result (.int 1) from rfl, Cond.eq_ints (x := 1) (y := 1) rfl rfl]; simp; done) | (simp [limb_1_2, Cond.value, Term.eval]; done)))⟩
