/-! the law's look at the orders: it finds what it wants -/
section NP
variable {E : Nat → Nat → Bool} {n b : Nat}
theorem nPl_0 (h : fitN E n ≠ 0) : nPl E n b 0 = nI (cd n (clo E n b)) := by unfold nPl; rw [if_pos rfl, if_neg h]
theorem nPl_1 (h : fitN E n ≠ 0) : nPl E n b 1 = nI n - 1 - nI (cd n (clo (tr E) n b)) := by unfold nPl; rw [if_neg (by decide), if_pos rfl, if_neg h]
theorem nPl_2 : nPl E n b 2 = nI (if fitN E n ≠ 0 ∧ bfM E n b = 0 then ct E n ((2 ^ n - 1) ^^^ 2 ^ b) else 0) := by unfold nPl; rw [if_neg (by decide), if_neg (by decide)]
theorem con_bd (hn : n ≤ 10) : conP E n < 2 ^ 31 := by
  have h1 : conP E n ≤ n * 10 := sm_bd (fun b hb => by
    have := sm_bd (f := fun a => if (E a b && E b a) = true then 1 else 0) (c := 1) (n := b) (fun a _ => by split <;> decide)
    omega)
  have : n * 10 ≤ 10 * 10 := Nat.mul_le_mul_right 10 hn
  omega
end NP
section Orders
variable {n : Nat} {P L M Y : Nat → Int32}
theorem lorders_e {old c any sz hs : Int32} {bef beh fy ly aB aH tab : Nat → Int32} (C : shC n P L M Y) (h : rsG (eB P L M Y) n Y old c any sz bef beh fy ly aB aH tab) :
    Ok (f_L_orders old (nI n) P L M Y hs c any sz bef beh fy ly aB aH tab) (fun o => o.1 = 1 ∧ rsG (eB P L M Y) n Y o.2.1 o.2.2.1 o.2.2.2.1 o.2.2.2.2.1 o.2.2.2.2.2.1 o.2.2.2.2.2.2.1 o.2.2.2.2.2.2.2.1 o.2.2.2.2.2.2.2.2.1 o.2.2.2.2.2.2.2.2.2.1 o.2.2.2.2.2.2.2.2.2.2.1 o.2.2.2.2.2.2.2.2.2.2.2) := by
  have h10 := C.1
  have hfb := fit_bd (E := eB P L M Y) h10
  have hf31 : fitN (eB P L M Y) n < 2 ^ 31 := by omega
  have hfz : nI (fitN (eB P L M Y) n) = 0 ↔ fitN (eB P L M Y) n = 0 := iN_z0 hf31
  unfold f_L_orders
  refine k_count C (by decide) nAl_0 h (fun o1 o2 o3 o4 o5 o6 o7 o8 o9 o10 o11 h => ?_)
  refine k_count C (by decide) nAl_4 h (fun o1 o2 o3 o4 o5 o6 o7 o8 o9 o10 o11 h => ?_)
  refine ok_jd ?_
  refine ok_jd ?_
  refine ok_f (nI_nneg hf31) ?_
  refine k_count C (by decide) nAl_3 h (fun o1 o2 o3 o4 o5 o6 o7 o8 o9 o10 o11 h => ?_)
  refine ok_jn (fun _ => True) ?_ (fun K hK => ok_if (fun q => hK () trivial) (fun q => ok_t (hfz.mpr (con_fit (fun z => q ((iN_z0 (con_bd h10)).mpr z)))) (hK () trivial)))
  rintro ⟨⟩ -
  refine ok_u0 ?_
  refine ok_jn (fun s => s = if fitN (eB P L M Y) n = 0 then 0 else 1) ?_ (fun K hK => ok_if (fun q => hK _ ?_) (fun q => hK _ ?_))
  rotate_left
  · exact (if_pos (by have := (nI_leI (b := 0) hf31 (by decide)).mp q; omega)).symm
  · exact (if_neg (fun z => q (by rw [z]; decide))).symm
  rintro _ rfl
  refine ok_u1 ?_
  have hcd : ∀ S, cd n S < 2 ^ 31 := fun S => by have := cd_le S n; omega
  refine k_wrong C (Or.inl ⟨rfl, rfl⟩) h (fun o1 o2 o3 o4 o5 o6 o7 o8 o9 o10 o11 h => ?_)
  refine ok_jn (fun s => s = if fitN (eB P L M Y) n = 0 then 0 else 1) ?_ (fun K hK => ok_if (fun q => hK _ ?_) (fun q => hK _ ?_))
  rotate_left
  · exact (if_neg (out_cd.mp ((iN_z0 (hcd _)).mp q))).symm
  · exact (if_pos (Classical.byContradiction (fun z => q ((iN_z0 (hcd _)).mpr (out_cd.mpr z))))).symm
  rintro _ rfl
  refine ok_u1 ?_
  refine ok_t rfl ?_
  refine k_wrong C (Or.inl ⟨rfl, rfl⟩) h (fun o1 o2 o3 o4 o5 o6 o7 o8 o9 o10 o11 h => ?_)
  refine k_wrong C (Or.inr ⟨rfl, rfl⟩) h (fun o1 o2 o3 o4 o5 o6 o7 o8 o9 o10 o11 h => ?_)
  refine ok_be (ones_e (by have := m10' h10 (out_lt (eB P L M Y) n); omega)) ?_
  refine ok_u1 ?_
  refine ok_t (congrArg nI (cd_ext (out_lt (eB P L M Y) n) 12 (by omega)).symm) ?_
  refine ok_u12 ?_
  refine ok_wl (fun i s => s.1 = nI (sm (fun x => if fitN (eB P L M Y) n ≠ 0 ∧ bfM (eB P L M Y) n x = 0 then ct (eB P L M Y) n ((2 ^ n - 1) ^^^ 2 ^ x) else 0) i) ∧ s.2.1 = nI (if fitN (eB P L M Y) n = 0 then 0 else sq (eB P L M Y) n i) ∧ s.2.2.1 = 1 ∧ s.2.2.2.1 = nI i ∧ rsG (eB P L M Y) n Y s.2.2.2.2.1 s.2.2.2.2.2.1 s.2.2.2.2.2.2.1 s.2.2.2.2.2.2.2.1 s.2.2.2.2.2.2.2.2.1 s.2.2.2.2.2.2.2.2.2.1 s.2.2.2.2.2.2.2.2.2.2.1 s.2.2.2.2.2.2.2.2.2.2.2.1 s.2.2.2.2.2.2.2.2.2.2.2.2.1 s.2.2.2.2.2.2.2.2.2.2.2.2.2.1 s.2.2.2.2.2.2.2.2.2.2.2.2.2.2) (fun r => r.1 = nI (sm (fun x => if fitN (eB P L M Y) n ≠ 0 ∧ bfM (eB P L M Y) n x = 0 then ct (eB P L M Y) n ((2 ^ n - 1) ^^^ 2 ^ x) else 0) n) ∧ r.2.1 = 1 ∧ rsG (eB P L M Y) n Y r.2.2.1 r.2.2.2.1 r.2.2.2.2.1 r.2.2.2.2.2.1 r.2.2.2.2.2.2.1 r.2.2.2.2.2.2.2.1 r.2.2.2.2.2.2.2.2.1 r.2.2.2.2.2.2.2.2.2.1 r.2.2.2.2.2.2.2.2.2.2.1 r.2.2.2.2.2.2.2.2.2.2.2.1 r.2.2.2.2.2.2.2.2.2.2.2.2) n (by omega) ⟨rfl, by split <;> rfl, rfl, rfl, h⟩ ?_ ?_ ?_
  · rintro i ⟨l3, l4, l5, l6, v1, v2, v3, v4, v5, v6, v7, v8, v9, v10, v11⟩ hi ⟨e1, e2, e3, e4, h⟩
    dsimp only at e1 e2 e3 e4 h
    subst e1; subst e2; subst e3; subst e4
    refine ok_u15 ?_
    refine ok_nle hi (by omega) ?_
    refine ok_f (by decide) ?_
    refine k_order C (z_le (by omega)) rfl h (fun o1 o2 o3 o4 o5 o6 o7 o8 o9 o10 h => ?_)
    refine k_place (b := i) C hi (Or.inr (Or.inr rfl)) nPl_2 h (fun o1 o2 o3 o4 o5 o6 o7 o8 o9 o10 o11 h => ?_)
    have hno : ordV (eB P L M Y) n (nI i) = -1 ↔ fitN (eB P L M Y) n = 0 := by
      constructor
      · intro q
        refine Classical.byContradiction (fun z => ?_)
        obtain ⟨b, hb, eb, -⟩ := ord_at h10 z hi
        rw [eb] at q
        exact nI_nm1 (by omega) q
      · intro q
        exact ord_no q _
    refine ok_jn (fun s => s = if fitN (eB P L M Y) n = 0 then 1 else 0) ?_ (fun K hK => ok_if (fun q => hK _ (if_pos (hno.mp q)).symm) (fun q => hK _ (if_neg (fun z => q (hno.mpr z))).symm))
    rintro _ rfl
    refine ok_u1 ?_
    refine ok_jn (fun s => s = if fitN (eB P L M Y) n = 0 then 1 else 0) ?_ (fun K hK => ok_if (fun q => hK _ (if_pos (hfz.mp q)).symm) (fun q => hK _ (if_neg (fun z => q (hfz.mpr z))).symm))
    rintro _ rfl
    refine ok_u1 ?_
    refine ok_jd ?_
    refine ok_t rfl ?_
    refine ok_u1 ?_
    by_cases hf : fitN (eB P L M Y) n = 0
    · refine ok_jd ?_
      refine ok_t (by rw [ord_no hf]; decide) ?_
      refine ok_u13 ?_
      refine ok_s ⟨nI_add _ _, ?_, rfl, nI_1 i, h⟩
      show nI (if fitN (eB P L M Y) n = 0 then 0 else sq (eB P L M Y) n i) = nI (if fitN (eB P L M Y) n = 0 then 0 else sq (eB P L M Y) n (i + 1))
      rw [if_pos hf, if_pos hf]
    · obtain ⟨b, hb, eb, p1, p2, e2⟩ := ord_at h10 hf hi
      obtain ⟨q1, q2, q3⟩ := sq_inv h10 hf i (by omega)
      rw [eb, if_neg hf]
      refine ok_jd ?_
      refine ok_f (nI_nneg (by omega)) ?_
      refine ok_f (by decide) ?_
      refine ok_jd ?_
      refine ok_jd ?_
      refine ok_t (iN_f (m10 h10 q1) (by omega) p1) ?_
      refine k_place (b := b) C hb (Or.inl rfl) (nPl_0 hf) h (fun o1 o2 o3 o4 o5 o6 o7 o8 o9 o10 o11 h => ?_)
      refine ok_f (le_lit (pl_least h10 hf hi hb p2) (by omega)) ?_
      have hm := pl_most h10 hf hi hb p1
      refine k_place (b := b) C hb (Or.inr (Or.inl rfl)) ((nPl_1 hf).trans (by rw [iN_1, pk_sub (by omega), pk_sub (by omega)])) h (fun o1 o2 o3 o4 o5 o6 o7 o8 o9 o10 o11 h => ?_)
      refine ok_f (le_lit (by omega) (by omega)) ?_
      refine ok_u12 ?_
      refine ok_wl (fun j s => s.1 = 1 ∧ s.2.1 = nI j ∧ rsG (eB P L M Y) n Y s.2.2.1 s.2.2.2.1 s.2.2.2.2.1 s.2.2.2.2.2.1 s.2.2.2.2.2.2.1 s.2.2.2.2.2.2.2.1 s.2.2.2.2.2.2.2.2.1 s.2.2.2.2.2.2.2.2.2.1 s.2.2.2.2.2.2.2.2.2.2.1 s.2.2.2.2.2.2.2.2.2.2.2 o11) (fun r => r.1 = 1 ∧ rsG (eB P L M Y) n Y r.2.1 r.2.2.1 r.2.2.2.1 r.2.2.2.2.1 r.2.2.2.2.2.1 r.2.2.2.2.2.2.1 r.2.2.2.2.2.2.2.1 r.2.2.2.2.2.2.2.2.1 r.2.2.2.2.2.2.2.2.2.1 r.2.2.2.2.2.2.2.2.2.2 o11) i (by omega) ⟨rfl, rfl, h⟩ ?_ ?_ ?_
      · rintro j ⟨l5, l8, v1, v2, v3, v4, v5, v6, v7, v8, v9, v10⟩ hj ⟨e1, e3, h⟩
        dsimp only at e1 e3 h
        subst e1; subst e3
        refine ok_u12 ?_
        refine ok_nle hj (by omega) ?_
        refine ok_f (by decide) ?_
        obtain ⟨bj, hbj, ebj, r1, r2, e3⟩ := ord_at h10 hf (show j < n by omega)
        obtain ⟨t1, t2⟩ := ord_two hj ebj r2 e3 hb p1
        refine k_order C (z_le (by omega)) ebj h (fun o1 o2 o3 o4 o5 o6 o7 o8 o9 o10 h => ?_)
        refine k_ahead (a := b) (b := bj) C hb hbj t1 ?_
        refine ok_jd ?_
        refine ok_t (eB_no t1 t2) ?_
        refine ok_u1 ?_
        exact ok_s ⟨rfl, nI_1 j, h⟩
      · rintro ⟨l5, l8, v1, v2, v3, v4, v5, v6, v7, v8, v9, v10⟩ ⟨e1, e3, h⟩
        dsimp only at e1 e3 h
        subst e1; subst e3
        refine ok_u12 ?_
        refine ok_yle (Nat.le_refl i) (by omega) ?_
        exact ok_s ⟨rfl, h⟩
      · rintro ⟨l5, v1, v2, v3, v4, v5, v6, v7, v8, v9, v10⟩ ⟨e1, h⟩
        dsimp only at e1 h
        subst e1
        refine ok_u11 ?_
        refine ok_u13 ?_
        refine ok_s ⟨nI_add _ _, ?_, rfl, nI_1 i, h⟩
        show nI (sq (eB P L M Y) n i) ||| ((1 : Int32) <<< (nI b &&& 31)) = nI (if fitN (eB P L M Y) n = 0 then 0 else sq (eB P L M Y) n (i + 1))
        rw [iN_shl b (by omega), iN_or, if_neg hf, e2]
  · rintro ⟨l3, l4, l5, l6, v1, v2, v3, v4, v5, v6, v7, v8, v9, v10, v11⟩ ⟨e1, e2, e3, e4, h⟩
    dsimp only at e1 e2 e3 e4 h
    subst e1; subst e2; subst e3; subst e4
    refine ok_u15 ?_
    refine ok_yle (Nat.le_refl n) (by omega) ?_
    exact ok_s ⟨rfl, rfl, h⟩
  · rintro ⟨l3, l5, v1, v2, v3, v4, v5, v6, v7, v8, v9, v10, v11⟩ ⟨e1, e2, h⟩
    dsimp only at e1 e2 h
    subst e1; subst e2
    refine ok_u13 ?_
    refine ok_jd ?_
    refine ok_jd ?_
    refine ok_f (by decide) ?_
    refine ok_jn (fun _ => True) ?_ (fun K hK => ok_if (fun q => hK () trivial) (fun q => ok_t (congrArg nI (firsts_e (fun z => q (by subst z; rfl)))) (hK () trivial)))
    rintro ⟨⟩ -
    refine ok_u0 ?_
    refine ok_u1 ?_
    refine ok_gB (Or.inr rfl) ?_
    exact ok_s ⟨rfl, h⟩
end Orders
