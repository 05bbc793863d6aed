/-! dating -/
section ActD
variable {n h : Nat} {P L M Y : Nat → Int32} {hN : Nat → Int32} {hP hL hM hY : Nat → Nat → Int32} {τ : Type} {R : τ → Prop}
theorem k_date {old c any sz : Int32} {bef beh fy ly aB aH tab : Nat → Int32} {k : Int32 → Int32 → (Nat → Int32) → Int32 → (Nat → Int32) → (Nat → Nat → Int32) → (Nat → Nat → Int32) → (Nat → Nat → Int32) → (Nat → Nat → Int32) → Int32 → Int32 → Int32 → (Nat → Int32) → (Nat → Int32) → (Nat → Int32) → (Nat → Int32) → (Nat → Int32) → (Nat → Int32) → Option τ} (C : shC n P L M Y) (H : hiC h hN hP hL hM hY) (hr : rsG (eB P L M Y) n Y old c any sz bef beh fy ly aB aH tab)
    (hk : ∀ t Y' h' o1 o2 o3 o4 o5 r1 r2 r3 r4 r5 r6 r7 r8 r9, t ≤ 10 → shC n P L M Y' → havY n Y' = havY n Y + t → hiC h' o1 o2 o3 o4 o5 → Ok (k (nI t) 1 Y' (nI h') o1 o2 o3 o4 o5 r1 r2 r3 r4 r5 r6 r7 r8 r9) R) : Ok ((f_X4_date old (nI n) P L M Y (nI h) hN hP hL hM hY c any sz bef beh fy ly aB aH).bind (u18 k)) R := by
  have h10 := C.1
  refine ok_bd (fun o => ∃ t, t ≤ 10 ∧ o.1 = nI t ∧ o.2.1 = 1 ∧ shC n P L M o.2.2.1 ∧ havY n o.2.2.1 = havY n Y + t ∧ ∃ h', o.2.2.2.1 = nI h' ∧ hiC h' o.2.2.2.2.1 o.2.2.2.2.2.1 o.2.2.2.2.2.2.1 o.2.2.2.2.2.2.2.1 o.2.2.2.2.2.2.2.2.1) ?_ ?_
  · unfold f_X4_date
    refine ok_bd _ (cr_e h10 C.2.1 hr) ?_
    rintro ⟨o1, o2, o3, o4, o5, o6, o7, o8, o9, o10⟩ ⟨e, h2, h3⟩
    dsimp only at e h2 h3
    refine ok_u10 ?_
    refine k_save C H (fun h' p1 p2 p3 p4 p5 H2 => ?_)
    refine dateL_e h10 (fun b hb => (h2.2.2 b hb).2.1) (fun Y' hY' => ?_)
    refine ok_u2 ?_
    have hd : dtN (eB P L M Y) n Y n ≤ n * 1 := sm_bd (fun i _ => by split <;> decide)
    have hy2 := yr_dt (E := eB P L M Y) C.2.1
    refine ok_s ⟨dtN (eB P L M Y) n Y n, by omega, rfl, rfl, ⟨h10, fun b hb => ⟨(hy2 b hb).1, ?_⟩, C.2.2.1, C.2.2.2⟩, dt_have C.2.1 hY', h', rfl, H2⟩
    show Y' b = -1 ∨ (1450 ≤ Y' b ∧ Y' b ≤ 1999)
    rw [hY' b hb]
    exact (hy2 b hb).2
  · rintro ⟨z1, z2, z3, z4, z5, z6, z7, z8, z9, z10, z11, z12, z13, z14, z15, z16, z17, z18⟩ ⟨t, ht, e1, e2, C2, hv, h', e4, H2⟩
    dsimp only at e1 e2 C2 hv e4 H2
    subst e1; subst e2; subst e4
    exact hk t z3 h' z5 z6 z7 z8 z9 z10 z11 z12 z13 z14 z15 z16 z17 z18 ht C2 hv H2
end ActD
theorem low_l (v m : Int32) (N : Nat) (hm : m = nI N) (h0 : 0 < N) (h1 : N < 2 ^ 31) : ∃ r, r < N ∧ f_L_low v m = some (nI r) := by
  subst hm
  exact low_e v h0 h1
theorem nm1_rg : ∀ m, m < 30 → -1 ≤ nI m - 1 ∧ nI m - 1 ≤ 99 := by decide +kernel
theorem yr_num {y : Nat} (h : y < 550) : (1450 : Int32) + nI y = nI (1450 + y) ∧ (1450 : Int32) ≤ nI (1450 + y) ∧ nI (1450 + y) ≤ 1999 := ⟨nI_add 1450 y, (nI_leI (a := 1450) (by decide) (by omega)).mpr (by omega), (nI_leI (b := 1999) (by omega) (by decide)).mpr (by omega)⟩
/-- what a turn's act leaves -/
def aR (n h sort book b3 yy : Nat) (P L M Y : Nat → Int32) (r old sz : Int32) (P' L' M' Y' : Nat → Int32) (hs : Int32) (hN : Nat → Int32) (hP hL hM hY : Nat → Nat → Int32) (c any rs : Int32) (bef beh fy ly aB aH tab : Nat → Int32) : Prop :=
  ∃ n' h', sz = nI n' ∧ hs = nI h' ∧ shC n' P' L' M' Y' ∧ hiC h' hN hP hL hM hY ∧ rsG (eB P' L' M' Y') n' Y' old c any rs bef beh fy ly aB aH tab ∧
    (r < 0 → n' = n ∧ h' = h ∧ P' = P ∧ L' = L ∧ M' = M ∧ Y' = Y) ∧
    (sort = 10 ∨ sort = 11 → n ≠ 0 → b3 ≠ 0 → fitN (eB P' L' M' Y') n' = fitN (eB P L M (upd Y book (nI (1450 + yy)))) n) ∧
    (sort = 13 → nI (havY n' Y') = nI (havY n Y) + r) ∧
    (sort ≤ 4 → (n = 10 ↔ r < 0))
section ActE
variable {n h : Nat} {P L M Y : Nat → Int32} {hN : Nat → Int32} {hP hL hM hY : Nat → Nat → Int32}
theorem act_e {Ls sort book b3 yy : Nat} {xs : Nat → Int32} {p2 va vb vs old c any sz : Int32} {bef beh fy ly aB aH tab : Nat → Int32} (C : shC n P L M Y) (H : hiC h hN hP hL hM hY) (hr : rsG (eB P L M Y) n Y old c any sz bef beh fy ly aB aH tab)
    (hA : f_L_cell Ls xs (p2 + 1) = some va) (hB : f_L_cell Ls xs (p2 + 2) = some vb) (hS : f_L_cell Ls xs p2 = some vs) (hsort : f_L_low vs 16 = some (nI sort)) (hs16 : sort < 16)
    (hb0 : n = 0 → book = 0) (hbn : n ≠ 0 → book < n ∧ f_L_low va (nI n) = some (nI book)) (h3 : f_L_low vb 3 = some (nI b3)) (hb3 : b3 < 3) (hyy : f_L_low (vb >>> (2 &&& 31)) 550 = some (nI yy)) (hy5 : yy < 550) :
    Ok (f_L_act Ls xs p2 old (nI n) P L M Y (nI h) hN hP hL hM hY c any sz bef beh fy ly aB aH tab) (fun o => aR n h sort book b3 yy P L M Y o.1 o.2.1 o.2.2.1 o.2.2.2.1 o.2.2.2.2.1 o.2.2.2.2.2.1 o.2.2.2.2.2.2.1 o.2.2.2.2.2.2.2.1 o.2.2.2.2.2.2.2.2.1 o.2.2.2.2.2.2.2.2.2.1 o.2.2.2.2.2.2.2.2.2.2.1 o.2.2.2.2.2.2.2.2.2.2.2.1 o.2.2.2.2.2.2.2.2.2.2.2.2.1 o.2.2.2.2.2.2.2.2.2.2.2.2.2.1 o.2.2.2.2.2.2.2.2.2.2.2.2.2.2.1 o.2.2.2.2.2.2.2.2.2.2.2.2.2.2.2.1 o.2.2.2.2.2.2.2.2.2.2.2.2.2.2.2.2.1 o.2.2.2.2.2.2.2.2.2.2.2.2.2.2.2.2.2.1 o.2.2.2.2.2.2.2.2.2.2.2.2.2.2.2.2.2.2.1 o.2.2.2.2.2.2.2.2.2.2.2.2.2.2.2.2.2.2.2.1 o.2.2.2.2.2.2.2.2.2.2.2.2.2.2.2.2.2.2.2.2.1 o.2.2.2.2.2.2.2.2.2.2.2.2.2.2.2.2.2.2.2.2.2.1 o.2.2.2.2.2.2.2.2.2.2.2.2.2.2.2.2.2.2.2.2.2.2) := by
  have h10 := C.1
  have hn31 : n < 2 ^ 31 := by omega
  have hnz : nI n = 0 ↔ n = 0 := iN_z0 hn31
  unfold f_L_act
  refine ok_be hA ?_
  refine ok_u1 ?_
  refine ok_be hB ?_
  refine ok_u1 ?_
  refine k_count C (by decide) nAl_0 hr (fun o1 o2 o3 o4 o5 o6 o7 o8 o9 o10 o11 hr => ?_)
  refine ok_jn (fun s => s = nI book) ?_ (fun K hK => ok_if (fun q => hK 0 (by rw [hb0 (hnz.mp q)]; rfl)) (fun q => ok_be (hbn (fun z => q (hnz.mpr z))).2 (ok_u1 (hK _ rfl))))
  rintro _ rfl
  refine ok_u1 ?_
  refine ok_be hS ?_
  refine ok_u1 ?_
  refine ok_be hsort ?_
  refine ok_u1 ?_
  -- undo
  refine ok_jn (fun _ => 14 ≤ sort) ?_ (fun K1 h1 => ?_)
  · rintro ⟨⟩ hs
    refine ok_u0 ?_
    refine k_undo C H (fun h' eh n' P' L' M' Y' C2 => ?_) ?_
    · have h6 := H.1
      exact ok_s ⟨n', h', rfl, rfl, C2, ⟨by omega, fun i hi => H.2 i (by omega)⟩, rsG_1, fun q => absurd q (nI_nneg (by omega)), fun q => by exfalso; omega, fun q => by exfalso; omega, fun q => by exfalso; omega⟩
    · exact ok_s ⟨n, h, rfl, rfl, C, H, hr, fun _ => ⟨rfl, rfl, rfl, rfl, rfl, rfl⟩, fun q => by exfalso; omega, fun q => by exfalso; omega, fun q => by exfalso; omega⟩
  -- date
  refine ok_jn (fun _ => sort = 13) ?_ (fun K2 h2 => ?_)
  · rintro ⟨⟩ hs
    refine ok_u0 ?_
    refine k_date C H hr (fun t Y' h' p1 p2 p3 p4 p5 r1 r2 r3 r4 r5 r6 r7 r8 r9 ht C2 hv H2 => ?_)
    exact ok_s ⟨n, h', rfl, rfl, C2, H2, rsG_1, fun q => absurd q (nI_nneg (by omega)), fun q => by exfalso; omega, fun _ => by rw [hv, nI_add], fun q => by exfalso; omega⟩
  -- press
  refine ok_jn (fun _ => sort = 12) ?_ (fun K3 h3' => ?_)
  · rintro ⟨⟩ hs
    refine ok_u0 ?_
    refine ok_if (fun q => ok_s ⟨n, h, rfl, rfl, C, H, hr, fun _ => ⟨rfl, rfl, rfl, rfl, rfl, rfl⟩, fun q => by exfalso; omega, fun q => by exfalso; omega, fun q => by exfalso; omega⟩) (fun q => ?_)
    have hb := (hbn (fun z => q (hnz.mpr z))).1
    refine ok_be h3 ?_
    refine ok_u1 ?_
    refine k_press C H hb hb3 (fun v P' h' p1 p2 p3 p4 p5 hv C2 H2 => ?_)
    exact ok_s ⟨n, h', rfl, rfl, C2, H2, rsG_1, fun q => absurd q (Int32.not_lt.mpr hv), fun q => by exfalso; omega, fun q => by exfalso; omega, fun q => by exfalso; omega⟩
  -- year
  refine ok_jn (fun _ => sort = 10 ∨ sort = 11) ?_ (fun K4 h4 => ?_)
  · rintro ⟨⟩ hs
    refine ok_u0 ?_
    refine ok_if (fun q => ?_) (fun q => ?_)
    · have e0 : n = 0 := by have := (nI_leI (b := 0) hn31 (by decide)).mp q; omega
      refine ok_t (hnz.mpr e0) ?_
      exact ok_s ⟨n, h, rfl, rfl, C, H, hr, fun _ => ⟨rfl, rfl, rfl, rfl, rfl, rfl⟩, fun _ z => absurd e0 z, fun q => by exfalso; omega, fun q => by exfalso; omega⟩
    · have hn0 : n ≠ 0 := fun z => q (by rw [z]; decide)
      have hb := (hbn hn0).1
      refine ok_be h3 ?_
      refine ok_u1 ?_
      refine ok_if (fun q3 => ?_) (fun q3 => ?_)
      · have e3 : b3 = 0 := (iN_z0 (by omega)).mp q3
        refine k_year C H hb (Or.inl rfl) (fun v h' p1 p2 p3 p4 p5 C2 H2 => ?_)
        refine ok_f (fun z => hn0 (hnz.mp z)) ?_
        exact ok_s ⟨n, h', rfl, rfl, C2, H2, rsG_1, fun q => absurd q (show ¬ (0 : Int32) < 0 by decide), fun _ _ z => absurd e3 z, fun q => by exfalso; omega, fun q => by exfalso; omega⟩
      · obtain ⟨y1, y2, y3⟩ := yr_num hy5
        refine ok_be hyy ?_
        refine ok_u1 ?_
        rw [y1]
        refine k_year C H hb (Or.inr ⟨y2, y3⟩) (fun v h' p1 p2 p3 p4 p5 C2 H2 => ?_)
        refine ok_f (fun z => hn0 (hnz.mp z)) ?_
        exact ok_s ⟨n, h', rfl, rfl, C2, H2, rsG_1, fun q => absurd q (show ¬ (0 : Int32) < 0 by decide), fun _ _ _ => rfl, fun q => by exfalso; omega, fun q => by exfalso; omega⟩
  -- mould
  refine ok_jn (fun _ => sort = 8 ∨ sort = 9) ?_ (fun K5 h5 => ?_)
  · rintro ⟨⟩ hs
    refine ok_u0 ?_
    refine ok_if (fun q => ?_) (fun q => ?_)
    · have e0 : n = 0 := by have := (nI_leI (b := 0) hn31 (by decide)).mp q; omega
      refine ok_t (hnz.mpr e0) ?_
      exact ok_s ⟨n, h, rfl, rfl, C, H, hr, fun _ => ⟨rfl, rfl, rfl, rfl, rfl, rfl⟩, fun q => by exfalso; omega, fun q => by exfalso; omega, fun q => by exfalso; omega⟩
    · have hn0 : n ≠ 0 := fun z => q (by rw [z]; decide)
      have hb := (hbn hn0).1
      obtain ⟨m, hm, em⟩ := low_l vb 30 30 rfl (by decide) (by decide)
      refine ok_be em ?_
      refine ok_u1 ?_
      refine k_mould C H hb (nm1_rg m hm) (fun v M' h' p1 p2 p3 p4 p5 C2 H2 => ?_)
      refine ok_f (fun z => hn0 (hnz.mp z)) ?_
      exact ok_s ⟨n, h', rfl, rfl, C2, H2, rsG_1, fun q => absurd q (show ¬ (0 : Int32) < 0 by decide), fun q => by exfalso; omega, fun q => by exfalso; omega, fun q => by exfalso; omega⟩
  -- crack
  refine ok_jn (fun _ => sort = 6 ∨ sort = 7) ?_ (fun K6 h6 => ?_)
  · rintro ⟨⟩ hs
    refine ok_u0 ?_
    refine ok_if (fun q => ok_s ⟨n, h, rfl, rfl, C, H, hr, fun _ => ⟨rfl, rfl, rfl, rfl, rfl, rfl⟩, fun q => by exfalso; omega, fun q => by exfalso; omega, fun q => by exfalso; omega⟩) (fun q => ?_)
    have hb := (hbn (fun z => q (hnz.mpr z))).1
    obtain ⟨l, hl, el⟩ := low_l vb 6 6 rfl (by decide) (by decide)
    obtain ⟨m, hm, em⟩ := low_l (vb >>> (3 &&& 31)) 2 2 rfl (by decide) (by decide)
    refine ok_be el ?_
    refine ok_u1 ?_
    refine ok_be em ?_
    refine ok_u1 ?_
    refine ok_if (fun q => ?_) (fun q => ?_)
    · refine k_crack C H hb (show l < 12 by omega) (fun v L' h' p1 p2 p3 p4 p5 hv C2 H2 => ?_)
      exact ok_s ⟨n, h', rfl, rfl, C2, H2, rsG_1, fun q => absurd q (Int32.not_lt.mpr hv), fun q => by exfalso; omega, fun q => by exfalso; omega, fun q => by exfalso; omega⟩
    · refine k_crack C H hb (show l < 12 by omega) (fun v L' h' p1 p2 p3 p4 p5 hv C2 H2 => ?_)
      exact ok_s ⟨n, h', rfl, rfl, C2, H2, rsG_1, fun q => absurd q (Int32.not_lt.mpr hv), fun q => by exfalso; omega, fun q => by exfalso; omega, fun q => by exfalso; omega⟩
  -- take
  refine ok_jn (fun _ => sort = 5) ?_ (fun K7 h7 => ?_)
  · rintro ⟨⟩ hs
    refine ok_u0 ?_
    refine ok_if (fun q => ok_s ⟨n, h, rfl, rfl, C, H, hr, fun _ => ⟨rfl, rfl, rfl, rfl, rfl, rfl⟩, fun q => by exfalso; omega, fun q => by exfalso; omega, fun q => by exfalso; omega⟩) (fun q => ?_)
    have hb := (hbn (fun z => q (hnz.mpr z))).1
    refine k_take C H hb (fun P' L' M' Y' h' p1 p2 p3 p4 p5 C2 H2 => ?_)
    exact ok_s ⟨n - 1, h', rfl, rfl, C2, H2, rsG_1, fun q => absurd q (nI_nneg (by omega)), fun q => by exfalso; omega, fun q => by exfalso; omega, fun q => by exfalso; omega⟩
  -- book
  refine ok_jn (fun _ => sort ≤ 4) ?_ (fun K8 h8 => ?_)
  · rintro ⟨⟩ hs
    refine ok_u0 ?_
    obtain ⟨q1, hq1, eq1⟩ := low_l va 2 2 rfl (by decide) (by decide)
    obtain ⟨q2, hq2, eq2⟩ := low_l vb 5 5 rfl (by decide) (by decide)
    obtain ⟨q3, hq3, eq3⟩ := low_l (vb >>> (3 &&& 31)) 12 12 rfl (by decide) (by decide)
    obtain ⟨q4, hq4, eq4⟩ := low_l (vb >>> (7 &&& 31)) 3 3 rfl (by decide) (by decide)
    refine ok_be eq1 ?_
    refine ok_u1 ?_
    refine ok_be eq2 ?_
    refine ok_u1 ?_
    refine ok_be eq3 ?_
    refine ok_u1 ?_
    refine ok_be eq4 ?_
    refine ok_u1 ?_
    have hl : 2 ^ q2 - 1 ≤ 4095 := by
      have : 2 ^ q2 ≤ 2 ^ 5 := Nat.pow_le_pow_right (by decide) (by omega)
      omega
    rw [iN_full (show q2 < 31 by omega)]
    refine ok_if (fun q => ?_) (fun q => ?_)
    · obtain ⟨q5, hq5, eq5⟩ := low_l (vb >>> (9 &&& 31)) 550 550 rfl (by decide) (by decide)
      obtain ⟨y1, y2, y3⟩ := yr_num hq5
      refine ok_be eq5 ?_
      refine ok_u1 ?_
      rw [y1]
      refine k_book C H (show q1 < 3 by omega) hl (nm1_rg q3 (by omega)) (Or.inr ⟨y2, y3⟩) (fun hn P' L' M' Y' h' p1 p2 p3 p4 p5 C2 H2 => ?_) (fun e10 => ?_)
      · exact ok_s ⟨n + 1, h', rfl, rfl, C2, H2, rsG_1, fun q => absurd q (nI_nneg (by omega)), fun q => by exfalso; omega, fun q => by exfalso; omega, fun _ => ⟨fun z => by omega, fun z => absurd z (nI_nneg (by omega))⟩⟩
      · exact ok_s ⟨n, h, rfl, rfl, C, H, hr, fun _ => ⟨rfl, rfl, rfl, rfl, rfl, rfl⟩, fun q => by exfalso; omega, fun q => by exfalso; omega, fun _ => ⟨fun _ => by show (-3 : Int32) < 0; decide, fun _ => e10⟩⟩
    · refine k_book C H (show q1 < 3 by omega) hl (nm1_rg q3 (by omega)) (Or.inl rfl) (fun hn P' L' M' Y' h' p1 p2 p3 p4 p5 C2 H2 => ?_) (fun e10 => ?_)
      · exact ok_s ⟨n + 1, h', rfl, rfl, C2, H2, rsG_1, fun q => absurd q (nI_nneg (by omega)), fun q => by exfalso; omega, fun q => by exfalso; omega, fun _ => ⟨fun z => by omega, fun z => absurd z (nI_nneg (by omega))⟩⟩
      · exact ok_s ⟨n, h, rfl, rfl, C, H, hr, fun _ => ⟨rfl, rfl, rfl, rfl, rfl, rfl⟩, fun q => by exfalso; omega, fun q => by exfalso; omega, fun _ => ⟨fun _ => by show (-3 : Int32) < 0; decide, fun _ => e10⟩⟩
  rcases (show sort = 0 ∨ sort = 1 ∨ sort = 2 ∨ sort = 3 ∨ sort = 4 ∨ sort = 5 ∨ sort = 6 ∨ sort = 7 ∨ sort = 8 ∨ sort = 9 ∨ sort = 10 ∨ sort = 11 ∨ sort = 12 ∨ sort = 13 ∨ sort = 14 ∨ sort = 15 by omega) with rfl | rfl | rfl | rfl | rfl | rfl | rfl | rfl | rfl | rfl | rfl | rfl | rfl | rfl | rfl | rfl
  · exact ok_f (by decide) (ok_t rfl (h8 () (by omega)))
  · exact ok_f (by decide) (ok_f (by decide) (ok_t rfl (h8 () (by omega))))
  · exact ok_f (by decide) (ok_f (by decide) (ok_f (by decide) (ok_t rfl (h8 () (by omega)))))
  · exact ok_f (by decide) (ok_f (by decide) (ok_f (by decide) (ok_f (by decide) (ok_t rfl (h8 () (by omega))))))
  · exact ok_f (by decide) (ok_f (by decide) (ok_f (by decide) (ok_f (by decide) (ok_f (by decide) (ok_t rfl (h8 () (by omega)))))))
  · exact ok_f (by decide) (ok_f (by decide) (ok_f (by decide) (ok_f (by decide) (ok_f (by decide) (ok_f (by decide) (ok_t rfl (h7 () (rfl))))))))
  · exact ok_f (by decide) (ok_f (by decide) (ok_f (by decide) (ok_f (by decide) (ok_f (by decide) (ok_f (by decide) (ok_f (by decide) (ok_t rfl (h6 () (Or.inl rfl)))))))))
  · exact ok_f (by decide) (ok_f (by decide) (ok_f (by decide) (ok_f (by decide) (ok_f (by decide) (ok_f (by decide) (ok_f (by decide) (ok_f (by decide) (ok_t rfl (h6 () (Or.inr rfl))))))))))
  · exact ok_f (by decide) (ok_f (by decide) (ok_f (by decide) (ok_f (by decide) (ok_f (by decide) (ok_f (by decide) (ok_f (by decide) (ok_f (by decide) (ok_f (by decide) (ok_t rfl (h5 () (Or.inl rfl)))))))))))
  · exact ok_f (by decide) (ok_f (by decide) (ok_f (by decide) (ok_f (by decide) (ok_f (by decide) (ok_f (by decide) (ok_f (by decide) (ok_f (by decide) (ok_f (by decide) (ok_f (by decide) (ok_t rfl (h5 () (Or.inr rfl))))))))))))
  · exact ok_f (by decide) (ok_f (by decide) (ok_f (by decide) (ok_f (by decide) (ok_f (by decide) (ok_f (by decide) (ok_f (by decide) (ok_f (by decide) (ok_f (by decide) (ok_f (by decide) (ok_f (by decide) (ok_t rfl (h4 () (Or.inl rfl)))))))))))))
  · exact ok_f (by decide) (ok_f (by decide) (ok_f (by decide) (ok_f (by decide) (ok_f (by decide) (ok_f (by decide) (ok_f (by decide) (ok_f (by decide) (ok_f (by decide) (ok_f (by decide) (ok_f (by decide) (ok_f (by decide) (ok_t rfl (h4 () (Or.inr rfl))))))))))))))
  · exact ok_f (by decide) (ok_f (by decide) (ok_f (by decide) (ok_f (by decide) (ok_f (by decide) (ok_f (by decide) (ok_f (by decide) (ok_f (by decide) (ok_f (by decide) (ok_f (by decide) (ok_f (by decide) (ok_f (by decide) (ok_f (by decide) (ok_t rfl (h3' () (rfl)))))))))))))))
  · exact ok_f (by decide) (ok_f (by decide) (ok_f (by decide) (ok_f (by decide) (ok_f (by decide) (ok_f (by decide) (ok_f (by decide) (ok_f (by decide) (ok_f (by decide) (ok_f (by decide) (ok_f (by decide) (ok_f (by decide) (ok_f (by decide) (ok_f (by decide) (ok_t rfl (h2 () (rfl))))))))))))))))
  · exact ok_t (by decide) (h1 () (by omega))
  · exact ok_t (by decide) (h1 () (by omega))
end ActE
