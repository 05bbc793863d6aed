/-! a turn of the law -/
def bR (q : Int32 × Int32 × Int32 × Int32 × (Nat → Int32) × (Nat → Int32) × (Nat → Int32) × (Nat → Int32) × Int32 × (Nat → Int32) × (Nat → Int32) × (Nat → Int32) × (Nat → Int32) × Int32 × (Nat → Int32) × (Nat → Nat → Int32) × (Nat → Nat → Int32) × (Nat → Nat → Int32) × (Nat → Nat → Int32) × Int32 × Int32 × Int32 × (Nat → Int32) × (Nat → Int32) × (Nat → Int32) × (Nat → Int32) × (Nat → Int32) × (Nat → Int32) × (Nat → Int32) × Int32 × Int32 × Int32 × (Nat → Int32) × (Nat → Int32) × (Nat → Int32) × (Nat → Int32) × (Nat → Int32) × (Nat → Int32) × (Nat → Int32)) : Prop := ∃ n h, q.2.2.2.1 = nI n ∧ q.2.2.2.2.2.2.2.2.2.2.2.2.2.1 = nI h ∧ shC n q.2.2.2.2.1 q.2.2.2.2.2.1 q.2.2.2.2.2.2.1 q.2.2.2.2.2.2.2.1 ∧ hiC h q.2.2.2.2.2.2.2.2.2.2.2.2.2.2.1 q.2.2.2.2.2.2.2.2.2.2.2.2.2.2.2.1 q.2.2.2.2.2.2.2.2.2.2.2.2.2.2.2.2.1 q.2.2.2.2.2.2.2.2.2.2.2.2.2.2.2.2.2.1 q.2.2.2.2.2.2.2.2.2.2.2.2.2.2.2.2.2.2.1 ∧ rsG (eB q.2.2.2.2.1 q.2.2.2.2.2.1 q.2.2.2.2.2.2.1 q.2.2.2.2.2.2.2.1) n (q.2.2.2.2.2.2.2.1) q.2.2.1 q.2.2.2.2.2.2.2.2.2.2.2.2.2.2.2.2.2.2.2.1 q.2.2.2.2.2.2.2.2.2.2.2.2.2.2.2.2.2.2.2.2.1 q.2.2.2.2.2.2.2.2.2.2.2.2.2.2.2.2.2.2.2.2.2.1 q.2.2.2.2.2.2.2.2.2.2.2.2.2.2.2.2.2.2.2.2.2.2.1 q.2.2.2.2.2.2.2.2.2.2.2.2.2.2.2.2.2.2.2.2.2.2.2.1 q.2.2.2.2.2.2.2.2.2.2.2.2.2.2.2.2.2.2.2.2.2.2.2.2.1 q.2.2.2.2.2.2.2.2.2.2.2.2.2.2.2.2.2.2.2.2.2.2.2.2.2.1 q.2.2.2.2.2.2.2.2.2.2.2.2.2.2.2.2.2.2.2.2.2.2.2.2.2.2.1 q.2.2.2.2.2.2.2.2.2.2.2.2.2.2.2.2.2.2.2.2.2.2.2.2.2.2.2.1 q.2.2.2.2.2.2.2.2.2.2.2.2.2.2.2.2.2.2.2.2.2.2.2.2.2.2.2.2.1
section Body
variable {n h : Nat} {P L M Y : Nat → Int32} {hN : Nat → Int32} {hP hL hM hY : Nat → Nat → Int32}
theorem body_e {Ls k turns : Nat} {xs : Nat → Int32} {old z c any sz c2 any2 sz2 : Int32} {s1 s2 s3 s4 bef beh fy ly aB aH tab b1 b2 b3 b4 b5 b6 tb : Nat → Int32} (hL2 : Ls ≤ 260) (hk : k < turns) (ht : turns ≤ 30) (C : shC n P L M Y) (H : hiC h hN hP hL hM hY) (hr : rsG (eB P L M Y) n Y old c any sz bef beh fy ly aB aH tab) :
    Ok (f_L_body Ls xs 1 (nI turns) (nI k) old (nI n) P L M Y z s1 s2 s3 s4 (nI h) hN hP hL hM hY c any sz bef beh fy ly aB aH tab c2 any2 sz2 b1 b2 b3 b4 b5 b6 tb) (fun o => ∃ q, o = Sum.inl q ∧ q.1 = 1 ∧ q.2.1 = nI (k + 1) ∧ bR q) := by
  have h10 := C.1
  have hn31 : n < 2 ^ 31 := by omega
  have hnz : nI n = 0 ↔ n = 0 := iN_z0 hn31
  have e3k : (3 : Int32) * nI k = nI (3 * k) := by rw [← pk_mul]; rfl
  obtain ⟨vs, hS⟩ := cell_e (L := Ls) xs hL2 (k := 3 * k) (by omega)
  obtain ⟨va, hA⟩ : ∃ va, f_L_cell Ls xs (nI (3 * k) + 1) = some va := by rw [nI_1]; exact cell_e xs hL2 (by omega)
  obtain ⟨vb, hB⟩ : ∃ vb, f_L_cell Ls xs (nI (3 * k) + 2) = some vb := by rw [show nI (3 * k) + 2 = nI (3 * k + 2) from nI_add _ 2]; exact cell_e xs hL2 (by omega)
  obtain ⟨sort, hs16, hsort⟩ := low_l vs 16 16 rfl (by decide) (by decide)
  obtain ⟨b3', hb3, h3⟩ := low_l vb 3 3 rfl (by decide) (by decide)
  obtain ⟨yy, hy5, hyy⟩ := low_l (vb >>> (2 &&& 31)) 550 550 rfl (by decide) (by decide)
  obtain ⟨book, hb0, hbn⟩ : ∃ book, (n = 0 → book = 0) ∧ (n ≠ 0 → book < n ∧ f_L_low va (nI n) = some (nI book)) := by
    by_cases e : n = 0
    · exact ⟨0, fun _ => rfl, fun q => absurd e q⟩
    · obtain ⟨r, hr1, hr2⟩ := low_l va (nI n) n rfl (by omega) hn31
      exact ⟨r, fun q => absurd q e, fun _ => ⟨hr1, hr2⟩⟩
  have hsz : ∀ m, m < 2 ^ 31 → (nI sort = nI m ↔ sort = m) := fun m hm => nI_eq (by omega) hm
  unfold f_L_body
  rw [e3k]
  refine ok_f (nI_ge hk (by omega)) ?_
  refine ok_f (by decide) ?_
  refine k_count C (by decide) nAl_6 hr (fun o1 o2 o3 o4 o5 o6 o7 o8 o9 o10 o11 hr => ?_)
  refine k_count C (by decide) nAl_0 hr (fun o1 o2 o3 o4 o5 o6 o7 o8 o9 o10 o11 hr => ?_)
  refine k_count C (by decide) nAl_2 hr (fun o1 o2 o3 o4 o5 o6 o7 o8 o9 o10 o11 hr => ?_)
  refine k_count C (by decide) nAl_4 hr (fun o1 o2 o3 o4 o5 o6 o7 o8 o9 o10 o11 hr => ?_)
  refine ok_be hS ?_
  refine ok_u1 ?_
  refine ok_be hsort ?_
  refine ok_u1 ?_
  refine ok_be hA ?_
  refine ok_u1 ?_
  refine ok_be hB ?_
  refine ok_u1 ?_
  refine ok_jn (fun s => s = if ((sort = 10 ∨ sort = 11) ∧ n ≠ 0 ∧ b3' ≠ 0) then 1 else 0) ?_ (fun K hK => ?_)
  rotate_left
  · refine ok_jn (fun _ => ¬ ((sort = 10 ∨ sort = 11) ∧ n ≠ 0 ∧ b3' ≠ 0)) ?_ (fun K387 h387 => ?_)
    · rintro ⟨⟩ q
      exact ok_u0 (hK 0 (if_neg q).symm)
    refine ok_jn (fun _ => sort = 10 ∨ sort = 11) ?_ (fun K388 h388 => ?_)
    · rintro ⟨⟩ q
      refine ok_u0 ?_
      refine ok_if (fun w => h387 () (fun v => ?_)) (fun w => ?_)
      · have := (nI_leI (b := 0) hn31 (by decide)).mp w
        exact v.2.1 (by omega)
      · refine ok_be h3 ?_
        refine ok_u1 ?_
        refine ok_if (fun w2 => h387 () (fun v => ?_)) (fun w2 => hK 1 (if_pos ⟨q, ?_, ?_⟩).symm)
        · have := (nI_leI (b := 0) (show b3' < 2 ^ 31 by omega) (by decide)).mp w2
          exact v.2.2 (by omega)
        · exact fun e => w (by rw [e]; decide)
        · exact fun e => w2 (by rw [e]; decide)
    refine ok_if (fun q => h388 () (Or.inl ((hsz 10 (by decide)).mp q))) (fun q => ?_)
    refine ok_if (fun q2 => h388 () (Or.inr ((hsz 11 (by decide)).mp q2))) (fun q2 => h387 () (fun v => ?_))
    rcases v.1 with e | e
    · exact q (by rw [e]; rfl)
    · exact q2 (by rw [e]; rfl)
  rintro _ rfl
  refine ok_u1 ?_
  refine ok_jn (fun q => ((sort = 10 ∨ sort = 11) ∧ n ≠ 0 ∧ b3' ≠ 0) → q.2.2.2.2.2.2.2.2.2.2.2.2.2.2.2 = nI (fitN (eB P L M (upd Y book (nI (1450 + yy)))) n)) ?_ (fun K hK => ?_)
  rotate_left
  · refine ok_if (fun q => hK _ (fun v => ?_)) (fun q => ?_)
    · rw [if_pos v] at q
      exact absurd q (by decide)
    · have v : (sort = 10 ∨ sort = 11) ∧ n ≠ 0 ∧ b3' ≠ 0 := Classical.byContradiction (fun w => q (if_neg w))
      obtain ⟨hb, eb⟩ := hbn v.2.1
      obtain ⟨y1, y2, y3⟩ := yr_num hy5
      refine ok_be eb ?_
      refine ok_u1 ?_
      refine ok_be hyy ?_
      refine ok_u1 ?_
      rw [y1]
      exact k_ifYear C hb ⟨y2, y3⟩ (fun q1 q2 q3 q4 q5 q6 q7 q8 q9 q10 q11 q12 q13 q14 q15 => hK _ (fun _ => rfl))
  rintro ⟨x1, x2, x3, x4, x5, x6, x7, x8, x9, x10, x11, x12, x13, x14, x15, s70⟩ hs70
  dsimp only at hs70
  refine ok_u16 ?_
  refine ok_bd _ (act_e C H hr hA hB hS hsort hs16 hb0 hbn h3 hb3 hyy hy5) ?_
  rintro ⟨r72, g1, g2, g3, g4, g5, g6, g7, g8, g9, g10, g11, g12, g13, g14, g15, g16, g17, g18, g19, g20, g21, g22⟩ ⟨n', h', e1, e2, C2, H2, hr2, neg, yr, dt, bk⟩
  dsimp only at e1 e2 C2 H2 hr2 neg yr dt bk
  generalize g3 = P' at C2 hr2 neg yr ⊢
  generalize g4 = L' at C2 hr2 neg yr ⊢
  generalize g5 = M' at C2 hr2 neg yr ⊢
  generalize g6 = Y' at C2 hr2 neg yr dt ⊢
  subst e1; subst e2
  refine ok_u23 ?_
  refine ok_jn (fun q => q.2.2.2.2.2.2.2.2.2.2.2 = 1 ∧ rsG (eB P' L' M' Y') n' Y' q.1 q.2.1 q.2.2.1 q.2.2.2.1 q.2.2.2.2.1 q.2.2.2.2.2.1 q.2.2.2.2.2.2.1 q.2.2.2.2.2.2.2.1 q.2.2.2.2.2.2.2.2.1 q.2.2.2.2.2.2.2.2.2.1 q.2.2.2.2.2.2.2.2.2.2.1) ?_ (fun K hK => ?_)
  rotate_left
  · refine ok_jn (fun q => rsG (eB P' L' M' Y') n' Y' q.1 q.2.1 q.2.2.1 q.2.2.2.1 q.2.2.2.2.1 q.2.2.2.2.2.1 q.2.2.2.2.2.2.1 q.2.2.2.2.2.2.2.1 q.2.2.2.2.2.2.2.2.1 q.2.2.2.2.2.2.2.2.2.1 q.2.2.2.2.2.2.2.2.2.2) ?_ (fun K3 h3' => ?_)
    · rintro ⟨v1, v2, v3, v4, v5, v6, v7, v8, v9, v10, v11⟩ hq
      exact ok_u11 (hK _ ⟨rfl, hq⟩)
    refine ok_if (fun q => h3' _ hr2) (fun q => ?_)
    obtain ⟨f1, f2, f3, f4, f5, f6⟩ := neg (Int32.not_le.mp q)
    refine k_count C2 (by decide) nAl_6 hr2 (fun o1 o2 o3 o4 o5 o6 o7 o8 o9 o10 o11 hr => ?_)
    refine ok_jd ?_
    refine ok_t (by rw [f2]) ?_
    refine k_count C2 (by decide) nAl_0 hr (fun o1 o2 o3 o4 o5 o6 o7 o8 o9 o10 o11 hr => ?_)
    refine ok_t (by rw [f1]) ?_
    refine k_count C2 (by decide) nAl_2 hr (fun o1 o2 o3 o4 o5 o6 o7 o8 o9 o10 o11 hr => ?_)
    refine ok_t (by rw [f1, f6]) ?_
    refine k_count C2 (by decide) nAl_4 hr (fun o1 o2 o3 o4 o5 o6 o7 o8 o9 o10 o11 hr => ?_)
    refine ok_t (by rw [f1, f3, f4, f5, f6]) ?_
    exact h3' _ hr
  rintro ⟨v1, v2, v3, v4, v5, v6, v7, v8, v9, v10, v11, s⟩ ⟨e, hr⟩
  dsimp only at e hr
  subst e
  refine ok_u12 ?_
  refine ok_jd ?_
  refine ok_jd ?_
  refine ok_f (by decide) ?_
  refine ok_jn (fun q => rsG (eB P' L' M' Y') n' Y' q.1 q.2.1 q.2.2.1 q.2.2.2.1 q.2.2.2.2.1 q.2.2.2.2.2.1 q.2.2.2.2.2.2.1 q.2.2.2.2.2.2.2.1 q.2.2.2.2.2.2.2.2.1 q.2.2.2.2.2.2.2.2.2.1 q.2.2.2.2.2.2.2.2.2.2) ?_ (fun K hK => ?_)
  rotate_left
  · refine ok_if (fun q => hK _ hr) (fun q => ?_)
    have v : (sort = 10 ∨ sort = 11) ∧ n ≠ 0 ∧ b3' ≠ 0 := Classical.byContradiction (fun w => q (if_neg w))
    refine k_count C2 (by decide) nAl_4 hr (fun o1 o2 o3 o4 o5 o6 o7 o8 o9 o10 o11 hr => ?_)
    refine ok_t ?_ (hK _ hr)
    rw [hs70 v, yr v.1 v.2.1 v.2.2]
  rintro ⟨v1, v2, v3, v4, v5, v6, v7, v8, v9, v10, v11⟩ hr
  dsimp only at hr
  refine ok_u11 ?_
  refine ok_jn (fun q => rsG (eB P' L' M' Y') n' Y' q.1 q.2.1 q.2.2.1 q.2.2.2.1 q.2.2.2.2.1 q.2.2.2.2.2.1 q.2.2.2.2.2.2.1 q.2.2.2.2.2.2.2.1 q.2.2.2.2.2.2.2.2.1 q.2.2.2.2.2.2.2.2.2.1 q.2.2.2.2.2.2.2.2.2.2) ?_ (fun K hK => ?_)
  rotate_left
  · refine ok_if (fun q => ?_) (fun q => hK _ hr)
    refine k_count C2 (by decide) nAl_2 hr (fun o1 o2 o3 o4 o5 o6 o7 o8 o9 o10 o11 hr => ?_)
    exact ok_t (dt ((hsz 13 (by decide)).mp q)) (hK _ hr)
  rintro ⟨v1, v2, v3, v4, v5, v6, v7, v8, v9, v10, v11⟩ hr
  dsimp only at hr
  refine ok_u11 ?_
  refine ok_jn (fun _ => True) ?_ (fun K hK => ?_)
  rotate_left
  · refine ok_if (fun _ => hK () trivial) (fun q => ?_)
    have hbk := bk (Nat.le_of_not_lt (fun z => q ((nI_ltI (a := 4) (by decide) (show sort < 2 ^ 31 by omega)).mpr z)))
    have hn10 : nI n = 10 ↔ n = 10 := nI_eq (b := 10) hn31 (by decide)
    refine ok_jn (fun s => s = if n = 10 then 1 else 0) ?_ (fun K2 h2 => ok_if (fun w => h2 _ (if_pos (hn10.mp w)).symm) (fun w => h2 _ (if_neg (fun v => w (hn10.mpr v))).symm))
    rintro _ rfl
    refine ok_u1 ?_
    refine ok_jn (fun s => s = if n = 10 then 1 else 0) ?_ (fun K2 h2 => ok_if (fun w => h2 _ (if_neg (fun v => absurd (hbk.mp v) (Int32.not_lt.mpr w))).symm) (fun w => h2 _ (if_pos (hbk.mpr (Int32.not_le.mp w))).symm))
    rintro _ rfl
    refine ok_u1 ?_
    exact ok_t rfl (hK () trivial)
  rintro ⟨⟩ -
  refine ok_u0 ?_
  refine ok_bd _ (hunt_e C2 hr) ?_
  rintro ⟨r, v1, v2, v3, v4, v5, v6, v7, v8, v9, v10, v11⟩ ⟨e, hr⟩
  dsimp only at e hr
  subst e
  refine ok_u12 ?_
  refine ok_f (by decide) ?_
  refine ok_gZ (by decide) ?_
  refine ok_jn (fun q => rsG (eB P' L' M' Y') n' Y' q.1 q.2.2.2.2.2.2.1 q.2.2.2.2.2.2.2.1 q.2.2.2.2.2.2.2.2.1 q.2.2.2.2.2.2.2.2.2.1 q.2.2.2.2.2.2.2.2.2.2.1 q.2.2.2.2.2.2.2.2.2.2.2.1 q.2.2.2.2.2.2.2.2.2.2.2.2.1 q.2.2.2.2.2.2.2.2.2.2.2.2.2.1 q.2.2.2.2.2.2.2.2.2.2.2.2.2.2.1 q.2.2.2.2.2.2.2.2.2.2.2.2.2.2.2.1) ?_ (fun K hK => ?_)
  · rintro ⟨v1, v2, v3, v4, v5, v6, v7, v8, v9, v10, v11, v12, v13, v14, v15, v16, v17, v18, v19, v20, v21, v22, v23, v24, v25, v26⟩ hr
    dsimp only at hr
    refine ok_u26 ?_
    refine ok_u27 ?_
    exact ok_s ⟨_, rfl, rfl, nI_1 k, n', h', rfl, rfl, C2, H2, hr⟩
  refine ok_jn (fun _ => True) ?_ (fun K2 h2 => ?_)
  · rintro ⟨⟩ -
    refine ok_u0 ?_
    refine ok_bd _ (lorders_e C2 hr) ?_
    rintro ⟨r, v1, v2, v3, v4, v5, v6, v7, v8, v9, v10, v11⟩ ⟨e, hr⟩
    dsimp only at e hr
    subst e
    refine ok_u12 ?_
    refine ok_f (by decide) ?_
    obtain ⟨lt, hlt, elt⟩ := low_l va 12 12 rfl (by decide) (by decide)
    refine ok_be elt ?_
    refine ok_u1 ?_
    refine k_tells C2 hlt hr (fun v q1 q2 q3 q4 q5 q6 q7 q8 q9 q10 q11 q12 q13 q14 q15 q16 q17 q18 q19 q20 q21 q22 q23 q24 q25 q26 hv hr => ?_)
    refine ok_f (Int32.not_lt.mpr hv) ?_
    exact hK _ hr
  exact ok_if (fun _ => h2 () trivial) (fun _ => ok_if (fun _ => hK _ hr) (fun _ => h2 () trivial))
theorem body_end {Ls turns : Nat} {xs : Nat → Int32} {zN zH old z c any sz c2 any2 sz2 : Int32} {s1 s2 s3 s4 bef beh fy ly aB aH tab b1 b2 b3 b4 b5 b6 tb : Nat → Int32} (ht : turns ≤ 30) : f_L_body Ls xs 1 (nI turns) (nI turns) old zN P L M Y z s1 s2 s3 s4 zH hN hP hL hM hY c any sz bef beh fy ly aB aH tab c2 any2 sz2 b1 b2 b3 b4 b5 b6 tb = some (Sum.inr 1) := by
  unfold f_L_body
  exact if_pos (nI_le (Nat.le_refl turns) (by omega))
end Body
