/-! the class: numbers of all, places, what would be, the share -/
theorem hvY_e {n : Nat} {Y : Nat → Int32} (hn : n ≤ 10) : f_X2_booksWithYear (nI n) Y = some (nI (havY n Y)) := by
  have key : Ok (f_X2_booksWithYear (nI n) Y) (fun r => r = nI (havY n Y)) := by
    unfold f_X2_booksWithYear
    refine ok_wl (fun i s => s.2 = nI i ∧ s.1 = nI (havY i Y)) (fun r => r = nI (havY n Y)) n (by omega) ⟨rfl, rfl⟩ ?_ ?_ (fun r hr => ok_u1 (ok_s hr))
    · rintro i ⟨s', l⟩ hi ⟨hl, hs⟩
      dsimp only at hl hs
      subst hl hs
      refine ok_nle hi (by omega) (ok_rd i rfl (by omega) (by decide) (ok_jd ?_))
      by_cases q : Y i = -1
      · refine ok_t q (ok_u1 (ok_s ⟨nI_1 i, ?_⟩))
        show nI (havY i Y) = nI (havY i Y + if Y i = -1 then 0 else 1)
        rw [if_pos q]; rfl
      · refine ok_f q (ok_u1 (ok_s ⟨nI_1 i, ?_⟩))
        show nI (havY i Y) + 1 = nI (havY i Y + if Y i = -1 then 0 else 1)
        rw [if_neg q, nI_1]
    · rintro ⟨s', l⟩ ⟨hl, hs⟩
      dsimp only at hl hs
      subst hl hs
      exact ok_yle (Nat.le_refl _) (by omega) (ok_s rfl)
  obtain ⟨r, h1, h2⟩ := key
  rw [h1, h2]
theorem hvP_e {n : Nat} {P : Nat → Int32} {p : Int32} (hn : n ≤ 10) : f_X2_booksOfPress p (nI n) P = some (nI (havP n P p)) := by
  have key : Ok (f_X2_booksOfPress p (nI n) P) (fun r => r = nI (havP n P p)) := by
    unfold f_X2_booksOfPress
    refine ok_wl (fun i s => s.2 = nI i ∧ s.1 = nI (havP i P p)) (fun r => r = nI (havP n P p)) n (by omega) ⟨rfl, rfl⟩ ?_ ?_ (fun r hr => ok_u1 (ok_s hr))
    · rintro i ⟨s', l⟩ hi ⟨hl, hs⟩
      dsimp only at hl hs
      subst hl hs
      refine ok_nle hi (by omega) (ok_rd i rfl (by omega) (by decide) (ok_jd ?_))
      by_cases q : P i = p
      · refine ok_t q (ok_u1 (ok_s ⟨nI_1 i, ?_⟩))
        show nI (havP i P p) + 1 = nI (havP i P p + if P i = p then 1 else 0)
        rw [if_pos q, nI_1]
      · refine ok_f q (ok_u1 (ok_s ⟨nI_1 i, ?_⟩))
        show nI (havP i P p) = nI (havP i P p + if P i = p then 1 else 0)
        rw [if_neg q]; rfl
    · rintro ⟨s', l⟩ ⟨hl, hs⟩
      dsimp only at hl hs
      subst hl hs
      exact ok_yle (Nat.le_refl _) (by omega) (ok_s rfl)
  obtain ⟨r, h1, h2⟩ := key
  rw [h1, h2]
theorem dtV_e {E : Nat → Nat → Bool} {n : Nat} {Y bef beh fy ly aB aH : Nat → Int32} {any sz : Int32} (hn : n ≤ 10) (h : rdV E n Y any sz bef beh fy ly aB aH) : f_X1_datedBooks sz fy ly = some (nI (dtdV E n Y)) := by
  rw [h.1, datedBooks_e hn, dtdV, dtd_congr (fun b hb => (h.2.2 b hb).2.1)]
theorem orV_e {E : Nat → Nat → Bool} {n : Nat} {Y bef beh fy ly aB aH tab : Nat → Int32} {c any sz : Int32} (hn : n ≤ 10) (h : rdV E n Y any sz bef beh fy ly aB aH) (ht : tabG E n c tab) : Ok (f_X1_orders c any sz bef tab) (fun o => o.1 = nI (fitN E n) ∧ tabG E n o.2.1 o.2.2) := by
  rw [h.1]
  exact orders_e hn (fun b hb => (h.2.2 b hb).1.1) h.2.1 ht
theorem nAll_e {n : Nat} {P L M Y bef beh fy ly aB aH tab : Nat → Int32} {old c any sz w hs : Int32} (hn : n ≤ 10) (hY : yrOk n M Y) (h0 : 0 ≤ w) (h : rsG (eB P L M Y) n Y old c any sz bef beh fy ly aB aH tab) :
    Ok (f_X4_numberOfAll w old (nI n) P L M Y hs c any sz bef beh fy ly aB aH tab) (fun o => o.1 = nAl (eB P L M Y) n P Y hs w ∧ rsG (eB P L M Y) n Y o.2.1 o.2.2.1 o.2.2.2.1 o.2.2.2.2.1 o.2.2.2.2.2.1 o.2.2.2.2.2.2.1 o.2.2.2.2.2.2.2.1 o.2.2.2.2.2.2.2.2.1 o.2.2.2.2.2.2.2.2.2.1 o.2.2.2.2.2.2.2.2.2.2.1 o.2.2.2.2.2.2.2.2.2.2.2) := by
  unfold f_X4_numberOfAll
  by_cases c0 : w < 0 ∨ 6 < w
  · have c6 : (6 : Int32) < w := by
      rcases c0 with c | c
      · exact absurd c (Int32.not_lt.mpr h0)
      · exact c
    have hx : ∀ k : Int32, k ≤ 6 → ¬ w = k := fun k hk e => by
      subst e
      exact absurd c6 (Int32.not_lt.mpr hk)
    refine ok_t c0 (ok_be (hvP_e hn) (ok_u1 (ok_s ⟨?_, h⟩)))
    show nI (havP n P (w - 7)) = nAl _ _ _ _ _ _
    unfold nAl
    rw [if_neg (hx 0 (by decide)), if_neg (hx 1 (by decide)), if_neg (hx 2 (by decide)), if_neg (hx 3 (by decide)), if_neg (hx 4 (by decide)), if_neg (hx 5 (by decide)), if_neg (hx 6 (by decide))]
  · have c1 : ¬ w < 0 := fun z => c0 (Or.inl z)
    have c2 : w ≤ nI 6 := Int32.not_lt.mp (fun z => c0 (Or.inr z))
    have hE : ∀ a, eB P L M Y a a = false := fun a => eB_irr a
    obtain ⟨k, hk, rfl⟩ := w_cases 6 h0 c2 (by decide)
    refine ok_f c0 ?_
    match k, hk with
    | 0, _ => exact ok_t rfl (ok_s ⟨rfl, h⟩)
    | 1, _ =>
      refine ok_f (by decide) (ok_t rfl (ok_bd _ (cr_e hn hY h) ?_))
      rintro ⟨o3, o4, o5, o6, o7, o8, o9, o10, o11, o12⟩ ⟨h1, h2, h3⟩
      exact ok_u10 (ok_be (dtV_e hn h2) (ok_u1 (ok_s ⟨rfl, Or.inl h1, fun _ => ⟨h2, h3⟩⟩)))
    | 2, _ => exact ok_f (by decide) (ok_f (by decide) (ok_t rfl (ok_be (hvY_e hn) (ok_u1 (ok_s ⟨rfl, h⟩)))))
    | 3, _ =>
      refine ok_f (by decide) (ok_f (by decide) (ok_f (by decide) (ok_t rfl (ok_bd _ (cr_e hn hY h) ?_))))
      rintro ⟨o3, o4, o5, o6, o7, o8, o9, o10, o11, o12⟩ ⟨h1, h2, h3⟩
      refine ok_u10 (ok_be (a := nI (conP (eB P L M Y) n)) ?_ (ok_u1 (ok_s ⟨rfl, Or.inl h1, fun _ => ⟨h2, h3⟩⟩)))
      have e := h2.1
      dsimp only at e
      subst e
      exact conPairs_e hE hn (fun b hb => (h2.2.2 b hb).1)
    | 4, _ =>
      refine ok_f (by decide) (ok_f (by decide) (ok_f (by decide) (ok_f (by decide) (ok_t rfl (ok_bd _ (cr_e hn hY h) ?_)))))
      rintro ⟨o3, o4, o5, o6, o7, o8, o9, o10, o11, o12⟩ ⟨h1, h2, h3⟩
      refine ok_u10 (ok_bd _ (orV_e hn h2 h3) ?_)
      rintro ⟨r, o39, o40⟩ ⟨hr, ht⟩
      exact ok_u3 (ok_s ⟨hr, Or.inl h1, fun _ => ⟨h2, ht⟩⟩)
    | 5, _ =>
      refine ok_f (by decide) (ok_f (by decide) (ok_f (by decide) (ok_f (by decide) (ok_f (by decide) (ok_t rfl (ok_bd _ (cr_e hn hY h) ?_))))))
      rintro ⟨o3, o4, o5, o6, o7, o8, o9, o10, o11, o12⟩ ⟨h1, h2, h3⟩
      refine ok_u10 (ok_be (a := nI (ordP (eB P L M Y) n)) ?_ (ok_u1 (ok_s ⟨rfl, Or.inl h1, fun _ => ⟨h2, h3⟩⟩)))
      have e := h2.1
      dsimp only at e
      subst e
      exact ordPairs_e hE hn (fun b hb => (h2.2.2 b hb).1)
    | 6, _ => exact ok_f (by decide) (ok_f (by decide) (ok_f (by decide) (ok_f (by decide) (ok_f (by decide) (ok_f (by decide) (ok_t rfl (ok_s ⟨rfl, h⟩)))))))
    | k + 7, hk => omega
theorem nPlace_e {n b : Nat} {P L M Y bef beh fy ly aB aH tab : Nat → Int32} {old c any sz w : Int32} (hn : n ≤ 10) (hb : b < n) (hY : yrOk n M Y) (hw : w = 0 ∨ w = 1 ∨ w = 2) (h : rsG (eB P L M Y) n Y old c any sz bef beh fy ly aB aH tab) :
    Ok (f_X4_numberOfPlaces (nI b) w old (nI n) P L M Y c any sz bef beh fy ly aB aH tab) (fun o => o.1 = nPl (eB P L M Y) n b w ∧ rsG (eB P L M Y) n Y o.2.1 o.2.2.1 o.2.2.2.1 o.2.2.2.2.1 o.2.2.2.2.2.1 o.2.2.2.2.2.2.1 o.2.2.2.2.2.2.2.1 o.2.2.2.2.2.2.2.2.1 o.2.2.2.2.2.2.2.2.2.1 o.2.2.2.2.2.2.2.2.2.2.1 o.2.2.2.2.2.2.2.2.2.2.2) := by
  unfold f_X4_numberOfPlaces
  rcases hw with rfl | rfl | rfl
  · refine ok_t rfl (ok_bd _ (cr_e hn hY h) ?_)
    rintro ⟨o3, o4, o5, o6, o7, o8, o9, o10, o11, o12⟩ ⟨h1, h2, h3⟩
    refine ok_u10 (ok_be (leastPlace_e hn hb ((clo_cl _ n).1 b hb) (h2.2.2 b hb).2.2.1 h2.2.1) (ok_u1 (ok_s ⟨rfl, Or.inl h1, fun _ => ⟨h2, h3⟩⟩)))
  · refine ok_f (by decide) (ok_t rfl (ok_bd _ (cr_e hn hY h) ?_))
    rintro ⟨o3, o4, o5, o6, o7, o8, o9, o10, o11, o12⟩ ⟨h1, h2, h3⟩
    have e := h2.1
    dsimp only at e
    subst e
    refine ok_u10 (ok_be (greatestPlace_e hn hb ((clo_cl _ n).1 b hb) (h2.2.2 b hb).2.2.2 h2.2.1) (ok_u1 (ok_s ⟨rfl, Or.inl h1, fun _ => ⟨h2, h3⟩⟩)))
  · refine ok_f (by decide) (ok_f (by decide) (ok_bd _ (cr_e hn hY h) ?_))
    rintro ⟨o3, o4, o5, o6, o7, o8, o9, o10, o11, o12⟩ ⟨h1, h2, h3⟩
    have e := h2.1
    dsimp only at e
    subst e
    refine ok_u10 (ok_bd _ (ordersWithFirst_e hn hb (fun b hb => (h2.2.2 b hb).1.1) h2.2.1 h3) ?_)
    rintro ⟨r, o37, o38⟩ ⟨hr, ht⟩
    exact ok_u3 (ok_s ⟨hr, Or.inl h1, fun _ => ⟨h2, ht⟩⟩)
/-- a letter taken out of one book -/
theorem show0_e {i : Nat} {l : Int32} {w : Nat → Int32} (hi : i < 10) : f_X2_show (nI i) l 0 w = some (upd w i (w i &&& (((1 : Int32) <<< (l &&& 31)) ^^^ (-1)))) := by
  have key : Ok (f_X2_show (nI i) l 0 w) (fun r => r = upd w i (w i &&& (((1 : Int32) <<< (l &&& 31)) ^^^ (-1)))) := by
    unfold f_X2_show
    exact ok_jd (ok_t rfl (ok_rd i rfl hi (by decide) (ok_u1 (ok_wr i rfl hi (by decide) (ok_s rfl)))))
  obtain ⟨r, h1, h2⟩ := key
  rw [h1, h2]
theorem owl_e {n : Nat} {P L M Y p1 p2 p3 p4 a1 a2 a3 a4 a5 a6 tab : Nat → Int32} {l z c any sz : Int32} (hn : n ≤ 10) (hY : yrOk n M Y) :
    Ok (f_X4_ordersWithoutLetter l (nI n) P L M Y z p1 p2 p3 p4 c any sz a1 a2 a3 a4 a5 a6 tab) (fun o => o.1 = nI (fitN (eB P (clL L l) M Y) n)) := by
  unfold f_X4_ordersWithoutLetter
  refine ok_bd _ (copyFrom_e hn) ?_
  rintro ⟨o2, o3, o4, o5, o6⟩ ⟨h1, h2⟩
  dsimp only at h1 h2
  subst h1
  refine ok_u5 ?_
  refine ok_wl (fun i s => s.1 = nI i ∧ ∀ b, b < n → s.2 b = if b < i then clL L l b else L b) (fun r => ∀ b, b < n → r b = clL L l b) n (by omega) ⟨rfl, fun b hb => ?_⟩ ?_ ?_ ?_
  · rw [if_neg (Nat.not_lt_zero b)]
    exact (h2 b hb).2.1
  · rintro i ⟨l', w⟩ hi ⟨hl, hw⟩
    dsimp only at hl hw
    subst hl
    refine ok_nle hi (by omega) (ok_be (show0_e (by omega)) (ok_u1 (ok_s ⟨nI_1 i, fun b hb => ?_⟩)))
    dsimp only
    by_cases e : b = i
    · subst e
      have := hw b hb
      rw [if_neg (Nat.lt_irrefl b)] at this
      rw [pk_us, this, if_pos (by omega)]
      rfl
    · rw [pk_un e, hw b hb]
      by_cases q : b < i
      · rw [if_pos q, if_pos (by omega)]
      · rw [if_neg q, if_neg (by omega)]
  · rintro ⟨l', w⟩ ⟨hl, hw⟩
    dsimp only at hl hw
    subst hl
    refine ok_yle (Nat.le_refl _) (by omega) (ok_s (fun b hb => ?_))
    have := hw b hb
    rw [if_pos hb] at this
    exact this
  · intro w9 hw9
    have hsh : sh4 n P (clL L l) M Y o3 w9 o5 o6 := fun b hb => ⟨(h2 b hb).1, hw9 b hb, (h2 b hb).2.2.1, (h2 b hb).2.2.2⟩
    refine ok_u1 (ok_bd _ (read_e hn (yrOk_cg h2 hY)) ?_)
    rintro ⟨o13, o14, o15, o16, o17, o18, o19, o20, o21⟩ ⟨h5, h6⟩
    dsimp only at h5
    subst h5
    have h7 := rdV_of h6
    refine ok_u9 (ok_bd _ (orV_e hn h7 ⟨Or.inl rfl, fun q => absurd rfl q⟩) ?_)
    rintro ⟨r, o23, o24⟩ ⟨hr, -⟩
    refine ok_u3 (ok_s ?_)
    dsimp only at hr ⊢
    rw [hr, fitN_cg (eB_cg hsh)]
theorem nif_e {n b : Nat} {P L M Y p1 p2 p3 p4 a1 a2 a3 a4 a5 a6 tab : Nat → Int32} {y w z c any sz : Int32} (hn : n ≤ 10) (hb : b < n) (hY : yrOk n M Y) (hy : 1450 ≤ y ∧ y ≤ 1999) :
    Ok (f_X4_numberIfYear (nI b) y w (nI n) P L M Y z p1 p2 p3 p4 c any sz a1 a2 a3 a4 a5 a6 tab) (fun o => o.1 = nIy P L M Y n b y w) := by
  unfold f_X4_numberIfYear
  refine ok_bd _ (copyFrom_e hn) ?_
  rintro ⟨o2, o3, o4, o5, o6⟩ ⟨h1, h2⟩
  dsimp only at h1 h2
  subst h1
  refine ok_u5 (ok_wr b rfl (by omega) (by decide) ?_)
  have hsh : sh4 n P L M (upd Y b y) o3 o4 o5 (upd o6 b y) := fun x hx => by
    refine ⟨(h2 x hx).1, (h2 x hx).2.1, (h2 x hx).2.2.1, ?_⟩
    by_cases e : x = b
    · subst e; rw [pk_us, pk_us]
    · rw [pk_un e, pk_un e]; exact (h2 x hx).2.2.2
  refine ok_bd _ (read_e hn (yrOk_cg hsh (yr_upd hY hy))) ?_
  rintro ⟨o9, o10, o11, o12, o13, o14, o15, o16, o17⟩ ⟨h5, h6⟩
  dsimp only at h5
  subst h5
  have h7 := rdV_of h6
  refine ok_u9 (ok_jd ?_)
  unfold nIy
  by_cases q : w = 0
  · refine ok_t q (ok_bd _ (orV_e hn h7 ⟨Or.inl rfl, fun q => absurd rfl q⟩) ?_)
    rintro ⟨r, o23, o24⟩ ⟨hr, -⟩
    refine ok_u3 (ok_u3 (ok_s ?_))
    dsimp only at hr ⊢
    rw [hr, fitN_cg (eB_cg hsh), if_pos q]
  · refine ok_f q (ok_be (dtV_e hn h7) (ok_u1 (ok_u3 (ok_s ?_))))
    dsimp only
    rw [dtdV_cg (eB_cg hsh) (fun x hx => (hsh x hx).2.2.2), if_neg q]
