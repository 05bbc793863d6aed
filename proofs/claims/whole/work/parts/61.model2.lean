/-! the reference's years: rounds -/
def clR (E : Nat → Nat → Bool) (n : Nat) : Nat → Nat → Nat
  | 0 => bfM E n
  | m + 1 => wNext m (clR E n m)
theorem clR_inv (E : Nat → Nat → Bool) (n : Nat) : ∀ m, m ≤ n → wInv E n m (clR E n m)
  | 0, _ => wInv_0
  | m + 1, h => wInv_s (by omega) (clR_inv E n m (by omega))
def clo (E : Nat → Nat → Bool) (n : Nat) : Nat → Nat := clR E n n
theorem clo_cl (E : Nat → Nat → Bool) (n : Nat) : isCl E n (clo E n) := wInv_n (clR_inv E n n (Nat.le_refl n))
def iF (Y : Nat → Int32) (o : Nat) : Int32 := if Y o = -1 then 1450 else Y o
def iL (Y : Nat → Int32) (o : Nat) : Int32 := if Y o = -1 then 1999 else Y o
def inU (A : Nat → Nat) (b o : Nat) : Prop := o = b ∨ (A b).testBit o = true
def yInv (n : Nat) (A B : Nat → Nat) (Y w : Nat → Int32) : Prop := ∀ x, x < n → (∃ o, o < n ∧ inU A x o ∧ w (2 * x) = iF Y o) ∧ ∃ o, o < n ∧ inU B x o ∧ w (2 * x + 1) = iL Y o
def yRnd (E : Nat → Nat → Bool) (n : Nat) (w0 : Nat → Int32) (k : Nat) (w : Nat → Int32) : Prop :=
  (∀ x, x < n → w0 (2 * x) ≤ w (2 * x) ∧ w (2 * x + 1) ≤ w0 (2 * x + 1)) ∧ ∀ j, j < k → E (j / n) (j % n) = true → w0 (2 * (j / n)) ≤ w (2 * (j % n)) ∧ w (2 * (j / n) + 1) ≤ w0 (2 * (j % n) + 1)
def yUp (E : Nat → Nat → Bool) (n r : Nat) (Y w : Nat → Int32) : Prop := ∀ x o, x < n → o < n → (pB E n r o x = true → iF Y o ≤ w (2 * x)) ∧ (pB (tr E) n r o x = true → w (2 * x + 1) ≤ iL Y o)
def mxI (x y : Int32) : Int32 := if x ≤ y then y else x
def mnI (x y : Int32) : Int32 := if x ≤ y then x else y
theorem mx_l (x y : Int32) : x ≤ mxI x y := by
  unfold mxI
  by_cases h : x ≤ y
  · rw [if_pos h]; exact h
  · rw [if_neg h]; exact Int32.le_refl _
theorem mx_r (x y : Int32) : y ≤ mxI x y := by
  unfold mxI
  by_cases h : x ≤ y
  · rw [if_pos h]; exact Int32.le_refl _
  · rw [if_neg h]; exact i_le_of_lt (Int32.not_le.mp h)
theorem mn_l (x y : Int32) : mnI x y ≤ x := by
  unfold mnI
  by_cases h : x ≤ y
  · rw [if_pos h]; exact Int32.le_refl _
  · rw [if_neg h]; exact i_le_of_lt (Int32.not_le.mp h)
theorem mn_r (x y : Int32) : mnI x y ≤ y := by
  unfold mnI
  by_cases h : x ≤ y
  · rw [if_pos h]; exact h
  · rw [if_neg h]; exact Int32.le_refl _
/-- the years behind one pair -/
def yNx (a b : Nat) (w : Nat → Int32) : Nat → Int32 := upd (upd w (2 * b) (mxI (w (2 * a)) (w (2 * b)))) (2 * a + 1) (mnI (w (2 * a + 1)) (w (2 * b + 1)))
theorem yNx_f (a b : Nat) (w : Nat → Int32) (x : Nat) : yNx a b w (2 * x) = if x = b then mxI (w (2 * a)) (w (2 * b)) else w (2 * x) := by
  unfold yNx
  rw [pk_un (by omega)]
  by_cases e : x = b
  · subst e; rw [pk_us, if_pos rfl]
  · rw [pk_un (by omega), if_neg e]
theorem yNx_l (a b : Nat) (w : Nat → Int32) (x : Nat) : yNx a b w (2 * x + 1) = if x = a then mnI (w (2 * a + 1)) (w (2 * b + 1)) else w (2 * x + 1) := by
  unfold yNx
  by_cases e : x = a
  · subst e; rw [pk_us, if_pos rfl]
  · rw [pk_un (by omega), pk_un (by omega), if_neg e]
theorem inU_s {E : Nat → Nat → Bool} {n : Nat} {A : Nat → Nat} (hA : isCl E n A) {a b o : Nat} (ha : a < n) (hb : b < n) (ho : o < n) (h : E a b = true) (hu : inU A a o) : inU A b o := by
  rcases hu with rfl | hu
  · exact Or.inr (hA.2.1 o b ho hb h)
  · exact Or.inr (hA.2.2.1 o a b ho ha hb hu (hA.2.1 a b ha hb h))
theorem yNx_inv {E : Nat → Nat → Bool} {n a b : Nat} {A B : Nat → Nat} {Y w : Nat → Int32} (hA : isCl E n A) (hB : isCl (tr E) n B) (ha : a < n) (hb : b < n) (hE : E a b = true) (h : yInv n A B Y w) : yInv n A B Y (yNx a b w) := by
  intro x hx
  rw [yNx_f, yNx_l]
  refine ⟨?_, ?_⟩
  · by_cases e : x = b
    · subst e
      rw [if_pos rfl]
      unfold mxI
      split
      · exact (h x hx).1
      · obtain ⟨o, ho, hu, hv⟩ := (h a ha).1
        exact ⟨o, ho, inU_s hA ha hx ho hE hu, hv⟩
    · rw [if_neg e]
      exact (h x hx).1
  · by_cases e : x = a
    · subst e
      rw [if_pos rfl]
      unfold mnI
      split
      · exact (h x hx).2
      · obtain ⟨o, ho, hu, hv⟩ := (h b hb).2
        exact ⟨o, ho, inU_s hB hb hx ho hE hu, hv⟩
    · rw [if_neg e]
      exact (h x hx).2
theorem yNx_mono (n a b : Nat) (w : Nat → Int32) (x : Nat) : w (2 * x) ≤ yNx a b w (2 * x) ∧ yNx a b w (2 * x + 1) ≤ w (2 * x + 1) := by
  rw [yNx_f, yNx_l]
  refine ⟨?_, ?_⟩
  · by_cases e : x = b
    · subst e; rw [if_pos rfl]; exact mx_r _ _
    · rw [if_neg e]; exact Int32.le_refl _
  · by_cases e : x = a
    · subst e; rw [if_pos rfl]; exact mn_l _ _
    · rw [if_neg e]; exact Int32.le_refl _
theorem yNx_rnd {E : Nat → Nat → Bool} {n k : Nat} {w0 w : Nat → Int32} (ha : k / n < n) (hb : k % n < n) (h : yRnd E n w0 k w) : yRnd E n w0 (k + 1) (yNx (k / n) (k % n) w) := by
  refine ⟨fun x hx => ?_, fun j hj hE => ?_⟩
  · have h1 := h.1 x hx
    have h2 := yNx_mono n (k / n) (k % n) w x
    exact ⟨Int32.le_trans h1.1 h2.1, Int32.le_trans h2.2 h1.2⟩
  · by_cases e : j = k
    · subst e
      rw [yNx_f, yNx_l, if_pos rfl, if_pos rfl]
      exact ⟨Int32.le_trans (h.1 _ ha).1 (mx_l _ _), Int32.le_trans (mn_r _ _) (h.1 _ hb).2⟩
    · have h1 := h.2 j (by omega) hE
      exact ⟨Int32.le_trans h1.1 (yNx_mono n _ _ w _).1, Int32.le_trans (yNx_mono n _ _ w _).2 h1.2⟩
theorem yRnd_skip {E : Nat → Nat → Bool} {n k : Nat} {w0 w : Nat → Int32} (hE : ¬ E (k / n) (k % n) = true) (h : yRnd E n w0 k w) : yRnd E n w0 (k + 1) w := by
  refine ⟨h.1, fun j hj hj2 => ?_⟩
  by_cases e : j = k
  · subst e; exact absurd hj2 hE
  · exact h.2 j (by omega) hj2
theorem pair_ix {n a b : Nat} (ha : a < n) (hb : b < n) : a * n + b < n * n ∧ (a * n + b) / n = a ∧ (a * n + b) % n = b := by
  have hn : 0 < n := by omega
  refine ⟨?_, ?_, ?_⟩
  · have : (a + 1) * n ≤ n * n := Nat.mul_le_mul_right n (by omega)
    rw [Nat.add_mul] at this
    omega
  · rw [Nat.add_comm, Nat.add_mul_div_right _ _ hn, Nat.div_eq_of_lt hb, Nat.zero_add]
  · rw [Nat.add_comm, Nat.add_mul_mod_self_right, Nat.mod_eq_of_lt hb]
theorem yUp_s {E : Nat → Nat → Bool} {n r : Nat} {Y w0 w : Nat → Int32} (h0 : yUp E n r Y w0) (h : yRnd E n w0 (n * n) w) : yUp E n (r + 1) Y w := by
  intro x o hx ho
  refine ⟨fun hp => ?_, fun hp => ?_⟩
  · rcases pB_front r o x ho hx hp with z | ⟨a, ha, h1, h2⟩
    · exact Int32.le_trans ((h0 x o hx ho).1 z) (h.1 x hx).1
    · obtain ⟨i1, i2, i3⟩ := pair_ix ha hx
      have := h.2 (a * n + x) i1 (by rw [i2, i3]; exact h1)
      rw [i2, i3] at this
      exact Int32.le_trans ((h0 a o ha ho).1 h2) this.1
  · rcases pB_front r o x ho hx hp with z | ⟨a, ha, h1, h2⟩
    · exact Int32.le_trans (h.1 x hx).2 ((h0 x o hx ho).2 z)
    · obtain ⟨i1, i2, i3⟩ := pair_ix hx ha
      have := h.2 (x * n + a) i1 (by rw [i2, i3]; exact h1)
      rw [i2, i3] at this
      exact Int32.le_trans this.2 ((h0 a o ha ho).2 h2)
theorem iF_ge {Y : Nat → Int32} {o : Nat} (h : Y o = -1 ∨ (1450 ≤ Y o ∧ Y o ≤ 1999)) : 1450 ≤ iF Y o := by
  unfold iF
  by_cases e : Y o = -1
  · rw [if_pos e]; exact Int32.le_refl _
  · rw [if_neg e]
    rcases h with h | h
    · exact absurd h e
    · exact h.1
theorem iL_le {Y : Nat → Int32} {o : Nat} (h : Y o = -1 ∨ (1450 ≤ Y o ∧ Y o ≤ 1999)) : iL Y o ≤ 1999 := by
  unfold iL
  by_cases e : Y o = -1
  · rw [if_pos e]; exact Int32.le_refl _
  · rw [if_neg e]
    rcases h with h | h
    · exact absurd h e
    · exact h.2
/-- the years laid: as the class's -/
def yrG (E : Nat → Nat → Bool) (n : Nat) (Y w : Nat → Int32) : Prop := ∀ b, b < n → isFst Y (fun z => z = b ∨ (clo E n b).testBit z = true) n (w (2 * b)) ∧ isLst Y (fun z => z = b ∨ (clo (tr E) n b).testBit z = true) n (w (2 * b + 1))
theorem yr_end {E : Nat → Nat → Bool} {n : Nat} {M Y w : Nat → Int32} (hY : yrOk n M Y) (h1 : yInv n (clo E n) (clo (tr E) n) Y w) (h2 : yUp E n n Y w) : yrG E n Y w := by
  intro b hb
  obtain ⟨⟨o, ho, hu, hv⟩, ⟨q, hq, hu2, hv2⟩⟩ := h1 b hb
  refine ⟨⟨?_, fun z hz hzu hzy => ?_, ?_⟩, ⟨?_, fun z hz hzu hzy => ?_, ?_⟩⟩
  · rw [hv]; exact iF_ge (hY o ho).2
  · have := (h2 b z hb hz).1 (pB_all (clo_cl E n) hb hz hzu)
    rw [iF, if_neg hzy] at this
    exact this
  · by_cases e : Y o = -1
    · left; rw [hv, iF, if_pos e]
    · right; exact ⟨o, ho, hu, e, by rw [hv, iF, if_neg e]⟩
  · rw [hv2]; exact iL_le (hY q hq).2
  · have := (h2 b z hb hz).2 (pB_all (clo_cl (tr E) n) hb hz hzu)
    rw [iL, if_neg hzy] at this
    exact this
  · by_cases e : Y q = -1
    · left; rw [hv2, iL, if_pos e]
    · right; exact ⟨q, hq, hu2, e, by rw [hv2, iL, if_neg e]⟩
theorem of_m3 {s P L M Y : Nat → Int32} {n b : Nat} (hn : n ≤ 10) (h : rw4 s n P L M Y) (hb : b < n) : f_X5_of (nI b) 3 41 s = some (Y b) := by
  have := f_of_e (s := s) (n := 41) (a := b) (w := 3) (by omega) (by decide)
  rw [(h.2 b hb).2.2.2] at this
  exact this
theorem of_m0 {s P L M Y : Nat → Int32} {n b : Nat} (hn : n ≤ 10) (h : rw4 s n P L M Y) (hb : b < n) : f_X5_of (nI b) 0 41 s = some (P b) := by
  have := f_of_e (s := s) (n := 41) (a := b) (w := 0) (by omega) (by decide)
  rw [Nat.add_zero, (h.2 b hb).1] at this
  exact this
theorem of_m1 {s P L M Y : Nat → Int32} {n b : Nat} (hn : n ≤ 10) (h : rw4 s n P L M Y) (hb : b < n) : f_X5_of (nI b) 1 41 s = some (L b) := by
  have := f_of_e (s := s) (n := 41) (a := b) (w := 1) (by omega) (by decide)
  rw [(h.2 b hb).2.1] at this
  exact this
theorem of_m2 {s P L M Y : Nat → Int32} {n b : Nat} (hn : n ≤ 10) (h : rw4 s n P L M Y) (hb : b < n) : f_X5_of (nI b) 2 41 s = some (M b) := by
  have := f_of_e (s := s) (n := 41) (a := b) (w := 2) (by omega) (by decide)
  rw [(h.2 b hb).2.2.1] at this
  exact this
theorem nI_2m (b : Nat) : (2 : Int32) * nI b = nI (2 * b) := by rw [← pk_mul]; rfl
theorem nI_2m1 (b : Nat) : (2 : Int32) * nI b + 1 = nI (2 * b + 1) := by rw [nI_2m, nI_1]
theorem dates_e {s P L M Y f1 f2 : Nat → Int32} {n : Nat} (hn : n ≤ 10) (hY : yrOk n M Y) (h : rw4 s n P L M Y) : Ok (f_X5_dates f1 f2 41 s) (fun o => (∀ b, b < n → o.1 b = nI (bfM (eB P L M Y) n b)) ∧ yrG (eB P L M Y) n Y o.2) := by
  unfold f_X5_dates
  refine ok_bd _ (laysAhead_e hn h) ?_
  intro o2 ho2
  dsimp only [u1]
  refine ok_wl (fun i s => s.1 = nI i ∧ ∀ b, b < i → s.2 (2 * b) = iF Y b ∧ s.2 (2 * b + 1) = iL Y b) (fun r => ∀ b, b < n → r (2 * b) = iF Y b ∧ r (2 * b + 1) = iL Y b) n (by omega) ⟨rfl, fun b h => by omega⟩ ?_ ?_ ?_
  · rintro i ⟨l, w⟩ hi ⟨hl, hw⟩
    dsimp only at hl hw
    subst hl
    dsimp only [u2]
    refine rd40 h (ok_nle hi (by omega) (ok_be (of_m3 hn h hi) ?_))
    dsimp only [u1, jn]
    have hfin : ∀ v1 v2, v1 = iF Y i → v2 = iL Y i → Ok ((wrA w 20 ((2 : Int32) * nI i) v1).bind fun g10 => (wrA g10 20 (((2 : Int32) * nI i) + 1) v2).bind fun g13 => some (Sum.inl ((nI i + 1), g13) : (Int32 × (Nat → Int32)) ⊕ (Nat → Int32))) (Sum.elim (fun s => s.1 = nI (i + 1) ∧ ∀ b, b < i + 1 → s.2 (2 * b) = iF Y b ∧ s.2 (2 * b + 1) = iL Y b) (fun r => ∀ b, b < n → r (2 * b) = iF Y b ∧ r (2 * b + 1) = iL Y b)) := by
      rintro v1 v2 rfl rfl
      refine ok_wr (2 * i) (nI_2m i) (by omega) (by decide) (ok_wr (2 * i + 1) (nI_2m1 i) (by omega) (by decide) (ok_s ⟨nI_1 i, fun b hb => ?_⟩))
      dsimp only
      by_cases e : b = i
      · subst e
        rw [pk_us, pk_un (by omega), pk_us]
        exact ⟨rfl, rfl⟩
      · rw [pk_un (by omega), pk_un (by omega), pk_un (by omega), pk_un (by omega)]
        exact hw b (by omega)
    by_cases e : Y i = -1
    · rw [if_pos e]
      simp only [if_pos e]
      exact hfin _ _ (by rw [iF, if_pos e]) (by rw [iL, if_pos e])
    · rw [if_neg e]
      simp only [if_neg e]
      exact hfin _ _ (by rw [iF, if_neg e]) (by rw [iL, if_neg e])
  · rintro ⟨l, w⟩ ⟨hl, hw⟩
    dsimp only at hl hw
    subst hl
    dsimp only [u2]
    exact rd40 h (ok_yle (Nat.le_refl _) (by omega) (ok_s hw))
  · intro w5 hw5
    dsimp only [u1]
    have hA := clo_cl (eB P L M Y) n
    have hB := clo_cl (tr (eB P L M Y)) n
    refine ok_wl (fun r s => s.1 = nI r ∧ yInv n (clo (eB P L M Y) n) (clo (tr (eB P L M Y)) n) Y s.2 ∧ yUp (eB P L M Y) n r Y s.2) (fun r => yrG (eB P L M Y) n Y r) n (by omega) ⟨rfl, fun x hx => ⟨⟨x, hx, Or.inl rfl, (hw5 x hx).1⟩, ⟨x, hx, Or.inl rfl, (hw5 x hx).2⟩⟩, fun x o hx ho => ⟨fun hp => ?_, fun hp => ?_⟩⟩ ?_ ?_ (fun r hr => ok_s ⟨ho2, hr⟩)
    · rw [pB, decide_eq_true_iff] at hp
      subst hp
      show iF Y o ≤ w5 (2 * o)
      rw [(hw5 o ho).1]; exact Int32.le_refl _
    · rw [pB, decide_eq_true_iff] at hp
      subst hp
      show w5 (2 * o + 1) ≤ iL Y o
      rw [(hw5 o ho).2]; exact Int32.le_refl _
    · rintro r ⟨l, w⟩ hr ⟨hl, hI, hU⟩
      dsimp only at hl hI hU
      subst hl
      dsimp only [u2]
      refine rd40 h (ok_nle hr (by omega) ?_)
      have hnn : n * n < 9999 := Nat.lt_of_le_of_lt (Nat.mul_le_mul hn hn) (by decide)
      have hnn2 : n * n < 2 ^ 31 := Nat.lt_trans hnn (by decide)
      refine ok_wl (fun k s => s.1 = nI k ∧ yInv n (clo (eB P L M Y) n) (clo (tr (eB P L M Y)) n) Y s.2 ∧ yRnd (eB P L M Y) n w k s.2) (fun v => yInv n (clo (eB P L M Y) n) (clo (tr (eB P L M Y)) n) Y v ∧ yUp (eB P L M Y) n (r + 1) Y v) (n * n) hnn ⟨rfl, hI, fun x _ => ⟨Int32.le_refl _, Int32.le_refl _⟩, fun j hj => by omega⟩ ?_ ?_ ?_
      · rintro k ⟨l, v⟩ hk ⟨hl, hI, hR⟩
        dsimp only at hl hI hR
        subst hl
        refine ok_u2 ?_
        have hn0 : 0 < n := by omega
        have hb : k % n < n := Nat.mod_lt _ hn0
        have ha : k / n < n := Nat.div_lt_of_lt_mul hk
        have ed : nI k / nI n = nI (k / n) := pk_div (Nat.lt_trans hk hnn2) hn0 (by omega)
        have em : nI k - nI k / nI n * nI n = nI (k % n) := pk_rem (Nat.lt_trans hk hnn2) hn0 (by omega)
        refine rd40 h (rd40 h ?_)
        rw [pk_mul]
        refine ok_nle hk hnn2 (rd40 h (ok_gZ (nI_ne0 hn0 (by omega)) (rd40 h (ok_gZ (nI_ne0 hn0 (by omega)) ?_))))
        rw [em, ed]
        refine ok_rd (k % n) rfl (by omega) (by decide) ?_
        rw [ho2 _ hb]
        dsimp only [jn, u1]
        by_cases q : eB P L M Y (k / n) (k % n) = true
        · refine ok_t (iN_t (m10 hn (bfM_lt _ _ _)) (by omega) (by rw [bfM_bit]; simp [ha, q])) ?_
          refine ok_rd (2 * (k / n)) (nI_2m _) (by omega) (by decide) (ok_rd (2 * (k % n)) (nI_2m _) (by omega) (by decide) ?_)
          have hfin : ∀ M', M' = mxI (v (2 * (k / n))) (v (2 * (k % n))) → Ok ((wrA v 20 ((2 : Int32) * nI (k % n)) M').bind fun g32 => (rdA g32 20 ((2 : Int32) * nI (k % n) + 1)).bind fun v33 => (rdA g32 20 ((2 : Int32) * nI (k / n) + 1)).bind fun v34 => if v34 ≤ v33 then (rdA g32 20 ((2 : Int32) * nI (k / n) + 1)).bind fun v38 => (wrA g32 20 ((2 : Int32) * nI (k / n) + 1) v38).bind fun g37 => some (Sum.inl (nI k + 1, g37) : (Int32 × (Nat → Int32)) ⊕ (Nat → Int32)) else (rdA g32 20 ((2 : Int32) * nI (k % n) + 1)).bind fun v39 => (wrA g32 20 ((2 : Int32) * nI (k / n) + 1) v39).bind fun g37 => some (Sum.inl (nI k + 1, g37)))
              (Sum.elim (fun s => s.1 = nI (k + 1) ∧ yInv n (clo (eB P L M Y) n) (clo (tr (eB P L M Y)) n) Y s.2 ∧ yRnd (eB P L M Y) n w (k + 1) s.2) (fun v => yInv n (clo (eB P L M Y) n) (clo (tr (eB P L M Y)) n) Y v ∧ yUp (eB P L M Y) n (r + 1) Y v)) := by
            rintro M' rfl
            have hend : ∀ g, g = yNx (k / n) (k % n) v → Ok (some (Sum.inl (nI k + 1, g) : (Int32 × (Nat → Int32)) ⊕ (Nat → Int32))) (Sum.elim (fun s => s.1 = nI (k + 1) ∧ yInv n (clo (eB P L M Y) n) (clo (tr (eB P L M Y)) n) Y s.2 ∧ yRnd (eB P L M Y) n w (k + 1) s.2) (fun v => yInv n (clo (eB P L M Y) n) (clo (tr (eB P L M Y)) n) Y v ∧ yUp (eB P L M Y) n (r + 1) Y v)) := by
              rintro g rfl
              exact ok_s ⟨nI_1 k, yNx_inv hA hB ha hb q hI, yNx_rnd ha hb hR⟩
            refine ok_wr (2 * (k % n)) (nI_2m _) (by omega) (by decide) (ok_rd (2 * (k % n) + 1) (nI_2m1 _) (by omega) (by decide) (ok_rd (2 * (k / n) + 1) (nI_2m1 _) (by omega) (by decide) ?_))
            rw [pk_un (by omega), pk_un (by omega)]
            refine ok_if (fun c => ?_) (fun c => ?_)
            · refine ok_rd (2 * (k / n) + 1) (nI_2m1 _) (by omega) (by decide) (ok_wr (2 * (k / n) + 1) (nI_2m1 _) (by omega) (by decide) (hend _ ?_))
              rw [pk_un (by omega), yNx, mnI, if_pos c]
            · refine ok_rd (2 * (k % n) + 1) (nI_2m1 _) (by omega) (by decide) (ok_wr (2 * (k / n) + 1) (nI_2m1 _) (by omega) (by decide) (hend _ ?_))
              rw [pk_un (by omega), yNx, mnI, if_neg c]
          refine ok_if (fun c => ?_) (fun c => ?_)
          · exact ok_rd (2 * (k % n)) (nI_2m _) (by omega) (by decide) (hfin _ (by rw [mxI, if_pos c]))
          · exact ok_rd (2 * (k / n)) (nI_2m _) (by omega) (by decide) (hfin _ (by rw [mxI, if_neg c]))
        · refine ok_f (by rw [iN_f (m10 hn (bfM_lt _ _ _)) (by omega) (by rw [bfM_bit]; simp; intro _; simpa using q)]; decide) (ok_s ⟨nI_1 k, hI, yRnd_skip q hR⟩)
      · rintro ⟨l, v⟩ ⟨hl, hI, hR⟩
        dsimp only at hl hI hR
        subst hl
        refine ok_u2 (rd40 h (rd40 h ?_))
        rw [pk_mul]
        exact ok_yle (Nat.le_refl _) hnn2 (ok_s ⟨hI, yUp_s hU hR⟩)
      · rintro v ⟨hI, hU⟩
        exact ok_s ⟨nI_1 r, hI, hU⟩
    · rintro ⟨l, w⟩ ⟨hl, hI, hU⟩
      dsimp only at hl hI hU
      subst hl
      dsimp only [u2]
      exact rd40 h (ok_yle (Nat.le_refl _) (by omega) (ok_s (yr_end hY hI hU)))
theorem isDatedM_e {b : Nat} {w : Nat → Int32} (hb : b < 10) : f_X5_isDated (nI b) w = some (if w (2 * b) = w (2 * b + 1) then 1 else 0) := by
  unfold f_X5_isDated
  rw [nI_2m1, nI_2m, rdA_nI (by omega) (by decide), rdA_nI (by omega) (by decide)]
  simp only [Option.bind_some, jn, u1, gB]
  by_cases h : w (2 * b) = w (2 * b + 1) <;> simp [h]
theorem dated_e {s P L M Y f1 f2 : Nat → Int32} {n : Nat} (hn : n ≤ 10) (hY : yrOk n M Y) (h : rw4 s n P L M Y) : Ok (f_X5_dated f1 f2 41 s) (fun o => o.1 = nI (dtd n (fun b => o.2.2 (2 * b)) (fun b => o.2.2 (2 * b + 1))) ∧ (∀ b, b < n → o.2.1 b = nI (bfM (eB P L M Y) n b)) ∧ yrG (eB P L M Y) n Y o.2.2) := by
  unfold f_X5_dated
  refine ok_bd _ (dates_e hn hY h) ?_
  rintro ⟨o2, o3⟩ ho
  refine ok_wl (fun i s => s.2 = nI i ∧ s.1 = nI (dtd i (fun b => o3 (2 * b)) (fun b => o3 (2 * b + 1)))) (fun r => r = nI (dtd n (fun b => o3 (2 * b)) (fun b => o3 (2 * b + 1)))) n (by omega) ⟨rfl, rfl⟩ ?_ ?_ (fun r hr => ok_s ⟨hr, ho⟩)
  · rintro i ⟨s', l⟩ hi ⟨hl, hs⟩
    dsimp only at hl hs
    subst hl hs
    dsimp only [u2]
    refine rd40 h (ok_nle hi (by omega) (ok_be (isDatedM_e (by omega)) ?_))
    dsimp only [u1, jn]
    by_cases q : o3 (2 * i) = o3 (2 * i + 1)
    · rw [if_pos q]
      refine ok_f (by decide) (ok_s ⟨nI_1 i, ?_⟩)
      show _ = nI (dtd i _ _ + (if o3 (2 * i) = o3 (2 * i + 1) then 1 else 0))
      rw [if_pos q]
      exact nI_1 _
    · rw [if_neg q]
      refine ok_t rfl (ok_s ⟨nI_1 i, ?_⟩)
      show _ = nI (dtd i _ _ + (if o3 (2 * i) = o3 (2 * i + 1) then 1 else 0))
      rw [if_neg q, iN_0, nI_add]
  · rintro ⟨s', l⟩ ⟨hl, hs⟩
    dsimp only at hl hs
    subst hl hs
    dsimp only [u2]
    exact rd40 h (ok_yle (Nat.le_refl _) (by omega) (ok_s rfl))
