/-! what changes books, on both sides -/
theorem rw_set0 {s P L M Y : Nat → Int32} {n b : Nat} {v : Int32} (hn : n ≤ 10) (hb : b < n) (h : rw4 s n P L M Y) : rw4 (upd s (4 * b) v) n (upd P b v) L M Y := by
  refine ⟨by rw [pk_un (by omega)]; exact h.1, fun z hz => ?_⟩
  have h2 := h.2 z hz
  refine ⟨?_, ?_, ?_, ?_⟩
  · by_cases e : z = b
    · subst e; rw [pk_us, pk_us]
    · rw [pk_un (by omega), pk_un e]; exact h2.1
  · rw [pk_un (by omega)]; exact h2.2.1
  · rw [pk_un (by omega)]; exact h2.2.2.1
  · rw [pk_un (by omega)]; exact h2.2.2.2
theorem rw_set1 {s P L M Y : Nat → Int32} {n b : Nat} {v : Int32} (hn : n ≤ 10) (hb : b < n) (h : rw4 s n P L M Y) : rw4 (upd s (4 * b + 1) v) n P (upd L b v) M Y := by
  refine ⟨by rw [pk_un (by omega)]; exact h.1, fun z hz => ?_⟩
  have h2 := h.2 z hz
  refine ⟨?_, ?_, ?_, ?_⟩
  · rw [pk_un (by omega)]; exact h2.1
  · by_cases e : z = b
    · subst e; rw [pk_us, pk_us]
    · rw [pk_un (by omega), pk_un e]; exact h2.2.1
  · rw [pk_un (by omega)]; exact h2.2.2.1
  · rw [pk_un (by omega)]; exact h2.2.2.2
theorem rw_set2 {s P L M Y : Nat → Int32} {n b : Nat} {v : Int32} (hn : n ≤ 10) (hb : b < n) (h : rw4 s n P L M Y) : rw4 (upd s (4 * b + 2) v) n P L (upd M b v) Y := by
  refine ⟨by rw [pk_un (by omega)]; exact h.1, fun z hz => ?_⟩
  have h2 := h.2 z hz
  refine ⟨?_, ?_, ?_, ?_⟩
  · rw [pk_un (by omega)]; exact h2.1
  · rw [pk_un (by omega)]; exact h2.2.1
  · by_cases e : z = b
    · subst e; rw [pk_us, pk_us]
    · rw [pk_un (by omega), pk_un e]; exact h2.2.2.1
  · rw [pk_un (by omega)]; exact h2.2.2.2
theorem rw_set3 {s P L M Y : Nat → Int32} {n b : Nat} {v : Int32} (hn : n ≤ 10) (hb : b < n) (h : rw4 s n P L M Y) : rw4 (upd s (4 * b + 3) v) n P L M (upd Y b v) := by
  refine ⟨by rw [pk_un (by omega)]; exact h.1, fun z hz => ?_⟩
  have h2 := h.2 z hz
  refine ⟨?_, ?_, ?_, ?_⟩
  · rw [pk_un (by omega)]; exact h2.1
  · rw [pk_un (by omega)]; exact h2.2.1
  · rw [pk_un (by omega)]; exact h2.2.2.1
  · by_cases e : z = b
    · subst e; rw [pk_us, pk_us]
    · rw [pk_un (by omega), pk_un e]; exact h2.2.2.2
theorem lm_upd {n b : Nat} {L : Nat → Int32} {v : Int32} (h : lmOk n L) (hv : 0 ≤ v ∧ v ≤ 4095) : lmOk n (upd L b v) := fun z hz => by
  by_cases e : z = b
  · subst e; rw [pk_us]; exact hv
  · rw [pk_un e]; exact h z hz
theorem yrN_upd {n b : Nat} {M Y : Nat → Int32} {y : Int32} (hY : yrOk n M Y) (h : y = -1 ∨ (1450 ≤ y ∧ y ≤ 1999)) : yrOk n M (upd Y b y) := fun z hz => by
  refine ⟨(hY z hz).1, ?_⟩
  by_cases e : z = b
  · subst e; rw [pk_us]; exact h
  · rw [pk_un e]; exact (hY z hz).2
theorem mdN_upd {n b : Nat} {M Y : Nat → Int32} {m : Int32} (hY : yrOk n M Y) (h : -1 ≤ m) : yrOk n (upd M b m) Y := fun z hz => by
  refine ⟨?_, (hY z hz).2⟩
  by_cases e : z = b
  · subst e; rw [pk_us]; exact h
  · rw [pk_un e]; exact (hY z hz).1
def dl (b : Nat) (f : Nat → Int32) (x : Nat) : Int32 := if x < b then f x else f (x + 1)
def dlp (b i : Nat) (f : Nat → Int32) (x : Nat) : Int32 := if b ≤ x ∧ x < b + i then f (x + 1) else f x
theorem dlp_s (b i : Nat) (f w : Nat → Int32) (hw : ∀ x, w x = dlp b i f x) : ∀ x, upd w (b + i) (w (b + i + 1)) x = dlp b (i + 1) f x := fun x => by
  by_cases e : x = b + i
  · subst e
    rw [pk_us, hw, dlp, dlp, if_neg (by omega), if_pos (by omega)]
  · rw [pk_un e, hw, dlp, dlp]
    by_cases q : b ≤ x ∧ x < b + i
    · rw [if_pos q, if_pos (by omega)]
    · rw [if_neg q, if_neg (by omega)]
theorem dlp_e {b n : Nat} (hb : b < n) (f : Nat → Int32) (x : Nat) (hx : x < n - 1) : dlp b (n - 1 - b) f x = dl b f x := by
  unfold dlp dl
  by_cases q : x < b
  · rw [if_neg (by omega), if_pos q]
  · rw [if_pos (by omega), if_neg q]
theorem remove_e {b n : Nat} {P L M Y : Nat → Int32} (hn : n ≤ 10) (hb : b < n) : Ok (f_X2_remove (nI b) (nI n) P L M Y) (fun o => o.1 = nI (n - 1) ∧ sh4 (n - 1) (dl b P) (dl b L) (dl b M) (dl b Y) o.2.1 o.2.2.1 o.2.2.2.1 o.2.2.2.2) := by
  unfold f_X2_remove
  refine ok_wl (fun i s => s.1 = nI (b + i) ∧ (∀ x, s.2.1 x = dlp b i P x) ∧ (∀ x, s.2.2.1 x = dlp b i L x) ∧ (∀ x, s.2.2.2.1 x = dlp b i M x) ∧ ∀ x, s.2.2.2.2 x = dlp b i Y x)
    (fun r => (∀ x, r.1 x = dlp b (n - 1 - b) P x) ∧ (∀ x, r.2.1 x = dlp b (n - 1 - b) L x) ∧ (∀ x, r.2.2.1 x = dlp b (n - 1 - b) M x) ∧ ∀ x, r.2.2.2 x = dlp b (n - 1 - b) Y x) (n - 1 - b) (by omega) ⟨rfl, ?_, ?_, ?_, ?_⟩ ?_ ?_ ?_
  · intro x; rw [dlp, if_neg (by omega)]
  · intro x; rw [dlp, if_neg (by omega)]
  · intro x; rw [dlp, if_neg (by omega)]
  · intro x; rw [dlp, if_neg (by omega)]
  · rintro i ⟨l, w2, w3, w4, w5⟩ hi ⟨hl, a1, a2, a3, a4⟩
    dsimp only at hl a1 a2 a3 a4
    subst hl
    refine ok_u5 ?_
    rw [nI_1]
    refine ok_nle (by omega) (by omega) (ok_rd (b + i + 1) rfl (by omega) (by decide) (ok_wr (b + i) rfl (by omega) (by decide) (ok_rd (b + i + 1) rfl (by omega) (by decide) (ok_wr (b + i) rfl (by omega) (by decide) (ok_rd (b + i + 1) rfl (by omega) (by decide) (ok_wr (b + i) rfl (by omega) (by decide) (ok_rd (b + i + 1) rfl (by omega) (by decide) (ok_wr (b + i) rfl (by omega) (by decide) (ok_s ⟨rfl, dlp_s b i P w2 a1, dlp_s b i L w3 a2, dlp_s b i M w4 a3, dlp_s b i Y w5 a4⟩)))))))))
  · rintro ⟨l, w2, w3, w4, w5⟩ ⟨hl, ha⟩
    dsimp only at hl ha
    subst hl
    refine ok_u5 ?_
    rw [nI_1]
    exact ok_yle (by omega) (by omega) (ok_s ha)
  · rintro ⟨w6, w7, w8, w9⟩ ⟨a1, a2, a3, a4⟩
    refine ok_u4 (ok_s ⟨?_, fun x hx => ⟨?_, ?_, ?_, ?_⟩⟩)
    · dsimp only
      rw [iN_1, pk_sub (by omega)]
    · exact (a1 x).trans (dlp_e hb P x hx)
    · exact (a2 x).trans (dlp_e hb L x hx)
    · exact (a3 x).trans (dlp_e hb M x hx)
    · exact (a4 x).trans (dlp_e hb Y x hx)
theorem rw_take {b n : Nat} {P L M Y s w : Nat → Int32} (hn : n ≤ 10) (hb : b < n) (h : rw4 s n P L M Y) (h40 : w 40 = nI (n - 1)) (h1 : ∀ k, 4 * b ≤ k → k < 4 * (n - 1) → w k = s (k + 4)) (h2 : ∀ k, k < 4 * b → w k = s k) : rw4 w (n - 1) (dl b P) (dl b L) (dl b M) (dl b Y) := by
  refine ⟨h40, fun x hx => ?_⟩
  unfold dl
  by_cases q : x < b
  · rw [if_pos q, if_pos q, if_pos q, if_pos q, h2 _ (by omega), h2 _ (by omega), h2 _ (by omega), h2 _ (by omega)]
    exact h.2 x (by omega)
  · rw [if_neg q, if_neg q, if_neg q, if_neg q, h1 _ (by omega) (by omega), h1 _ (by omega) (by omega), h1 _ (by omega) (by omega), h1 _ (by omega) (by omega)]
    have := h.2 (x + 1) (by omega)
    rw [show 4 * (x + 1) = 4 * x + 4 by omega] at this
    refine ⟨this.1, ?_, ?_, ?_⟩
    · rw [show 4 * x + 1 + 4 = 4 * x + 4 + 1 by omega]; exact this.2.1
    · rw [show 4 * x + 2 + 4 = 4 * x + 4 + 2 by omega]; exact this.2.2.1
    · rw [show 4 * x + 3 + 4 = 4 * x + 4 + 3 by omega]; exact this.2.2.2
theorem yr_dl {b n : Nat} {M Y : Nat → Int32} (hb : b < n) (h : yrOk n M Y) : yrOk (n - 1) (dl b M) (dl b Y) := fun x hx => by
  unfold dl
  by_cases q : x < b
  · rw [if_pos q, if_pos q]; exact h x (by omega)
  · rw [if_neg q, if_neg q]; exact h (x + 1) (by omega)
theorem lm_dl {b n : Nat} {L : Nat → Int32} (hb : b < n) (h : lmOk n L) : lmOk (n - 1) (dl b L) := fun x hx => by
  unfold dl
  by_cases q : x < b
  · rw [if_pos q]; exact h x (by omega)
  · rw [if_neg q]; exact h (x + 1) (by omega)
section Face2
variable {sN old hs kept c any rs th : Int32} {P L M Y hN now past bef beh fy ly aB aH tab : Nat → Int32} {hP hL hM hY : Nat → Nat → Int32} {out : Nat → Int64}
theorem t_take {p1 : Int32} (h : stR sN old hs kept P L M Y hN hP hL hM hY now past c any rs bef beh fy ly aB aH tab) :
    Ok (f_L_take p1 old sN P L M Y hs hN hP hL hM hY out) (fun o => Ok (f_X5_take p1 kept th now past) (fun o' => anR o.1 o.2.2.2.2.2.2.2.2.2.2.2.2.2 o'.1 o'.2.2.1 ∧
      stR o.2.2.1 o.2.1 o.2.2.2.2.2.2.2.1 o'.2.1 o.2.2.2.1 o.2.2.2.2.1 o.2.2.2.2.2.1 o.2.2.2.2.2.2.1 o.2.2.2.2.2.2.2.2.1 o.2.2.2.2.2.2.2.2.2.1 o.2.2.2.2.2.2.2.2.2.2.1 o.2.2.2.2.2.2.2.2.2.2.2.1 o.2.2.2.2.2.2.2.2.2.2.2.2.1 o'.2.2.2.1 o'.2.2.2.2 c any rs bef beh fy ly aB aH tab)) := by
  obtain ⟨n, g, rfl, rfl, rfl, h1, h2, h3⟩ := h
  have hst : stR (nI n) old (nI g) (nI g) P L M Y hN hP hL hM hY now past c any rs bef beh fy ly aB aH tab := ⟨n, g, rfl, rfl, rfl, h1, h2, h3⟩
  have hn := h1.1
  unfold f_L_take f_X4_take f_X5_take
  by_cases c1n : ¬ (0 ≤ p1 ∧ p1 < nI n)
  · refine ok_bd (fun o => o = (Sum.inr "java/lang/IndexOutOfBoundsException", old, nI n, P, L, M, Y, nI g, hN, hP, hL, hM, hY)) (ok_c0 (isBook_e p1 n) c1n (ok_t rfl (ok_s rfl))) ?_
    rintro _ rfl
    exact ok_u13 (ok_t rfl (ok_s (ok_c0 (mBook_e p1 hn h1.2.2.2) c1n (ok_t rfl (ok_fails (ok_s ⟨an_k n10, hst⟩))))))
  have c1 := Decidable.not_not.mp c1n
  obtain ⟨b, hb, rfl⟩ := bk_of hn c1
  refine ok_bd (fun o => ∃ P' L' M' Y' p2' p3' p4' p5' p6' p7' : _, o = (Sum.inl (nI (n - 1)), 1, nI (n - 1), P', L', M', Y', p2', p3', p4', p5', p6', p7') ∧ sh4 (n - 1) (dl b P) (dl b L) (dl b M) (dl b Y) P' L' M' Y' ∧ Ok (f_X5_saves (nI g) now past) (fun o' => ∃ h', p2' = nI h' ∧ o'.1 = nI h' ∧ hiR h' p3' p4' p5' p6' p7' o'.2)) (ok_c1 (isBook_e (nI b) n) c1 (ok_f (by decide) (ok_bd _ (save2_e h1 h2) ?_))) ?_
  · rintro ⟨o7, o8, o9, o10, o11, o12, o13⟩ ⟨e1, hsv⟩
    dsimp only at e1
    subst e1
    refine ok_u7 (ok_bd _ (remove_e hn hb) ?_)
    rintro ⟨o14, o15, o16, o17, o18⟩ ⟨e1, h4⟩
    dsimp only at e1
    subst e1
    exact ok_u5 (ok_s ⟨o15, o16, o17, o18, o8, o9, o10, o11, o12, o13, rfl, h4, hsv⟩)
  · rintro _ ⟨P', L', M', Y', q2, q3, q4, q5, q6, q7, rfl, h4, hsv⟩
    refine ok_u13 (ok_wrL (ok_s (ok_c1 (mBook_e (nI b) hn h1.2.2.2) c1 (ok_f (by decide) (ok_bd _ hsv ?_)))))
    rintro ⟨k', past'⟩ ⟨h', e1, e2, h5⟩
    refine ok_u2 (rd40 h1.2.2.2 (ok_wr 40 rfl (by decide) (by decide) ?_))
    rw [nI_4, show nI n - 1 = nI (n - 1) by rw [iN_1, pk_sub (by omega)]]
    refine ok_wl (fun i s => s.1 = nI (4 * b + i) ∧ s.2 40 = nI (n - 1) ∧ (∀ k, 4 * b ≤ k → k < 4 * b + i → s.2 k = now (k + 4)) ∧ ∀ k, k ≠ 40 → (k < 4 * b ∨ 4 * b + i ≤ k) → s.2 k = now k)
      (fun w => w 40 = nI (n - 1) ∧ (∀ k, 4 * b ≤ k → k < 4 * (n - 1) → w k = now (k + 4)) ∧ ∀ k, k < 4 * b → w k = now k) (4 * (n - 1 - b)) (by omega) ⟨rfl, by dsimp only; rw [pk_us], fun k h1 h2 => by omega, fun k hk _ => by dsimp only; rw [pk_un hk]⟩ ?_ ?_ ?_
    · rintro i ⟨l, w⟩ hi ⟨hl, a1, a2, a3⟩
      dsimp only at hl a1 a2 a3
      subst hl
      refine ok_u2 (ok_rd 40 rfl (by decide) (by decide) ?_)
      rw [a1, nI_4]
      refine ok_nle (by omega) (by omega) (ok_rd (4 * b + i + 4) (nI_add _ 4) (by omega) (by decide) (ok_wr (4 * b + i) rfl (by omega) (by decide) (ok_s ⟨nI_1 _, ?_, fun k k1 k2 => ?_, fun k k1 k2 => ?_⟩)))
      · dsimp only
        rw [pk_un (by omega)]; exact a1
      · dsimp only
        by_cases e : k = 4 * b + i
        · subst e
          rw [pk_us]
          exact a3 _ (by omega) (by omega)
        · rw [pk_un e]
          exact a2 k k1 (by omega)
      · dsimp only
        rw [pk_un (by omega)]
        exact a3 k k1 (by omega)
    · rintro ⟨l, w⟩ ⟨hl, a1, a2, a3⟩
      dsimp only at hl a1 a2 a3
      subst hl
      refine ok_u2 (ok_rd 40 rfl (by decide) (by decide) ?_)
      rw [a1, nI_4]
      exact ok_yle (by omega) (by omega) (ok_s ⟨a1, fun k k1 k2 => a2 k k1 (by omega), fun k k1 => a3 k (by omega) (by omega)⟩)
    · rintro w ⟨a1, a2, a3⟩
      refine ok_u1 (ok_rd 40 rfl (by decide) (by decide) ?_)
      rw [a1]
      have h6 := rw_take hn hb h1.2.2.2 a1 a2 a3
      exact ok_s ⟨an_0 rfl, n - 1, h', rfl, e1, e2, shR_cg ⟨by omega, yr_dl hb h1.2.1, lm_dl hb h1.2.2.1, h6⟩ h4 (fun _ _ => rfl), h5, rsG_1⟩
def ckV (v l cr : Int32) : Int32 := if cr = 0 then v &&& (((1 : Int32) <<< (l &&& 31)) ^^^ (-1)) else v ||| ((1 : Int32) <<< (l &&& 31))
theorem show_e {i : Nat} {l cr : Int32} {w : Nat → Int32} (hi : i < 10) : f_X2_show (nI i) l cr w = some (upd w i (ckV (w i) l cr)) := by
  have key : Ok (f_X2_show (nI i) l cr w) (fun r => r = upd w i (ckV (w i) l cr)) := by
    unfold f_X2_show ckV
    refine ok_jd (ok_if (fun q => ok_rd i rfl hi (by decide) (ok_u1 (ok_wr i rfl hi (by decide) (ok_s ?_)))) (fun q => ok_rd i rfl hi (by decide) (ok_u1 (ok_wr i rfl hi (by decide) (ok_s ?_)))))
    · rw [if_pos q]
    · rw [if_neg q]
  obtain ⟨r, h1, h2⟩ := key
  rw [h1, h2]
theorem ck_rg {v l cr : Int32} (hv : 0 ≤ v ∧ v ≤ 4095) (hl : 0 ≤ l ∧ l ≤ 11) : 0 ≤ ckV v l cr ∧ ckV v l cr ≤ 4095 := by
  obtain ⟨a, ha, rfl⟩ := w_cases 4095 hv.1 hv.2 (by decide)
  obtain ⟨k, hk, rfl⟩ := w_cases 11 hl.1 hl.2 (by decide)
  have hr : ∃ z, z ≤ 4095 ∧ ckV (nI a) (nI k) cr = nI z := by
    unfold ckV
    rw [iN_shl k (by omega)]
    by_cases q : cr = 0
    · rw [if_pos q, iN_m1, iN_xor, iN_and]
      exact ⟨_, Nat.le_trans Nat.and_le_left ha, rfl⟩
    · rw [if_neg q, iN_or]
      refine ⟨_, ?_, rfl⟩
      have : a ||| 2 ^ k < 2 ^ 12 := Nat.or_lt_two_pow (by omega) (Nat.pow_lt_pow_right (by decide) (by omega))
      omega
  obtain ⟨z, hz, e⟩ := hr
  rw [e]
  exact ⟨nI_pos' (by omega), nI_le (b := 4095) hz (by omega)⟩
theorem t_crack {p1 p2 p3 : Int32} (h : stR sN old hs kept P L M Y hN hP hL hM hY now past c any rs bef beh fy ly aB aH tab) :
    Ok (f_L_crack p1 p2 p3 old sN P L M Y hs hN hP hL hM hY out) (fun o => Ok (f_X5_crack p1 p2 p3 kept th now past) (fun o' => anR o.1 o.2.2.2.2.2.2.2.2.2 o'.1 o'.2.2.1 ∧ stR sN o.2.1 o.2.2.2.1 o'.2.1 P o.2.2.1 M Y o.2.2.2.2.1 o.2.2.2.2.2.1 o.2.2.2.2.2.2.1 o.2.2.2.2.2.2.2.1 o.2.2.2.2.2.2.2.2.1 o'.2.2.2.1 o'.2.2.2.2 c any rs bef beh fy ly aB aH tab)) := by
  obtain ⟨n, g, rfl, rfl, rfl, h1, h2, h3⟩ := h
  have hst : stR (nI n) old (nI g) (nI g) P L M Y hN hP hL hM hY now past c any rs bef beh fy ly aB aH tab := ⟨n, g, rfl, rfl, rfl, h1, h2, h3⟩
  have hn := h1.1
  unfold f_L_crack f_X4_crack f_X5_crack
  by_cases c1n : ¬ (0 ≤ p1 ∧ p1 < nI n)
  · refine ok_bd (fun o => o = (Sum.inr "java/lang/IndexOutOfBoundsException", old, L, nI g, hN, hP, hL, hM, hY)) (ok_c0 (isBook_e p1 n) c1n (ok_jd (ok_t rfl (ok_u0 (ok_s rfl))))) ?_
    rintro _ rfl
    exact ok_u9 (ok_t rfl (ok_s (ok_c0 (mBook_e p1 hn h1.2.2.2) c1n (ok_jd (ok_t rfl (ok_u0 (ok_fails (ok_s ⟨an_k n10, hst⟩))))))))
  have c1 := Decidable.not_not.mp c1n
  by_cases c2n : ¬ (0 ≤ p2 ∧ p2 ≤ 11)
  · refine ok_bd (fun o => o = (Sum.inr "java/lang/IndexOutOfBoundsException", old, L, nI g, hN, hP, hL, hM, hY)) (ok_c1 (isBook_e p1 n) c1 (ok_jd (ok_f (by decide) (ok_c0 (isLetter_e p2) c2n (ok_t rfl (ok_u0 (ok_s rfl))))))) ?_
    rintro _ rfl
    exact ok_u9 (ok_t rfl (ok_s (ok_c1 (mBook_e p1 hn h1.2.2.2) c1 (ok_jd (ok_f (by decide) (ok_c0 (mLetter_e p2) c2n (ok_t rfl (ok_u0 (ok_fails (ok_s ⟨an_k n10, hst⟩))))))))))
  have c2 := Decidable.not_not.mp c2n
  obtain ⟨b, hb, rfl⟩ := bk_of hn c1
  refine ok_bd (fun o => ∃ p2' p3' p4' p5' p6' p7' : _, o = (Sum.inl ((L b >>> (p2 &&& 31)) &&& 1), 1, upd L b (ckV (L b) p2 p3), p2', p3', p4', p5', p6', p7') ∧ Ok (f_X5_saves (nI g) now past) (fun o' => ∃ h', p2' = nI h' ∧ o'.1 = nI h' ∧ hiR h' p3' p4' p5' p6' p7' o'.2)) (ok_c1 (isBook_e (nI b) n) c1 (ok_jd (ok_f (by decide) (ok_c1 (isLetter_e p2) c2 (ok_f (by decide) (ok_bd _ (save2_e h1 h2) ?_)))))) ?_
  · rintro ⟨o7, o8, o9, o10, o11, o12, o13⟩ ⟨e1, hsv⟩
    dsimp only at e1
    subst e1
    exact ok_u7 (ok_rd b rfl (by omega) (by decide) (ok_be (show_e (by omega)) (ok_u1 (ok_s ⟨o8, o9, o10, o11, o12, o13, rfl, hsv⟩))))
  · rintro _ ⟨q2, q3, q4, q5, q6, q7, rfl, hsv⟩
    refine ok_u9 (ok_wrL (ok_s (ok_c1 (mBook_e (nI b) hn h1.2.2.2) c1 (ok_jd (ok_f (by decide) (ok_c1 (mLetter_e p2) c2 (ok_f (by decide) (ok_bd _ hsv ?_))))))))
    rintro ⟨k', past'⟩ ⟨h', e1, e2, h5⟩
    refine ok_u2 (ok_be (of_m1 hn h1.2.2.2 hb) (ok_u1 (ok_jd ?_)))
    have hrg := ck_rg (cr := p3) (h1.2.2.1 b hb) c2
    have hfin : ∀ v, v = ckV (L b) p2 p3 → Ok ((wrA now 41 ((4 : Int32) * nI b + 1) v).bind fun g12 => some ((L b >>> (p2 &&& 31)) &&& 1, k', (0 : Int32), g12, past')) (fun o' => anR 0 (vp_updL out 0 ((L b >>> (p2 &&& 31)) &&& 1).toInt64) o'.1 o'.2.2.1 ∧ stR (nI n) 1 q2 o'.2.1 P (upd L b (ckV (L b) p2 p3)) M Y q3 q4 q5 q6 q7 o'.2.2.2.1 o'.2.2.2.2 c any rs bef beh fy ly aB aH tab) := by
      rintro v rfl
      exact ok_wr (4 * b + 1) (nI_41 b) (by omega) (by decide) (ok_s ⟨an_0 rfl, n, h', rfl, e1, e2, ⟨hn, h1.2.1, lm_upd h1.2.2.1 hrg, rw_set1 hn hb h1.2.2.2⟩, h5, rsG_1⟩)
    refine ok_if (fun q => ok_u1 (hfin _ ?_)) (fun q => ok_u1 (hfin _ ?_))
    · rw [ckV, if_pos q]
    · rw [ckV, if_neg q]
theorem t_mould {p1 p2 : Int32} (h : stR sN old hs kept P L M Y hN hP hL hM hY now past c any rs bef beh fy ly aB aH tab) :
    Ok (f_L_mould p1 p2 old sN P L M Y hs hN hP hL hM hY out) (fun o => Ok (f_X5_mould p1 p2 kept th now past) (fun o' => anR o.1 o.2.2.2.2.2.2.2.2.2 o'.1 o'.2.2.1 ∧ stR sN o.2.1 o.2.2.2.1 o'.2.1 P L o.2.2.1 Y o.2.2.2.2.1 o.2.2.2.2.2.1 o.2.2.2.2.2.2.1 o.2.2.2.2.2.2.2.1 o.2.2.2.2.2.2.2.2.1 o'.2.2.2.1 o'.2.2.2.2 c any rs bef beh fy ly aB aH tab)) := by
  obtain ⟨n, g, rfl, rfl, rfl, h1, h2, h3⟩ := h
  have hst : stR (nI n) old (nI g) (nI g) P L M Y hN hP hL hM hY now past c any rs bef beh fy ly aB aH tab := ⟨n, g, rfl, rfl, rfl, h1, h2, h3⟩
  have hn := h1.1
  unfold f_L_mould f_X4_mould f_X5_mould
  by_cases c1n : ¬ (0 ≤ p1 ∧ p1 < nI n)
  · refine ok_bd (fun o => o = (Sum.inr "java/lang/IndexOutOfBoundsException", old, M, nI g, hN, hP, hL, hM, hY)) (ok_c0 (isBook_e p1 n) c1n (ok_t rfl (ok_s rfl))) ?_
    rintro _ rfl
    exact ok_u9 (ok_t rfl (ok_s (ok_c0 (mBook_e p1 hn h1.2.2.2) c1n (ok_t rfl (ok_fails (ok_s ⟨an_k n10, hst⟩))))))
  have c1 := Decidable.not_not.mp c1n
  by_cases c2n : ¬ (-1 ≤ p2 ∧ p2 ≤ 99)
  · refine ok_bd (fun o => o = (Sum.inr "java/lang/IllegalArgumentException", old, M, nI g, hN, hP, hL, hM, hY)) (ok_c1 (isBook_e p1 n) c1 (ok_f (by decide) (ok_c0 (isMould_e p2) c2n (ok_t rfl (ok_s rfl))))) ?_
    rintro _ rfl
    exact ok_u9 (ok_f (by decide) (ok_t rfl (ok_s (ok_c1 (mBook_e p1 hn h1.2.2.2) c1 (ok_f (by decide) (ok_c0 (mMould_e p2) c2n (ok_t rfl (ok_fails (ok_s ⟨an_k n20, hst⟩)))))))))
  have c2 := Decidable.not_not.mp c2n
  obtain ⟨b, hb, rfl⟩ := bk_of hn c1
  refine ok_bd (fun o => ∃ p2' p3' p4' p5' p6' p7' : _, o = (Sum.inl (M b), 1, upd M b p2, p2', p3', p4', p5', p6', p7') ∧ Ok (f_X5_saves (nI g) now past) (fun o' => ∃ h', p2' = nI h' ∧ o'.1 = nI h' ∧ hiR h' p3' p4' p5' p6' p7' o'.2)) (ok_c1 (isBook_e (nI b) n) c1 (ok_f (by decide) (ok_c1 (isMould_e p2) c2 (ok_f (by decide) (ok_bd _ (save2_e h1 h2) ?_))))) ?_
  · rintro ⟨o7, o8, o9, o10, o11, o12, o13⟩ ⟨e1, hsv⟩
    dsimp only at e1
    subst e1
    exact ok_u7 (ok_rd b rfl (by omega) (by decide) (ok_wr b rfl (by omega) (by decide) (ok_s ⟨o8, o9, o10, o11, o12, o13, rfl, hsv⟩)))
  · rintro _ ⟨q2, q3, q4, q5, q6, q7, rfl, hsv⟩
    refine ok_u9 (ok_wrL (ok_s (ok_c1 (mBook_e (nI b) hn h1.2.2.2) c1 (ok_f (by decide) (ok_c1 (mMould_e p2) c2 (ok_f (by decide) (ok_bd _ hsv ?_)))))))
    rintro ⟨k', past'⟩ ⟨h', e1, e2, h5⟩
    refine ok_u2 ?_
    unfold f_X5_changes
    refine ok_bd (fun o => o = (now (4 * b + 2), upd now (4 * b + 2) p2)) (ok_rd (4 * b + 2) (nI_42 b) (by omega) (by decide) (ok_wr (4 * b + 2) (nI_42 b) (by omega) (by decide) (ok_s rfl))) ?_
    rintro _ rfl
    exact ok_u2 (ok_s ⟨an_0 ((h1.2.2.2.2 b hb).2.2.1).symm, n, h', rfl, e1, e2, ⟨hn, mdN_upd h1.2.1 c2.1, h1.2.2.1, rw_set2 hn hb h1.2.2.2⟩, h5, rsG_1⟩)
theorem t_year {p1 p2 : Int32} (h : stR sN old hs kept P L M Y hN hP hL hM hY now past c any rs bef beh fy ly aB aH tab) :
    Ok (f_L_year p1 p2 old sN P L M Y hs hN hP hL hM hY out) (fun o => Ok (f_X5_year p1 p2 kept th now past) (fun o' => anR o.1 o.2.2.2.2.2.2.2.2.2 o'.1 o'.2.2.1 ∧ stR sN o.2.1 o.2.2.2.1 o'.2.1 P L M o.2.2.1 o.2.2.2.2.1 o.2.2.2.2.2.1 o.2.2.2.2.2.2.1 o.2.2.2.2.2.2.2.1 o.2.2.2.2.2.2.2.2.1 o'.2.2.2.1 o'.2.2.2.2 c any rs bef beh fy ly aB aH tab)) := by
  obtain ⟨n, g, rfl, rfl, rfl, h1, h2, h3⟩ := h
  have hst : stR (nI n) old (nI g) (nI g) P L M Y hN hP hL hM hY now past c any rs bef beh fy ly aB aH tab := ⟨n, g, rfl, rfl, rfl, h1, h2, h3⟩
  have hn := h1.1
  unfold f_L_year f_X4_year f_X5_year
  by_cases c1n : ¬ (0 ≤ p1 ∧ p1 < nI n)
  · refine ok_bd (fun o => o = (Sum.inr "java/lang/IndexOutOfBoundsException", old, Y, nI g, hN, hP, hL, hM, hY)) (ok_c0 (isBook_e p1 n) c1n (ok_t rfl (ok_s rfl))) ?_
    rintro _ rfl
    exact ok_u9 (ok_t rfl (ok_s (ok_c0 (mBook_e p1 hn h1.2.2.2) c1n (ok_t rfl (ok_fails (ok_s ⟨an_k n10, hst⟩))))))
  have c1 := Decidable.not_not.mp c1n
  by_cases c2n : ¬ (p2 = -1 ∨ (1450 ≤ p2 ∧ p2 ≤ 1999))
  · refine ok_bd (fun o => o = (Sum.inr "java/lang/IllegalArgumentException", old, Y, nI g, hN, hP, hL, hM, hY)) (ok_c1 (isBook_e p1 n) c1 (ok_f (by decide) (ok_c0 (isYearN_e p2) c2n (ok_t rfl (ok_s rfl))))) ?_
    rintro _ rfl
    exact ok_u9 (ok_f (by decide) (ok_t rfl (ok_s (ok_c1 (mBook_e p1 hn h1.2.2.2) c1 (ok_f (by decide) (ok_c0 (mYear_e p2) c2n (ok_t rfl (ok_fails (ok_s ⟨an_k n20, hst⟩)))))))))
  have c2 := Decidable.not_not.mp c2n
  obtain ⟨b, hb, rfl⟩ := bk_of hn c1
  refine ok_bd (fun o => ∃ p2' p3' p4' p5' p6' p7' : _, o = (Sum.inl (Y b), 1, upd Y b p2, p2', p3', p4', p5', p6', p7') ∧ Ok (f_X5_saves (nI g) now past) (fun o' => ∃ h', p2' = nI h' ∧ o'.1 = nI h' ∧ hiR h' p3' p4' p5' p6' p7' o'.2)) (ok_c1 (isBook_e (nI b) n) c1 (ok_f (by decide) (ok_c1 (isYearN_e p2) c2 (ok_f (by decide) (ok_bd _ (save2_e h1 h2) ?_))))) ?_
  · rintro ⟨o7, o8, o9, o10, o11, o12, o13⟩ ⟨e1, hsv⟩
    dsimp only at e1
    subst e1
    exact ok_u7 (ok_rd b rfl (by omega) (by decide) (ok_wr b rfl (by omega) (by decide) (ok_s ⟨o8, o9, o10, o11, o12, o13, rfl, hsv⟩)))
  · rintro _ ⟨q2, q3, q4, q5, q6, q7, rfl, hsv⟩
    refine ok_u9 (ok_wrL (ok_s (ok_c1 (mBook_e (nI b) hn h1.2.2.2) c1 (ok_f (by decide) (ok_c1 (mYear_e p2) c2 (ok_f (by decide) (ok_bd _ hsv ?_)))))))
    rintro ⟨k', past'⟩ ⟨h', e1, e2, h5⟩
    refine ok_u2 ?_
    unfold f_X5_changes
    refine ok_bd (fun o => o = (now (4 * b + 3), upd now (4 * b + 3) p2)) (ok_rd (4 * b + 3) (nI_43 b) (by omega) (by decide) (ok_wr (4 * b + 3) (nI_43 b) (by omega) (by decide) (ok_s rfl))) ?_
    rintro _ rfl
    exact ok_u2 (ok_s ⟨an_0 ((h1.2.2.2.2 b hb).2.2.2).symm, n, h', rfl, e1, e2, ⟨hn, yrN_upd h1.2.1 c2, h1.2.2.1, rw_set3 hn hb h1.2.2.2⟩, h5, rsG_1⟩)
theorem t_press {p1 p2 : Int32} (h : stR sN old hs kept P L M Y hN hP hL hM hY now past c any rs bef beh fy ly aB aH tab) :
    Ok (f_L_press p1 p2 old sN P L M Y hs hN hP hL hM hY out) (fun o => Ok (f_X5_press p1 p2 kept th now past) (fun o' => anR o.1 o.2.2.2.2.2.2.2.2.2 o'.1 o'.2.2.1 ∧ stR sN o.2.1 o.2.2.2.1 o'.2.1 o.2.2.1 L M Y o.2.2.2.2.1 o.2.2.2.2.2.1 o.2.2.2.2.2.2.1 o.2.2.2.2.2.2.2.1 o.2.2.2.2.2.2.2.2.1 o'.2.2.2.1 o'.2.2.2.2 c any rs bef beh fy ly aB aH tab)) := by
  obtain ⟨n, g, rfl, rfl, rfl, h1, h2, h3⟩ := h
  have hst : stR (nI n) old (nI g) (nI g) P L M Y hN hP hL hM hY now past c any rs bef beh fy ly aB aH tab := ⟨n, g, rfl, rfl, rfl, h1, h2, h3⟩
  have hn := h1.1
  unfold f_L_press f_X4_press f_X5_press
  by_cases c1n : ¬ (0 ≤ p1 ∧ p1 < nI n)
  · refine ok_bd (fun o => o = (Sum.inr "java/lang/IndexOutOfBoundsException", old, P, nI g, hN, hP, hL, hM, hY)) (ok_c0 (isBook_e p1 n) c1n (ok_t rfl (ok_s rfl))) ?_
    rintro _ rfl
    exact ok_u9 (ok_t rfl (ok_s (ok_c0 (mBook_e p1 hn h1.2.2.2) c1n (ok_t rfl (ok_fails (ok_s ⟨an_k n10, hst⟩))))))
  have c1 := Decidable.not_not.mp c1n
  by_cases c2n : ¬ (0 ≤ p2 ∧ p2 ≤ 2)
  · refine ok_bd (fun o => o = (Sum.inr "java/lang/IllegalArgumentException", old, P, nI g, hN, hP, hL, hM, hY)) (ok_c1 (isBook_e p1 n) c1 (ok_f (by decide) (ok_c0 (isPress_e p2) c2n (ok_t rfl (ok_s rfl))))) ?_
    rintro _ rfl
    exact ok_u9 (ok_f (by decide) (ok_t rfl (ok_s (ok_c1 (mBook_e p1 hn h1.2.2.2) c1 (ok_f (by decide) (ok_c0 (f_in_e) c2n (ok_t rfl (ok_fails (ok_s ⟨an_k n20, hst⟩)))))))))
  have c2 := Decidable.not_not.mp c2n
  obtain ⟨b, hb, rfl⟩ := bk_of hn c1
  refine ok_bd (fun o => ∃ p2' p3' p4' p5' p6' p7' : _, o = (Sum.inl (P b), 1, upd P b p2, p2', p3', p4', p5', p6', p7') ∧ Ok (f_X5_saves (nI g) now past) (fun o' => ∃ h', p2' = nI h' ∧ o'.1 = nI h' ∧ hiR h' p3' p4' p5' p6' p7' o'.2)) (ok_c1 (isBook_e (nI b) n) c1 (ok_f (by decide) (ok_c1 (isPress_e p2) c2 (ok_f (by decide) (ok_bd _ (save2_e h1 h2) ?_))))) ?_
  · rintro ⟨o7, o8, o9, o10, o11, o12, o13⟩ ⟨e1, hsv⟩
    dsimp only at e1
    subst e1
    exact ok_u7 (ok_rd b rfl (by omega) (by decide) (ok_wr b rfl (by omega) (by decide) (ok_s ⟨o8, o9, o10, o11, o12, o13, rfl, hsv⟩)))
  · rintro _ ⟨q2, q3, q4, q5, q6, q7, rfl, hsv⟩
    refine ok_u9 (ok_wrL (ok_s (ok_c1 (mBook_e (nI b) hn h1.2.2.2) c1 (ok_f (by decide) (ok_c1 (f_in_e) c2 (ok_f (by decide) (ok_bd _ hsv ?_)))))))
    rintro ⟨k', past'⟩ ⟨h', e1, e2, h5⟩
    refine ok_u2 ?_
    unfold f_X5_changes
    refine ok_bd (fun o => o = (now (4 * b), upd now (4 * b) p2)) (ok_rd (4 * b) (nI_4 b) (by omega) (by decide) (ok_wr (4 * b) (nI_4 b) (by omega) (by decide) (ok_s rfl))) ?_
    rintro _ rfl
    exact ok_u2 (ok_s ⟨an_0 ((h1.2.2.2.2 b hb).1).symm, n, h', rfl, e1, e2, ⟨hn, h1.2.1, h1.2.2.1, rw_set0 hn hb h1.2.2.2⟩, h5, rsG_1⟩)
end Face2
