/-! the class: its numbers; who is ahead depends on the books below n alone -/
def sh4 (n : Nat) (P L M Y P' L' M' Y' : Nat → Int32) : Prop := ∀ b, b < n → P' b = P b ∧ L' b = L b ∧ M' b = M b ∧ Y' b = Y b
theorem eB_cg {n : Nat} {P L M Y P' L' M' Y' : Nat → Int32} (h : sh4 n P L M Y P' L' M' Y') : ∀ a b, a < n → b < n → eB P' L' M' Y' a b = eB P L M Y a b := fun a b ha hb => by
  obtain ⟨a0, a1, a2, a3⟩ := h a ha
  obtain ⟨b0, b1, b2, b3⟩ := h b hb
  have e : spBy P' L' M' Y' a b = spBy P L M Y a b := by simp only [spBy, a0, a1, a2, a3, b0, b1, b2, b3]
  unfold eB
  rw [e]
theorem fF_cg {E E' : Nat → Nat → Bool} {n S x : Nat} (h : ∀ a b, a < n → b < n → E' a b = E a b) (hx : x < n) : fF E' n S x = fF E n S x := by
  refine Bool.eq_iff_iff.mpr ?_
  rw [fF_iff, fF_iff]
  constructor
  · rintro ⟨h1, h2⟩
    exact ⟨h1, fun z hz hs => by rw [← h z x hz hx]; exact h2 z hz hs⟩
  · rintro ⟨h1, h2⟩
    exact ⟨h1, fun z hz hs => by rw [h z x hz hx]; exact h2 z hz hs⟩
theorem cF_cg {E E' : Nat → Nat → Bool} {n : Nat} (h : ∀ a b, a < n → b < n → E' a b = E a b) : ∀ k S, cF E' n k S = cF E n k S
  | 0, _ => rfl
  | k + 1, S => by
    rw [cF, cF]
    by_cases e : S = 0
    · rw [if_pos e, if_pos e]
    · rw [if_neg e, if_neg e]
      refine sm_congr (fun x hx => ?_)
      rw [fF_cg h hx, cF_cg h k]
theorem ct_cg {E E' : Nat → Nat → Bool} {n : Nat} (h : ∀ a b, a < n → b < n → E' a b = E a b) (S : Nat) : ct E' n S = ct E n S := cF_cg h S S
theorem fitN_cg {E E' : Nat → Nat → Bool} {n : Nat} (h : ∀ a b, a < n → b < n → E' a b = E a b) : fitN E' n = fitN E n := ct_cg h _
theorem isCl_cg {E E' : Nat → Nat → Bool} {n : Nat} {A : Nat → Nat} (h : ∀ a b, a < n → b < n → E' a b = E a b) (hA : isCl E n A) : isCl E' n A := ⟨hA.1, fun a b ha hb hE => hA.2.1 a b ha hb (by rw [← h a b ha hb]; exact hE), hA.2.2.1, fun Q hQ => hA.2.2.2 Q (fun a b ha hb hE => hQ a b ha hb (by rw [h a b ha hb]; exact hE))⟩
theorem clo_cg {E E' : Nat → Nat → Bool} {n : Nat} (h : ∀ a b, a < n → b < n → E' a b = E a b) : ∀ b, b < n → clo E' n b = clo E n b := cl_uni (clo_cl E' n) (isCl_cg h (clo_cl E n))
theorem fyR_cg {Y Y' : Nat → Int32} {u u' : Nat → Bool} : ∀ n : Nat, (∀ o, o < n → Y' o = Y o ∧ u' o = u o) → fyR Y' u' n = fyR Y u n
  | 0, _ => rfl
  | n + 1, h => by
    rw [fyR, fyR, fyR_cg n (fun o ho => h o (by omega)), (h n (by omega)).1, (h n (by omega)).2]
theorem lyR_cg {Y Y' : Nat → Int32} {u u' : Nat → Bool} : ∀ n : Nat, (∀ o, o < n → Y' o = Y o ∧ u' o = u o) → lyR Y' u' n = lyR Y u n
  | 0, _ => rfl
  | n + 1, h => by
    rw [lyR, lyR, lyR_cg n (fun o ho => h o (by omega)), (h n (by omega)).1, (h n (by omega)).2]
theorem dtdV_cg {E E' : Nat → Nat → Bool} {n : Nat} {Y Y' : Nat → Int32} (h : ∀ a b, a < n → b < n → E' a b = E a b) (hY : ∀ b, b < n → Y' b = Y b) : dtdV E' n Y' = dtdV E n Y := dtd_congr (fun b hb => by
  have ht : ∀ a b, a < n → b < n → tr E' a b = tr E a b := fun a b ha hb => h b a hb ha
  refine ⟨fyR_cg n (fun o ho => ⟨hY o ho, ?_⟩), lyR_cg n (fun o ho => ⟨hY o ho, ?_⟩)⟩
  · rw [clo_cg h b hb]
  · rw [clo_cg ht b hb])
/-! copies of shelves -/
theorem addAll_e {m n : Nat} {p l y o P L M Y : Nat → Int32} (h : m + n ≤ 10) : Ok (f_X2_addAll (nI m) p l y o (nI n) P L M Y) (fun r => r.1 = nI (m + n) ∧ (∀ b, b < m → r.2.1 b = p b ∧ r.2.2.1 b = l b ∧ r.2.2.2.1 b = y b ∧ r.2.2.2.2 b = o b) ∧ ∀ k, k < n → r.2.1 (m + k) = P k ∧ r.2.2.1 (m + k) = L k ∧ r.2.2.2.1 (m + k) = M k ∧ r.2.2.2.2 (m + k) = Y k) := by
  unfold f_X2_addAll
  refine ok_wl (fun i s => s.1 = nI i ∧ s.2.1 = nI (m + i) ∧ (∀ b, b < m → s.2.2.1 b = p b ∧ s.2.2.2.1 b = l b ∧ s.2.2.2.2.1 b = y b ∧ s.2.2.2.2.2 b = o b) ∧ ∀ k, k < i → s.2.2.1 (m + k) = P k ∧ s.2.2.2.1 (m + k) = L k ∧ s.2.2.2.2.1 (m + k) = M k ∧ s.2.2.2.2.2 (m + k) = Y k)
    (fun r => r.1 = nI (m + n) ∧ (∀ b, b < m → r.2.1 b = p b ∧ r.2.2.1 b = l b ∧ r.2.2.2.1 b = y b ∧ r.2.2.2.2 b = o b) ∧ ∀ k, k < n → r.2.1 (m + k) = P k ∧ r.2.2.1 (m + k) = L k ∧ r.2.2.2.1 (m + k) = M k ∧ r.2.2.2.2 (m + k) = Y k) n (by omega) ⟨rfl, rfl, fun b _ => ⟨rfl, rfl, rfl, rfl⟩, fun k hk => by omega⟩ ?_ ?_ ?_
  · rintro i ⟨l1, w2, w3, w4, w5, w6⟩ hi ⟨e1, e2, hA, hB⟩
    dsimp only at e1 e2 hA hB
    subst e1 e2
    refine ok_nle hi (by omega) (ok_rd i rfl (by omega) (by decide) (ok_rd i rfl (by omega) (by decide) (ok_rd i rfl (by omega) (by decide) (ok_rd i rfl (by omega) (by decide) ?_))))
    have ha : Ok (f_X2_add (P i) (L i) (M i) (Y i) (nI (m + i)) w3 w4 w5 w6) (fun r => r = (nI (m + i) + 1, upd w3 (m + i) (P i), upd w4 (m + i) (L i), upd w5 (m + i) (M i), upd w6 (m + i) (Y i))) := by
      unfold f_X2_add
      exact ok_t (nI_lt (b := 10) (by omega) (by omega)) (ok_wr (m + i) rfl (by omega) (by decide) (ok_wr (m + i) rfl (by omega) (by decide) (ok_wr (m + i) rfl (by omega) (by decide) (ok_wr (m + i) rfl (by omega) (by decide) (ok_s rfl)))))
    refine ok_bd _ ha ?_
    rintro _ rfl
    refine ok_u5 (ok_s ⟨nI_1 i, ?_, fun b hb => ?_, fun k hk => ?_⟩)
    · dsimp only
      rw [nI_1, Nat.add_assoc]
    · dsimp only
      rw [pk_un (by omega), pk_un (by omega), pk_un (by omega), pk_un (by omega)]
      exact hA b hb
    · dsimp only
      by_cases e : k = i
      · subst e
        rw [pk_us, pk_us, pk_us, pk_us]
        exact ⟨rfl, rfl, rfl, rfl⟩
      · rw [pk_un (by omega), pk_un (by omega), pk_un (by omega), pk_un (by omega)]
        exact hB k (by omega)
  · rintro ⟨l1, w2, w3, w4, w5, w6⟩ ⟨e1, e2, hA, hB⟩
    dsimp only at e1 e2 hA hB
    subst e1 e2
    exact ok_yle (Nat.le_refl _) (by omega) (ok_s ⟨rfl, hA, hB⟩)
  · rintro ⟨w7, w8, w9, w10, w11⟩ hr
    exact ok_u5 (ok_s hr)
theorem copyFrom_e {n : Nat} {z : Int32} {p l y o P L M Y : Nat → Int32} (h : n ≤ 10) : Ok (f_X2_copyFrom z p l y o (nI n) P L M Y) (fun r => r.1 = nI n ∧ sh4 n P L M Y r.2.1 r.2.2.1 r.2.2.2.1 r.2.2.2.2) := by
  unfold f_X2_copyFrom f_X2_clear
  refine ok_be rfl (ok_u1 (ok_bd _ (addAll_e (m := 0) (by omega)) ?_))
  rintro ⟨o4, o5, o6, o7, o8⟩ ⟨h1, -, h2⟩
  refine ok_u5 (ok_s ⟨?_, fun b hb => ?_⟩)
  · rw [Nat.zero_add] at h1; exact h1
  · have := h2 b hb
    rw [Nat.zero_add] at this
    exact this
theorem yrOk_cg {n : Nat} {P L M Y P' L' M' Y' : Nat → Int32} (h : sh4 n P L M Y P' L' M' Y') (hY : yrOk n M Y) : yrOk n M' Y' := fun b hb => by
  rw [(h b hb).2.2.1, (h b hb).2.2.2]
  exact hY b hb
/-! the reading kept -/
def rsG (E : Nat → Nat → Bool) (n : Nat) (Y : Nat → Int32) (old c any sz : Int32) (bef beh fy ly aB aH tab : Nat → Int32) : Prop := (old = 0 ∨ old = 1) ∧ (old = 0 → rdV E n Y any sz bef beh fy ly aB aH ∧ tabG E n c tab)
theorem cr_e {n : Nat} {P L M Y bef beh fy ly aB aH tab : Nat → Int32} {old c any sz : Int32} (hn : n ≤ 10) (hY : yrOk n M Y) (h : rsG (eB P L M Y) n Y old c any sz bef beh fy ly aB aH tab) :
    Ok (f_X4_currentReading old (nI n) P L M Y c any sz bef beh fy ly aB aH) (fun o => o.1 = 0 ∧ rdV (eB P L M Y) n Y o.2.2.1 o.2.2.2.1 o.2.2.2.2.1 o.2.2.2.2.2.1 o.2.2.2.2.2.2.1 o.2.2.2.2.2.2.2.1 o.2.2.2.2.2.2.2.2.1 o.2.2.2.2.2.2.2.2.2 ∧ tabG (eB P L M Y) n o.2.1 tab) := by
  unfold f_X4_currentReading
  refine ok_jd ?_
  by_cases q : old = 0
  · exact ok_t q (ok_u10 (ok_s ⟨q, (h.2 q).1, (h.2 q).2⟩))
  · refine ok_f q (ok_bd _ (read_e hn hY) ?_)
    rintro ⟨o13, o14, o15, o16, o17, o18, o19, o20, o21⟩ ⟨h1, h2⟩
    dsimp only at h1 h2
    subst h1
    exact ok_u9 (ok_u10 (ok_s ⟨rfl, rdV_of h2, ⟨Or.inl rfl, fun z => absurd rfl z⟩⟩))
def lmOk (n : Nat) (L : Nat → Int32) : Prop := ∀ b, b < n → 0 ≤ L b ∧ L b ≤ 4095
theorem lm_bc {n b : Nat} {L : Nat → Int32} (hL : lmOk n L) (hb : b < n) : f_J6_bitCount_0f7a4 (L b) = some (nI (cd 12 (L b).toNatClampNeg)) := by
  obtain ⟨k, hk, e⟩ := w_cases 4095 (hL b hb).1 (hL b hb).2 (by decide)
  rw [e, nI_clamp (by omega)]
  exact bc_12 (by omega)
theorem nBook_e {n b : Nat} {P L M Y bef beh fy ly aB aH tab : Nat → Int32} {old c any sz w : Int32} (hn : n ≤ 10) (hb : b < n) (hY : yrOk n M Y) (hL : lmOk n L) (h0 : 0 ≤ w) (hw : w ≤ 10) (h : rsG (eB P L M Y) n Y old c any sz bef beh fy ly aB aH tab) :
    Ok (f_X4_numberOfBook (nI b) w old (nI n) P L M Y c any sz bef beh fy ly aB aH) (fun o => o.1 = nBk (eB P L M Y) n P L M Y b w ∧ rsG (eB P L M Y) n Y o.2.1 o.2.2.1 o.2.2.2.1 o.2.2.2.2.1 o.2.2.2.2.2.1 o.2.2.2.2.2.2.1 o.2.2.2.2.2.2.2.1 o.2.2.2.2.2.2.2.2.1 o.2.2.2.2.2.2.2.2.2.1 o.2.2.2.2.2.2.2.2.2.2 tab) := by
  unfold f_X4_numberOfBook
  refine ok_bd _ (cr_e hn hY h) ?_
  rintro ⟨o2, o3, o4, o5, o6, o7, o8, o9, o10, o11⟩ ⟨h1, h2, h3⟩
  dsimp only at h1 h2 h3
  subst h1
  refine ok_u10 ?_
  have hst : rsG (eB P L M Y) n Y 0 o3 o4 o5 o6 o7 o8 o9 o10 o11 tab := ⟨Or.inl rfl, fun _ => ⟨h2, h3⟩⟩
  obtain ⟨⟨e6, e7⟩, ⟨e8, e9⟩, -, -⟩ := h2.2.2 b hb
  have hb10 : b < 10 := by omega
  obtain ⟨k, hk, rfl⟩ := w_cases 10 h0 hw (by decide)
  match k, hk with
  | 0, _ => exact ok_f (by decide) (ok_t rfl (ok_rd b rfl hb10 (by decide) (ok_s ⟨rfl, hst⟩)))
  | 1, _ => exact ok_f (by decide) (ok_f (by decide) (ok_t rfl (ok_rd b rfl hb10 (by decide) (ok_s ⟨rfl, hst⟩))))
  | 2, _ => exact ok_f (by decide) (ok_f (by decide) (ok_f (by decide) (ok_t rfl (ok_rd b rfl hb10 (by decide) (ok_s ⟨rfl, hst⟩)))))
  | 3, _ => exact ok_f (by decide) (ok_f (by decide) (ok_f (by decide) (ok_f (by decide) (ok_t rfl (ok_rd b rfl hb10 (by decide) (ok_s ⟨rfl, hst⟩))))))
  | 4, _ => exact ok_f (by decide) (ok_f (by decide) (ok_f (by decide) (ok_f (by decide) (ok_f (by decide) (ok_t rfl (ok_rd b rfl hb10 (by decide) (ok_be (lm_bc hL hb) (ok_u1 (ok_s ⟨rfl, hst⟩)))))))))
  | 5, _ => exact ok_f (by decide) (ok_f (by decide) (ok_f (by decide) (ok_f (by decide) (ok_f (by decide) (ok_f (by decide) (ok_t rfl (ok_rd b rfl hb10 (by decide) (ok_s ⟨e8, hst⟩))))))))
  | 6, _ => exact ok_f (by decide) (ok_f (by decide) (ok_f (by decide) (ok_f (by decide) (ok_f (by decide) (ok_f (by decide) (ok_f (by decide) (ok_t rfl (ok_rd b rfl hb10 (by decide) (ok_s ⟨e9, hst⟩)))))))))
  | 7, _ =>
    refine ok_f (by decide) (ok_f (by decide) (ok_f (by decide) (ok_f (by decide) (ok_f (by decide) (ok_f (by decide) (ok_f (by decide) (ok_f (by decide) (ok_t rfl (ok_be (isDated_e hb10) (ok_u1 (ok_jd ?_)))))))))))
    rw [e8, e9]
    by_cases q : fyV (eB P L M Y) n Y b = lyV (eB P L M Y) n Y b
    · rw [if_pos q]
      refine ok_f (by decide) (ok_u1 (ok_s ⟨?_, hst⟩))
      show (1 : Int32) = if _ then _ else _
      rw [if_pos q]
      rfl
    · rw [if_neg q]
      refine ok_t rfl (ok_u1 (ok_s ⟨?_, hst⟩))
      show (0 : Int32) = if _ then _ else _
      rw [if_neg q]
      rfl
  | 8, _ =>
    refine ok_f (by decide) (ok_f (by decide) (ok_f (by decide) (ok_f (by decide) (ok_f (by decide) (ok_f (by decide) (ok_f (by decide) (ok_f (by decide) (ok_f (by decide) (ok_t rfl (ok_rd b rfl hb10 (by decide) ?_))))))))))
    rw [e6]
    exact ok_be (bc_e hn (bfM_lt _ _ _)) (ok_u1 (ok_s ⟨rfl, hst⟩))
  | 9, _ =>
    refine ok_f (by decide) (ok_f (by decide) (ok_f (by decide) (ok_f (by decide) (ok_f (by decide) (ok_f (by decide) (ok_f (by decide) (ok_f (by decide) (ok_f (by decide) (ok_f (by decide) (ok_t rfl (ok_rd b rfl hb10 (by decide) ?_)))))))))))
    rw [e7]
    exact ok_be (bc_e hn (bfM_lt _ _ _)) (ok_u1 (ok_s ⟨rfl, hst⟩))
  | 10, _ =>
    refine ok_t (by decide) (ok_rd b rfl hb10 (by decide) (ok_rd b rfl hb10 (by decide) ?_))
    rw [e6, e7, iN_and]
    exact ok_be (bc_e hn (Nat.and_lt_two_pow _ (bfM_lt _ _ _))) (ok_u1 (ok_s ⟨rfl, hst⟩))
  | k + 11, hk => omega
