/-! the class's changes: rules with what follows -/
theorem shC_cg {n : Nat} {P L M Y P' L' M' Y' : Nat → Int32} (C : shC n P L M Y) (h : sh4 n P L M Y P' L' M' Y') : shC n P' L' M' Y' := ⟨C.1, yrOk_cg h C.2.1, fun b hb => by rw [(h b hb).2.1]; exact C.2.2.1 b hb, fun b hb => by rw [(h b hb).1]; exact C.2.2.2 b hb⟩
def hiC (h : Nat) (hN : Nat → Int32) (hP hL hM hY : Nat → Nat → Int32) : Prop := h ≤ 6 ∧ ∀ i, i < h → ∃ m, hN i = nI m ∧ shC m (hP i) (hL i) (hM i) (hY i)
section Acts
variable {n h : Nat} {P L M Y : Nat → Int32} {hN : Nat → Int32} {hP hL hM hY : Nat → Nat → Int32} {old : Int32} {τ : Type} {R : τ → Prop}
theorem save_c (C : shC n P L M Y) (H : hiC h hN hP hL hM hY) : Ok (f_X4_save old (nI n) P L M Y (nI h) hN hP hL hM hY) (fun o => o.1 = 1 ∧ ∃ h', o.2.1 = nI h' ∧ hiC h' o.2.2.1 o.2.2.2.1 o.2.2.2.2.1 o.2.2.2.2.2.1 o.2.2.2.2.2.2) := by
  unfold f_X4_save
  by_cases h6 : h < 6
  · refine ok_bd _ (keepL_e C.1 h6) ?_
    rintro ⟨o2, o3, o4, o5, o6, o7⟩ ⟨e1, p, l, m, y, hs, e2⟩
    dsimp only at e1 e2
    cases e2
    refine ok_u6 ?_
    refine ok_s ⟨rfl, h + 1, e1, by omega, fun i hi => ?_⟩
    dsimp only
    by_cases e : i = h
    · subst e
      simp only [up_s]
      exact ⟨n, rfl, shC_cg C hs⟩
    · simp only [up_n e]
      exact H.2 i (by omega)
  · have e6 : h = 6 := by have := H.1; omega
    subst e6
    refine ok_bd _ (keep6_e C.1) ?_
    rintro ⟨o2, o3, o4, o5, o6, o7⟩ ⟨e1, p, l, m, y, hs, e2⟩
    dsimp only at e1 e2
    cases e2
    refine ok_u6 ?_
    refine ok_s ⟨rfl, 6, e1, by omega, fun i hi => ?_⟩
    dsimp only
    by_cases e : i = 5
    · subst e
      simp only [up_s]
      exact ⟨n, rfl, shC_cg C hs⟩
    · simp only [up_n e]
      exact H.2 (i + 1) (by omega)
theorem k_save {k : Int32 → Int32 → (Nat → Int32) → (Nat → Nat → Int32) → (Nat → Nat → Int32) → (Nat → Nat → Int32) → (Nat → Nat → Int32) → Option τ} (C : shC n P L M Y) (H : hiC h hN hP hL hM hY) (hk : ∀ h' o1 o2 o3 o4 o5, hiC h' o1 o2 o3 o4 o5 → Ok (k 1 (nI h') o1 o2 o3 o4 o5) R) : Ok ((f_X4_save old (nI n) P L M Y (nI h) hN hP hL hM hY).bind (u7 k)) R := by
  refine ok_bd _ (save_c C H) ?_
  rintro ⟨o1, o2, o3, o4, o5, o6, o7⟩ ⟨e1, h', e2, H2⟩
  dsimp only at e1 e2 H2
  subst e1; subst e2
  exact hk h' o3 o4 o5 o6 o7 H2
theorem pr_dl {b n : Nat} {P : Nat → Int32} (hb : b < n) (h : prOk n P) : prOk (n - 1) (dl b P) := fun x hx => by
  unfold dl
  split
  · exact h x (by omega)
  · exact h (x + 1) (by omega)
theorem pr_upd {n b : Nat} {P : Nat → Int32} {p : Int32} (h : prOk n P) (hp : p = 0 ∨ p = 1 ∨ p = 2) : prOk n (upd P b p) := fun x hx => by
  by_cases e : x = b
  · subst e; rw [pk_us]; exact hp
  · rw [pk_un e]; exact h x hx
theorem k_take {b : Nat} {k : Int32 → Int32 → Int32 → (Nat → Int32) → (Nat → Int32) → (Nat → Int32) → (Nat → Int32) → Int32 → (Nat → Int32) → (Nat → Nat → Int32) → (Nat → Nat → Int32) → (Nat → Nat → Int32) → (Nat → Nat → Int32) → Option τ} (C : shC n P L M Y) (H : hiC h hN hP hL hM hY) (hb : b < n) (hk : ∀ P' L' M' Y' h' o1 o2 o3 o4 o5, shC (n - 1) P' L' M' Y' → hiC h' o1 o2 o3 o4 o5 → Ok (k (nI (n - 1)) 1 (nI (n - 1)) P' L' M' Y' (nI h') o1 o2 o3 o4 o5) R) : Ok ((f_X4_take (nI b) old (nI n) P L M Y (nI h) hN hP hL hM hY).bind (u13 k)) R := by
  have h10 := C.1
  refine ok_bd (fun o => o.1 = nI (n - 1) ∧ o.2.1 = 1 ∧ o.2.2.1 = nI (n - 1) ∧ shC (n - 1) o.2.2.2.1 o.2.2.2.2.1 o.2.2.2.2.2.1 o.2.2.2.2.2.2.1 ∧ ∃ h', o.2.2.2.2.2.2.2.1 = nI h' ∧ hiC h' o.2.2.2.2.2.2.2.2.1 o.2.2.2.2.2.2.2.2.2.1 o.2.2.2.2.2.2.2.2.2.2.1 o.2.2.2.2.2.2.2.2.2.2.2.1 o.2.2.2.2.2.2.2.2.2.2.2.2) ?_ ?_
  · unfold f_X4_take
    refine ok_be (bk_1 h10 hb) ?_
    refine ok_u1 ?_
    refine ok_f (by decide) ?_
    refine k_save C H (fun h' o1 o2 o3 o4 o5 H2 => ?_)
    refine ok_bd _ (remove_e h10 hb) ?_
    rintro ⟨r1, r2, r3, r4, r5⟩ ⟨e1, hs⟩
    dsimp only at e1 hs
    refine ok_u5 ?_
    refine ok_s ⟨e1, rfl, e1, ?_, h', rfl, H2⟩
    have hy := yrOk_cg hs (yr_dl hb C.2.1)
    refine ⟨by omega, hy, fun x hx => ?_, fun x hx => ?_⟩
    · dsimp only; rw [(hs x hx).2.1]; exact lm_dl hb C.2.2.1 x hx
    · dsimp only; rw [(hs x hx).1]; exact pr_dl hb C.2.2.2 x hx
  · rintro ⟨r1, r2, r3, r4, r5, r6, r7, r8, r9, r10, r11, r12, r13⟩ ⟨e1, e2, e3, C2, h', e4, H2⟩
    dsimp only at e1 e2 e3 C2 e4 H2
    subst e1; subst e2; subst e3; subst e4
    exact hk r4 r5 r6 r7 h' r9 r10 r11 r12 r13 C2 H2
/-- the rules of the four that change one thing of a book -/
theorem and1_ge (x : Int32) : 0 ≤ x &&& 1 := by
  obtain ⟨j, hj, e⟩ := pk_andE x (m := 1) 1 (by decide)
  rw [e]
  exact z_le (by omega)
theorem k_crack {b l : Nat} {cr : Int32} {k : Int32 → Int32 → (Nat → Int32) → Int32 → (Nat → Int32) → (Nat → Nat → Int32) → (Nat → Nat → Int32) → (Nat → Nat → Int32) → (Nat → Nat → Int32) → Option τ} (C : shC n P L M Y) (H : hiC h hN hP hL hM hY) (hb : b < n) (hl : l < 12) (hk : ∀ v L' h' o1 o2 o3 o4 o5, 0 ≤ v → shC n P L' M Y → hiC h' o1 o2 o3 o4 o5 → Ok (k v 1 L' (nI h') o1 o2 o3 o4 o5) R) : Ok ((f_X4_crack (nI b) (nI l) cr old (nI n) P L M Y (nI h) hN hP hL hM hY).bind (u9 k)) R := by
  have h10 := C.1
  have hl2 : (0 : Int32) ≤ nI l ∧ nI l ≤ 11 := ⟨z_le (by omega), (nI_leI (by omega) (show 11 < 2 ^ 31 by decide)).mpr (by omega)⟩
  refine ok_bd (fun o => 0 ≤ o.1 ∧ o.2.1 = 1 ∧ shC n P o.2.2.1 M Y ∧ ∃ h', o.2.2.2.1 = nI h' ∧ hiC h' o.2.2.2.2.1 o.2.2.2.2.2.1 o.2.2.2.2.2.2.1 o.2.2.2.2.2.2.2.1 o.2.2.2.2.2.2.2.2) ?_ ?_
  · unfold f_X4_crack
    refine ok_be (bk_1 h10 hb) ?_
    refine ok_u1 ?_
    refine ok_jd ?_
    refine ok_f (by decide) ?_
    refine ok_be (isLetter_e (nI l)) ?_
    rw [if_pos hl2]
    refine ok_u1 ?_
    refine ok_f (by decide) ?_
    refine k_save C H (fun h' o1 o2 o3 o4 o5 H2 => ?_)
    refine ok_rd b rfl (by omega) (by decide) ?_
    refine ok_be (show_e (by omega)) ?_
    refine ok_u1 ?_
    exact ok_s ⟨and1_ge _, rfl, ⟨h10, C.2.1, lm_upd C.2.2.1 (ck_rg (C.2.2.1 b hb) hl2), C.2.2.2⟩, h', rfl, H2⟩
  · rintro ⟨r1, r2, r3, r4, r5, r6, r7, r8, r9⟩ ⟨e1, e2, C2, h', e4, H2⟩
    dsimp only at e1 e2 C2 e4 H2
    subst e2; subst e4
    exact hk r1 r3 h' r5 r6 r7 r8 r9 e1 C2 H2
theorem k_mould {b : Nat} {m : Int32} {k : Int32 → Int32 → (Nat → Int32) → Int32 → (Nat → Int32) → (Nat → Nat → Int32) → (Nat → Nat → Int32) → (Nat → Nat → Int32) → (Nat → Nat → Int32) → Option τ} (C : shC n P L M Y) (H : hiC h hN hP hL hM hY) (hb : b < n) (hm : -1 ≤ m ∧ m ≤ 99) (hk : ∀ v M' h' o1 o2 o3 o4 o5, shC n P L M' Y → hiC h' o1 o2 o3 o4 o5 → Ok (k v 1 M' (nI h') o1 o2 o3 o4 o5) R) : Ok ((f_X4_mould (nI b) m old (nI n) P L M Y (nI h) hN hP hL hM hY).bind (u9 k)) R := by
  have h10 := C.1
  refine ok_bd (fun o => o.2.1 = 1 ∧ shC n P L o.2.2.1 Y ∧ ∃ h', o.2.2.2.1 = nI h' ∧ hiC h' o.2.2.2.2.1 o.2.2.2.2.2.1 o.2.2.2.2.2.2.1 o.2.2.2.2.2.2.2.1 o.2.2.2.2.2.2.2.2) ?_ ?_
  · unfold f_X4_mould
    refine ok_be (bk_1 h10 hb) ?_
    refine ok_u1 ?_
    refine ok_f (by decide) ?_
    refine ok_be (isMould_e m) ?_
    rw [if_pos hm]
    refine ok_u1 ?_
    refine ok_f (by decide) ?_
    refine k_save C H (fun h' o1 o2 o3 o4 o5 H2 => ?_)
    refine ok_rd b rfl (by omega) (by decide) ?_
    refine ok_wr b rfl (by omega) (by decide) ?_
    exact ok_s ⟨rfl, ⟨h10, mdN_upd C.2.1 hm.1, C.2.2.1, C.2.2.2⟩, h', rfl, H2⟩
  · rintro ⟨r1, r2, r3, r4, r5, r6, r7, r8, r9⟩ ⟨e2, C2, h', e4, H2⟩
    dsimp only at e2 C2 e4 H2
    subst e2; subst e4
    exact hk r1 r3 h' r5 r6 r7 r8 r9 C2 H2
theorem k_year {b : Nat} {y : Int32} {k : Int32 → Int32 → (Nat → Int32) → Int32 → (Nat → Int32) → (Nat → Nat → Int32) → (Nat → Nat → Int32) → (Nat → Nat → Int32) → (Nat → Nat → Int32) → Option τ} (C : shC n P L M Y) (H : hiC h hN hP hL hM hY) (hb : b < n) (hy : y = -1 ∨ (1450 ≤ y ∧ y ≤ 1999)) (hk : ∀ v h' o1 o2 o3 o4 o5, shC n P L M (upd Y b y) → hiC h' o1 o2 o3 o4 o5 → Ok (k v 1 (upd Y b y) (nI h') o1 o2 o3 o4 o5) R) : Ok ((f_X4_year (nI b) y old (nI n) P L M Y (nI h) hN hP hL hM hY).bind (u9 k)) R := by
  have h10 := C.1
  refine ok_bd (fun o => o.2.1 = 1 ∧ o.2.2.1 = upd Y b y ∧ ∃ h', o.2.2.2.1 = nI h' ∧ hiC h' o.2.2.2.2.1 o.2.2.2.2.2.1 o.2.2.2.2.2.2.1 o.2.2.2.2.2.2.2.1 o.2.2.2.2.2.2.2.2) ?_ ?_
  · unfold f_X4_year
    refine ok_be (bk_1 h10 hb) ?_
    refine ok_u1 ?_
    refine ok_f (by decide) ?_
    refine ok_be (isYearN_e y) ?_
    rw [if_pos hy]
    refine ok_u1 ?_
    refine ok_f (by decide) ?_
    refine k_save C H (fun h' o1 o2 o3 o4 o5 H2 => ?_)
    refine ok_rd b rfl (by omega) (by decide) ?_
    refine ok_wr b rfl (by omega) (by decide) ?_
    exact ok_s ⟨rfl, rfl, h', rfl, H2⟩
  · rintro ⟨r1, r2, r3, r4, r5, r6, r7, r8, r9⟩ ⟨e2, e3, h', e4, H2⟩
    dsimp only at e2 e3 e4 H2
    subst e2; subst e3; subst e4
    exact hk r1 h' r5 r6 r7 r8 r9 ⟨h10, yrN_upd C.2.1 hy, C.2.2.1, C.2.2.2⟩ H2
theorem k_press {b : Nat} {q : Nat} {k : Int32 → Int32 → (Nat → Int32) → Int32 → (Nat → Int32) → (Nat → Nat → Int32) → (Nat → Nat → Int32) → (Nat → Nat → Int32) → (Nat → Nat → Int32) → Option τ} (C : shC n P L M Y) (H : hiC h hN hP hL hM hY) (hb : b < n) (hq : q < 3) (hk : ∀ v P' h' o1 o2 o3 o4 o5, 0 ≤ v → shC n P' L M Y → hiC h' o1 o2 o3 o4 o5 → Ok (k v 1 P' (nI h') o1 o2 o3 o4 o5) R) : Ok ((f_X4_press (nI b) (nI q) old (nI n) P L M Y (nI h) hN hP hL hM hY).bind (u9 k)) R := by
  have h10 := C.1
  have hq2 : (0 : Int32) ≤ nI q ∧ nI q ≤ 2 := ⟨z_le (by omega), (nI_leI (by omega) (show 2 < 2 ^ 31 by decide)).mpr (by omega)⟩
  have hq3 : nI q = 0 ∨ nI q = 1 ∨ nI q = 2 := by
    rcases (show q = 0 ∨ q = 1 ∨ q = 2 by omega) with e | e | e <;> subst e
    · exact Or.inl rfl
    · exact Or.inr (Or.inl rfl)
    · exact Or.inr (Or.inr rfl)
  refine ok_bd (fun o => 0 ≤ o.1 ∧ o.2.1 = 1 ∧ shC n o.2.2.1 L M Y ∧ ∃ h', o.2.2.2.1 = nI h' ∧ hiC h' o.2.2.2.2.1 o.2.2.2.2.2.1 o.2.2.2.2.2.2.1 o.2.2.2.2.2.2.2.1 o.2.2.2.2.2.2.2.2) ?_ ?_
  · unfold f_X4_press
    refine ok_be (bk_1 h10 hb) ?_
    refine ok_u1 ?_
    refine ok_f (by decide) ?_
    refine ok_be (isPress_e (nI q)) ?_
    rw [if_pos hq2]
    refine ok_u1 ?_
    refine ok_f (by decide) ?_
    refine k_save C H (fun h' o1 o2 o3 o4 o5 H2 => ?_)
    refine ok_rd b rfl (by omega) (by decide) ?_
    refine ok_wr b rfl (by omega) (by decide) ?_
    refine ok_s ⟨?_, rfl, ⟨h10, C.2.1, C.2.2.1, pr_upd C.2.2.2 hq3⟩, h', rfl, H2⟩
    show 0 ≤ P b
    rcases C.2.2.2 b hb with e | e | e <;> rw [e] <;> decide
  · rintro ⟨r1, r2, r3, r4, r5, r6, r7, r8, r9⟩ ⟨e1, e2, C2, h', e4, H2⟩
    dsimp only at e1 e2 C2 e4 H2
    subst e2; subst e4
    exact hk r1 r3 h' r5 r6 r7 r8 r9 e1 C2 H2
/-- a book put behind the others, or no room -/
theorem k_book {q l : Nat} {m y : Int32} {k : Int32 → Int32 → Int32 → (Nat → Int32) → (Nat → Int32) → (Nat → Int32) → (Nat → Int32) → Int32 → (Nat → Int32) → (Nat → Nat → Int32) → (Nat → Nat → Int32) → (Nat → Nat → Int32) → (Nat → Nat → Int32) → Option τ} (C : shC n P L M Y) (H : hiC h hN hP hL hM hY) (hq : q < 3) (hl : l ≤ 4095) (hm : -1 ≤ m ∧ m ≤ 99) (hy : y = -1 ∨ (1450 ≤ y ∧ y ≤ 1999))
    (hk : n < 10 → ∀ P' L' M' Y' h' o1 o2 o3 o4 o5, shC (n + 1) P' L' M' Y' → hiC h' o1 o2 o3 o4 o5 → Ok (k (nI n) 1 (nI (n + 1)) P' L' M' Y' (nI h') o1 o2 o3 o4 o5) R)
    (hx : n = 10 → Ok (k (-3) old (nI n) P L M Y (nI h) hN hP hL hM hY) R) : Ok ((f_L_book (nI q) (nI l) m y old (nI n) P L M Y (nI h) hN hP hL hM hY).bind (u13 k)) R := by
  have h10 := C.1
  have hq2 : (0 : Int32) ≤ nI q ∧ nI q ≤ 2 := ⟨z_le (by omega), (nI_leI (by omega) (show 2 < 2 ^ 31 by decide)).mpr (by omega)⟩
  have hq3 : nI q = 0 ∨ nI q = 1 ∨ nI q = 2 := by
    rcases (show q = 0 ∨ q = 1 ∨ q = 2 by omega) with e | e | e <;> subst e
    · exact Or.inl rfl
    · exact Or.inr (Or.inl rfl)
    · exact Or.inr (Or.inr rfl)
  have hl2 : (0 : Int32) ≤ nI l ∧ nI l ≤ 4095 := ⟨z_le (by omega), (nI_leI (by omega) (show 4095 < 2 ^ 31 by decide)).mpr hl⟩
  by_cases hn : n < 10
  · refine ok_bd (fun o => o.1 = nI n ∧ o.2.1 = 1 ∧ o.2.2.1 = nI (n + 1) ∧ shC (n + 1) o.2.2.2.1 o.2.2.2.2.1 o.2.2.2.2.2.1 o.2.2.2.2.2.2.1 ∧ ∃ h', o.2.2.2.2.2.2.2.1 = nI h' ∧ hiC h' o.2.2.2.2.2.2.2.2.1 o.2.2.2.2.2.2.2.2.2.1 o.2.2.2.2.2.2.2.2.2.2.1 o.2.2.2.2.2.2.2.2.2.2.2.1 o.2.2.2.2.2.2.2.2.2.2.2.2) ?_ ?_
    · unfold f_L_book
      refine ok_bd (fun o => o.1 = Sum.inl (nI n) ∧ o.2.1 = 1 ∧ o.2.2.1 = nI (n + 1) ∧ shC (n + 1) o.2.2.2.1 o.2.2.2.2.1 o.2.2.2.2.2.1 o.2.2.2.2.2.2.1 ∧ ∃ h', o.2.2.2.2.2.2.2.1 = nI h' ∧ hiC h' o.2.2.2.2.2.2.2.2.1 o.2.2.2.2.2.2.2.2.2.1 o.2.2.2.2.2.2.2.2.2.2.1 o.2.2.2.2.2.2.2.2.2.2.2.1 o.2.2.2.2.2.2.2.2.2.2.2.2) ?_ ?_
      · unfold f_X4_book
        refine ok_be (isPress_e (nI q)) ?_
        rw [if_pos hq2]
        refine ok_u1 ?_
        refine ok_jd ?_
        refine ok_f (by decide) ?_
        refine ok_be (isMask_e (nI l)) ?_
        rw [if_pos hl2]
        refine ok_u1 ?_
        refine ok_f (by decide) ?_
        refine ok_be (isMould_e m) ?_
        rw [if_pos hm]
        refine ok_u1 ?_
        refine ok_f (by decide) ?_
        refine ok_be (isYearN_e y) ?_
        rw [if_pos hy]
        refine ok_u1 ?_
        refine ok_f (by decide) ?_
        refine ok_t ((nI_ltI (by omega) (show 10 < 2 ^ 31 by decide)).mpr hn) ?_
        refine k_save C H (fun h' o1 o2 o3 o4 o5 H2 => ?_)
        refine ok_be (add_e hn) ?_
        refine ok_u5 ?_
        refine ok_s ⟨?_, rfl, rfl, ?_, h', rfl, H2⟩
        · show Sum.inl (nI (n + 1) - 1) = _
          rw [iN_1, pk_sub (by omega), Nat.add_sub_cancel]
        · refine ⟨by omega, fun x hx => ?_, fun x hx => ?_, fun x hx => ?_⟩
          · by_cases e : x = n
            · subst e; simp only [pk_us]; exact ⟨hm.1, hy⟩
            · simp only [pk_un e]; exact C.2.1 x (by omega)
          · by_cases e : x = n
            · subst e; simp only [pk_us]; exact hl2
            · simp only [pk_un e]; exact C.2.2.1 x (by omega)
          · by_cases e : x = n
            · subst e; simp only [pk_us]; exact hq3
            · simp only [pk_un e]; exact C.2.2.2 x (by omega)
      · rintro ⟨r1, r2, r3, r4, r5, r6, r7, r8, r9, r10, r11, r12, r13⟩ ⟨e1, e2, e3, C2, h', e4, H2⟩
        dsimp only at e1 e2 e3 C2 e4 H2
        subst e1
        exact ok_s ⟨rfl, e2, e3, C2, h', e4, H2⟩
    · rintro ⟨r1, r2, r3, r4, r5, r6, r7, r8, r9, r10, r11, r12, r13⟩ ⟨e1, e2, e3, C2, h', e4, H2⟩
      dsimp only at e1 e2 e3 C2 e4 H2
      subst e1; subst e2; subst e3; subst e4
      exact hk hn r4 r5 r6 r7 h' r9 r10 r11 r12 r13 C2 H2
  · have e10 : n = 10 := by omega
    refine ok_be (a := (-3, old, nI n, P, L, M, Y, nI h, hN, hP, hL, hM, hY)) ?_ (hx e10)
    unfold f_L_book f_X4_book
    rw [isPress_e, isMask_e, isMould_e, isYearN_e, if_pos hq2, if_pos hl2, if_pos hm, if_pos hy]
    simp only [jn, u0, u1, Option.bind_some]
    rw [if_neg (by decide), if_neg (by decide), if_neg (by decide), if_neg (by decide), if_neg (show ¬ nI n < 10 from fun z => hn ((nI_ltI (by omega) (show 10 < 2 ^ 31 by decide)).mp z))]
    rfl
theorem k_undo {k : Int32 → Int32 → Int32 → (Nat → Int32) → (Nat → Int32) → (Nat → Int32) → (Nat → Int32) → Int32 → Option τ} (C : shC n P L M Y) (H : hiC h hN hP hL hM hY)
    (hk : ∀ h', h = h' + 1 → ∀ n' P' L' M' Y', shC n' P' L' M' Y' → Ok (k (nI h') 1 (nI n') P' L' M' Y' (nI h')) R)
    (hx : Ok (k (-3) old (nI n) P L M Y (nI h)) R) : Ok ((f_L_undo old (nI n) P L M Y (nI h) hN hP hL hM hY).bind (u8 k)) R := by
  have h6 := H.1
  by_cases hh : h = 0
  · subst hh
    exact ok_be (a := (-3, old, nI n, P, L, M, Y, nI 0)) rfl hx
  · obtain ⟨h', rfl⟩ : ∃ h', h = h' + 1 := ⟨h - 1, by omega⟩
    obtain ⟨m, hm, Cm⟩ := H.2 h' (by omega)
    refine ok_bd (fun o => o.1 = nI h' ∧ o.2.1 = 1 ∧ o.2.2.1 = nI m ∧ shC m o.2.2.2.1 o.2.2.2.2.1 o.2.2.2.2.2.1 o.2.2.2.2.2.2.1 ∧ o.2.2.2.2.2.2.2 = nI h') ?_ ?_
    · unfold f_L_undo
      refine ok_bd (fun o => o.1 = Sum.inl (nI h') ∧ o.2.1 = 1 ∧ o.2.2.1 = nI m ∧ shC m o.2.2.2.1 o.2.2.2.2.1 o.2.2.2.2.2.1 o.2.2.2.2.2.2.1 ∧ o.2.2.2.2.2.2.2 = nI h') ?_ ?_
      · unfold f_X4_undo
        refine ok_f (fun z => by rw [iN_z0 (by omega)] at z; omega) ?_
        refine ok_bd _ (restL_e Cm.1 (by omega) hm) ?_
        rintro ⟨r1, r2, r3, r4, r5, r6⟩ ⟨e1, e2, hs⟩
        dsimp only at e1 e2 hs
        subst e1; subst e2
        refine ok_u6 ?_
        exact ok_s ⟨rfl, rfl, rfl, shC_cg Cm hs, rfl⟩
      · rintro ⟨r1, r2, r3, r4, r5, r6, r7, r8⟩ ⟨e1, e2, e3, C2, e4⟩
        dsimp only at e1 e2 e3 C2 e4
        subst e1
        exact ok_s ⟨rfl, e2, e3, C2, e4⟩
    · rintro ⟨r1, r2, r3, r4, r5, r6, r7, r8⟩ ⟨e1, e2, e3, C2, e4⟩
      dsimp only at e1 e2 e3 C2 e4
      subst e1; subst e2; subst e3; subst e4
      exact hk h' rfl m r4 r5 r6 r7 C2
end Acts
