/-! ranges -/
theorem rg_f {c : Prop} [Decidable c] {f : Int32 → Option Int32} {p : Int32} (h : Ok (f p) (fun r => (c ∧ r = 1) ∨ (¬ c ∧ r = 0))) : f p = some (if c then 1 else 0) := by
  obtain ⟨r, h1, h2⟩ := h
  rw [h1]
  rcases h2 with ⟨a, rfl⟩ | ⟨a, rfl⟩
  · rw [if_pos a]
  · rw [if_neg a]
theorem i_nlt {x y : Int32} : ¬ x < y ↔ y ≤ x := Int32.not_lt
theorem isPress_e (p : Int32) : f_X4_isPress p = some (if 0 ≤ p ∧ p ≤ 2 then 1 else 0) := by
  refine rg_f ?_
  unfold f_X4_isPress
  dsimp only [jn, u0, u1]
  refine ok_if (fun a => ok_gB (Or.inl rfl) (ok_s (Or.inr ⟨fun z => i_nlt.mpr z.1 a, rfl⟩))) (fun a => ok_if (fun b => ok_gB (Or.inl rfl) (ok_s (Or.inr ⟨fun z => ?_, rfl⟩))) (fun b => ok_gB (Or.inr rfl) (ok_s (Or.inl ⟨⟨i_nlt.mp a, ?_⟩, rfl⟩))))
  · have h1 := z.2
    rw [Int32.le_iff_toInt_le] at b h1
    rw [show (3 : Int32).toInt = 3 from rfl] at b
    rw [show (2 : Int32).toInt = 2 from rfl] at h1
    omega
  · rw [Int32.not_le, Int32.lt_iff_toInt_lt, show (3 : Int32).toInt = 3 from rfl] at b
    rw [Int32.le_iff_toInt_le, show (2 : Int32).toInt = 2 from rfl]
    omega
theorem isLetter_e (p : Int32) : f_X4_isLetter p = some (if 0 ≤ p ∧ p ≤ 11 then 1 else 0) := by
  refine rg_f ?_
  unfold f_X4_isLetter
  dsimp only [jn, u0, u1]
  refine ok_if (fun a => ok_gB (Or.inl rfl) (ok_s (Or.inr ⟨fun z => i_nlt.mpr z.1 a, rfl⟩))) (fun a => ok_if (fun b => ok_gB (Or.inl rfl) (ok_s (Or.inr ⟨fun z => ?_, rfl⟩))) (fun b => ok_gB (Or.inr rfl) (ok_s (Or.inl ⟨⟨i_nlt.mp a, ?_⟩, rfl⟩))))
  · have h1 := z.2
    rw [Int32.le_iff_toInt_le] at b h1
    rw [show (12 : Int32).toInt = 12 from rfl] at b
    rw [show (11 : Int32).toInt = 11 from rfl] at h1
    omega
  · rw [Int32.not_le, Int32.lt_iff_toInt_lt, show (12 : Int32).toInt = 12 from rfl] at b
    rw [Int32.le_iff_toInt_le, show (11 : Int32).toInt = 11 from rfl]
    omega
theorem isMask_e (p : Int32) : f_X4_isLetterMask p = some (if 0 ≤ p ∧ p ≤ 4095 then 1 else 0) := by
  refine rg_f ?_
  unfold f_X4_isLetterMask
  dsimp only [jn, u0, u1]
  refine ok_if (fun a => ok_gB (Or.inl rfl) (ok_s (Or.inr ⟨fun z => i_nlt.mpr z.1 a, rfl⟩))) (fun a => ok_if (fun b => ok_gB (Or.inl rfl) (ok_s (Or.inr ⟨fun z => ?_, rfl⟩))) (fun b => ok_gB (Or.inr rfl) (ok_s (Or.inl ⟨⟨i_nlt.mp a, ?_⟩, rfl⟩))))
  · have h1 := z.2
    rw [Int32.le_iff_toInt_le] at b h1
    rw [show (4096 : Int32).toInt = 4096 from rfl] at b
    rw [show (4095 : Int32).toInt = 4095 from rfl] at h1
    omega
  · rw [Int32.not_le, Int32.lt_iff_toInt_lt, show (4096 : Int32).toInt = 4096 from rfl] at b
    rw [Int32.le_iff_toInt_le, show (4095 : Int32).toInt = 4095 from rfl]
    omega
theorem isMould_e (p : Int32) : f_X4_isMouldOrNone p = some (if -1 ≤ p ∧ p ≤ 99 then 1 else 0) := by
  refine rg_f ?_
  unfold f_X4_isMouldOrNone
  dsimp only [jn, u0, u1]
  have em : (-1 : Int32).toInt = -1 := by decide
  refine ok_if (fun a => ok_gB (Or.inr rfl) (ok_s (Or.inl ⟨by subst a; decide, rfl⟩))) (fun a => ok_if (fun b => ok_gB (Or.inl rfl) (ok_s (Or.inr ⟨fun z => ?_, rfl⟩))) (fun b => ok_if (fun c => ok_gB (Or.inl rfl) (ok_s (Or.inr ⟨fun z => i_nlt.mpr z.2 c, rfl⟩))) (fun c => ok_gB (Or.inr rfl) (ok_s (Or.inl ⟨⟨?_, i_nlt.mp c⟩, rfl⟩)))))
  · have h1 := z.1
    apply a
    apply Int32.toInt_inj.mp
    rw [Int32.le_iff_toInt_le, em] at h1
    rw [Int32.lt_iff_toInt_lt, show (0 : Int32).toInt = 0 from rfl] at b
    rw [em]
    omega
  · exact Int32.le_trans (by decide) (i_nlt.mp b)
theorem isYear_e (p : Int32) : f_X4_isYear p = some (if 1450 ≤ p ∧ p ≤ 1999 then 1 else 0) := by
  refine rg_f ?_
  unfold f_X4_isYear
  dsimp only [jn, u0, u1]
  exact ok_if (fun a => ok_gB (Or.inl rfl) (ok_s (Or.inr ⟨fun z => i_nlt.mpr z.1 a, rfl⟩))) (fun a => ok_if (fun b => ok_gB (Or.inl rfl) (ok_s (Or.inr ⟨fun z => i_nlt.mpr z.2 b, rfl⟩))) (fun b => ok_gB (Or.inr rfl) (ok_s (Or.inl ⟨⟨i_nlt.mp a, i_nlt.mp b⟩, rfl⟩))))
theorem isYearN_e (p : Int32) : f_X4_isYearOrNone p = some (if p = -1 ∨ (1450 ≤ p ∧ p ≤ 1999) then 1 else 0) := by
  refine rg_f ?_
  unfold f_X4_isYearOrNone
  dsimp only [jn, u0, u1]
  refine ok_if (fun a => ok_gB (Or.inr rfl) (ok_s (Or.inl ⟨Or.inl a, rfl⟩))) (fun a => ok_be (isYear_e p) (ok_u1 ?_))
  by_cases q : 1450 ≤ p ∧ p ≤ 1999
  · rw [if_pos q]
    exact ok_f (by decide) (ok_gB (Or.inr rfl) (ok_s (Or.inl ⟨Or.inr q, rfl⟩)))
  · rw [if_neg q]
    refine ok_t rfl (ok_gB (Or.inl rfl) (ok_s (Or.inr ⟨fun z => ?_, rfl⟩)))
    rcases z with z | z
    · exact a z
    · exact q z
theorem isBook_e (p : Int32) (n : Nat) : f_X4_isBook p (nI n) = some (if 0 ≤ p ∧ p < nI n then 1 else 0) := by
  refine rg_f (f := fun p => f_X4_isBook p (nI n)) ?_
  unfold f_X4_isBook
  dsimp only [jn, u0, u1]
  exact ok_if (fun a => ok_gB (Or.inl rfl) (ok_s (Or.inr ⟨fun z => i_nlt.mpr z.1 a, rfl⟩))) (fun a => ok_if (fun b => ok_gB (Or.inl rfl) (ok_s (Or.inr ⟨fun z => i_nlt.mpr b z.2, rfl⟩))) (fun b => ok_gB (Or.inr rfl) (ok_s (Or.inl ⟨⟨i_nlt.mp a, Int32.not_le.mp b⟩, rfl⟩))))
theorem ifb (c : Prop) [Decidable c] : (if c then (1 : Int32) else 0) = 0 ∨ (if c then (1 : Int32) else 0) = 1 := by
  by_cases h : c
  · rw [if_pos h]; exact Or.inr rfl
  · rw [if_neg h]; exact Or.inl rfl
theorem gB_if {α : Type} {c : Prop} [Decidable c] {k : Option α} : gB (if c then (1 : Int32) else 0) k = k := by
  unfold gB
  rw [if_pos (ifb c)]
theorem mMould_e (p : Int32) : f_X5_isMould p = some (if -1 ≤ p ∧ p ≤ 99 then 1 else 0) := by
  unfold f_X5_isMould
  rw [f_in_e]
  show gB _ _ = _
  rw [gB_if]
theorem mLetter_e (p : Int32) : f_X5_isLetter p = some (if 0 ≤ p ∧ p ≤ 11 then 1 else 0) := by
  unfold f_X5_isLetter
  rw [f_in_e]
  show gB _ _ = _
  rw [gB_if]
theorem mYear_e (p : Int32) : f_X5_isYear p = some (if p = -1 ∨ (1450 ≤ p ∧ p ≤ 1999) then 1 else 0) := by
  refine rg_f ?_
  unfold f_X5_isYear
  dsimp only [jn, u0, u1]
  refine ok_if (fun a => ok_gB (Or.inr rfl) (ok_s (Or.inl ⟨Or.inl a, rfl⟩))) (fun a => ok_be f_in_e (ok_u1 ?_))
  by_cases q : 1450 ≤ p ∧ p ≤ 1999
  · rw [if_pos q]
    exact ok_f (by decide) (ok_gB (Or.inr rfl) (ok_s (Or.inl ⟨Or.inr q, rfl⟩)))
  · rw [if_neg q]
    refine ok_t rfl (ok_gB (Or.inl rfl) (ok_s (Or.inr ⟨fun z => ?_, rfl⟩)))
    rcases z with z | z
    · exact a z
    · exact q z
theorem mBook_e {s P L M Y : Nat → Int32} {n : Nat} (p : Int32) (hn : n ≤ 10) (h : rw4 s n P L M Y) : f_X5_isBook p s = some (if 0 ≤ p ∧ p < nI n then 1 else 0) := by
  refine rg_f (f := fun p => f_X5_isBook p s) ?_
  unfold f_X5_isBook
  refine rd40 h (ok_be f_in_e (ok_u1 (ok_gB (ifb _) (ok_s ?_))))
  have e : p ≤ nI n - 1 ↔ p < nI n := by
    rw [Int32.le_iff_toInt_le, Int32.lt_iff_toInt_lt, nI_toInt (by omega)]
    have : (nI n - 1).toInt = (n : Int) - 1 := pk_sub_toInt (b := 1) (by omega) (by omega)
    rw [this]
    omega
  by_cases q : 0 ≤ p ∧ p < nI n
  · exact Or.inl ⟨q, by rw [if_pos ⟨q.1, e.mpr q.2⟩]⟩
  · exact Or.inr ⟨q, by rw [if_neg (fun z => q ⟨z.1, e.mp z.2⟩)]⟩
theorem bk_of {p : Int32} {n : Nat} (hn : n ≤ 10) (h : 0 ≤ p ∧ p < nI n) : ∃ b, b < n ∧ p = nI b := by
  obtain ⟨b, hb, rfl⟩ := nI_of (i_nlt.mpr h.1)
  exact ⟨b, (nI_ltI hb (by omega)).mp h.2, rfl⟩
/-- a test of both -/
theorem ok_c1 {τ : Type} {c : Prop} [Decidable c] {x : Option Int32} {k : Int32 → Option τ} {R : τ → Prop} (hx : x = some (if c then 1 else 0)) (hc : c) (h : Ok (k 1) R) : Ok (x.bind (u1 k)) R := by
  rw [if_pos hc] at hx
  exact ok_be hx h
theorem ok_c0 {τ : Type} {c : Prop} [Decidable c] {x : Option Int32} {k : Int32 → Option τ} {R : τ → Prop} (hx : x = some (if c then 1 else 0)) (hc : ¬ c) (h : Ok (k 0) R) : Ok (x.bind (u1 k)) R := by
  rw [if_neg hc] at hx
  exact ok_be hx h
theorem ok_wrL {τ : Type} {f : Nat → Int64} {x : Int64} {k : (Nat → Int64) → Option τ} {R : τ → Prop} (h : Ok (k (vp_updL f 0 x)) R) : Ok ((wrL f 1 0 x).bind k) R := ok_be (a := vp_updL f 0 x) (by unfold wrL; rw [if_neg (by decide)]; rfl) h
theorem ok_fails {τ : Type} {k th : Int32} {K : Int32 → Int32 → Option τ} {R : τ → Prop} (h : Ok (K 0 k) R) : Ok ((f_X5_fails k th).bind (u2 K)) R := ok_be (a := (0, k)) rfl h
/-- the state of both -/
def stR (sN old hs kept : Int32) (P L M Y : Nat → Int32) (hN : Nat → Int32) (hP hL hM hY : Nat → Nat → Int32) (now past : Nat → Int32) (c any rs : Int32) (bef beh fy ly aB aH tab : Nat → Int32) : Prop :=
  ∃ n h, sN = nI n ∧ hs = nI h ∧ kept = nI h ∧ shR n P L M Y now ∧ hiR h hN hP hL hM hY past ∧ rsG (eB P L M Y) n Y old c any rs bef beh fy ly aB aH tab
theorem rsG_1 {E : Nat → Nat → Bool} {n : Nat} {Y : Nat → Int32} {c any rs : Int32} {bef beh fy ly aB aH tab : Nat → Int32} : rsG E n Y 1 c any rs bef beh fy ly aB aH tab := ⟨Or.inr rfl, fun z => absurd z (by decide)⟩
/-- answers of both: k as the class's call ended, th as the reference's -/
def anR (k : Int32) (out : Nat → Int64) (b th : Int32) : Prop := th = k ∧ (k = 0 → out 0 = b.toInt64)
theorem an_0 {out : Nat → Int64} {v b : Int32} (h : v = b) : anR 0 (vp_updL out 0 v.toInt64) b 0 := ⟨rfl, fun _ => by rw [pk_uLs, h]⟩
theorem n10 : (1 : Int32) ≠ 0 := by decide
theorem n20 : (2 : Int32) ≠ 0 := by decide
theorem an_k {k : Int32} {out : Nat → Int64} {b : Int32} (h : k ≠ 0) : anR k out b k := ⟨rfl, fun z => absurd z h⟩
/-! a book more -/
theorem add_e {n : Nat} {p l m y : Int32} {P L M Y : Nat → Int32} (h : n < 10) : f_X2_add p l m y (nI n) P L M Y = some (nI (n + 1), upd P n p, upd L n l, upd M n m, upd Y n y) := by
  have key : Ok (f_X2_add p l m y (nI n) P L M Y) (fun r => r = (nI (n + 1), upd P n p, upd L n l, upd M n m, upd Y n y)) := by
    unfold f_X2_add
    refine ok_t (nI_lt (b := 10) h (by omega)) (ok_wr n rfl h (by decide) (ok_wr n rfl h (by decide) (ok_wr n rfl h (by decide) (ok_wr n rfl h (by decide) (ok_s ?_)))))
    rw [nI_1]
  obtain ⟨r, h1, h2⟩ := key
  rw [h1, h2]
theorem comes_e {n : Nat} {p l m y : Int32} {s P L M Y : Nat → Int32} (h : n < 10) (hr : rw4 s n P L M Y) : Ok (f_X5_comes p l m y s) (fun o => o.1 = nI n ∧ rw4 o.2 (n + 1) (upd P n p) (upd L n l) (upd M n m) (upd Y n y)) := by
  unfold f_X5_comes
  refine rd40 hr (ok_wr (4 * n) (nI_4 n) (by omega) (by decide) (ok_wr (4 * n + 1) (nI_41 n) (by omega) (by decide) (ok_wr (4 * n + 2) (nI_42 n) (by omega) (by decide) (ok_wr (4 * n + 3) (nI_43 n) (by omega) (by decide) (ok_rd 40 rfl (by decide) (by decide) (ok_wr 40 rfl (by decide) (by decide) (ok_rd 40 rfl (by decide) (by decide) (ok_s ⟨?_, ?_, fun b hb => ?_⟩))))))))
  · dsimp only
    rw [pk_us, pk_un (by omega), pk_un (by omega), pk_un (by omega), pk_un (by omega), hr.1, nI_1, nI_pred]
  · dsimp only
    rw [pk_us, pk_un (by omega), pk_un (by omega), pk_un (by omega), pk_un (by omega), hr.1, nI_1]
  · dsimp only
    by_cases e : b = n
    · subst e
      refine ⟨?_, ?_, ?_, ?_⟩
      · rw [pk_un (by omega), pk_un (by omega), pk_un (by omega), pk_un (by omega), pk_us, pk_us]
      · rw [pk_un (by omega), pk_un (by omega), pk_un (by omega), pk_us, pk_us]
      · rw [pk_un (by omega), pk_un (by omega), pk_us, pk_us]
      · rw [pk_un (by omega), pk_us, pk_us]
    · have h2 := hr.2 b (by omega)
      refine ⟨?_, ?_, ?_, ?_⟩
      · rw [pk_un (by omega), pk_un (by omega), pk_un (by omega), pk_un (by omega), pk_un (by omega), pk_un e]; exact h2.1
      · rw [pk_un (by omega), pk_un (by omega), pk_un (by omega), pk_un (by omega), pk_un (by omega), pk_un e]; exact h2.2.1
      · rw [pk_un (by omega), pk_un (by omega), pk_un (by omega), pk_un (by omega), pk_un (by omega), pk_un e]; exact h2.2.2.1
      · rw [pk_un (by omega), pk_un (by omega), pk_un (by omega), pk_un (by omega), pk_un (by omega), pk_un e]; exact h2.2.2.2
theorem shR_add {n : Nat} {p l m y : Int32} {s t P L M Y : Nat → Int32} (h : n < 10) (hs : shR n P L M Y s) (hl : 0 ≤ l ∧ l ≤ 4095) (hm : -1 ≤ m) (hy : y = -1 ∨ (1450 ≤ y ∧ y ≤ 1999)) (ht : rw4 t (n + 1) (upd P n p) (upd L n l) (upd M n m) (upd Y n y)) : shR (n + 1) (upd P n p) (upd L n l) (upd M n m) (upd Y n y) t := by
  refine ⟨by omega, fun b hb => ?_, fun b hb => ?_, ht⟩
  · by_cases e : b = n
    · subst e
      rw [pk_us, pk_us]
      exact ⟨hm, hy⟩
    · rw [pk_un e, pk_un e]
      exact hs.2.1 b (by omega)
  · by_cases e : b = n
    · subst e
      rw [pk_us]
      exact hl
    · rw [pk_un e]
      exact hs.2.2.1 b (by omega)
section Face
variable {sN old hs kept c any rs th : Int32} {P L M Y hN now past bef beh fy ly aB aH tab : Nat → Int32} {hP hL hM hY : Nat → Nat → Int32} {out : Nat → Int64}
theorem t_book {p1 p2 p3 p4 : Int32} (h : stR sN old hs kept P L M Y hN hP hL hM hY now past c any rs bef beh fy ly aB aH tab) :
    Ok (f_L_book p1 p2 p3 p4 old sN P L M Y hs hN hP hL hM hY out) (fun o => Ok (f_X5_book p1 p2 p3 p4 kept th now past) (fun o' => anR o.1 o.2.2.2.2.2.2.2.2.2.2.2.2.2 o'.1 o'.2.2.1 ∧
      stR o.2.2.1 o.2.1 o.2.2.2.2.2.2.2.1 o'.2.1 o.2.2.2.1 o.2.2.2.2.1 o.2.2.2.2.2.1 o.2.2.2.2.2.2.1 o.2.2.2.2.2.2.2.2.1 o.2.2.2.2.2.2.2.2.2.1 o.2.2.2.2.2.2.2.2.2.2.1 o.2.2.2.2.2.2.2.2.2.2.2.1 o.2.2.2.2.2.2.2.2.2.2.2.2.1 o'.2.2.2.1 o'.2.2.2.2 c any rs bef beh fy ly aB aH tab)) := by
  obtain ⟨n, g, rfl, rfl, rfl, h1, h2, h3⟩ := h
  have hst : stR (nI n) old (nI g) (nI g) P L M Y hN hP hL hM hY now past c any rs bef beh fy ly aB aH tab := ⟨n, g, rfl, rfl, rfl, h1, h2, h3⟩
  unfold f_L_book f_X4_book f_X5_book
  by_cases c1n : ¬ (0 ≤ p1 ∧ p1 ≤ 2)
  · refine ok_bd (fun o => o = (Sum.inr "java/lang/IllegalArgumentException", old, nI n, P, L, M, Y, nI g, hN, hP, hL, hM, hY)) (ok_c0 (isPress_e p1) c1n (ok_jd (ok_t rfl (ok_u0 (ok_s rfl))))) ?_
    rintro _ rfl
    exact ok_u13 (ok_t rfl (ok_s (ok_c0 f_in_e c1n (ok_jd (ok_t rfl (ok_u0 (ok_fails (ok_s ⟨an_k n10, hst⟩))))))))
  have c1 : 0 ≤ p1 ∧ p1 ≤ 2 := Decidable.not_not.mp c1n
  by_cases c2n : ¬ (0 ≤ p2 ∧ p2 ≤ 4095)
  · refine ok_bd (fun o => o = (Sum.inr "java/lang/IllegalArgumentException", old, nI n, P, L, M, Y, nI g, hN, hP, hL, hM, hY)) (ok_c1 (isPress_e p1) c1 (ok_jd (ok_f (by decide) (ok_c0 (isMask_e p2) c2n (ok_t rfl (ok_u0 (ok_s rfl))))))) ?_
    rintro _ rfl
    exact ok_u13 (ok_t rfl (ok_s (ok_c1 f_in_e c1 (ok_jd (ok_f (by decide) (ok_c0 f_in_e c2n (ok_t rfl (ok_u0 (ok_fails (ok_s ⟨an_k n10, hst⟩))))))))))
  have c2 : 0 ≤ p2 ∧ p2 ≤ 4095 := Decidable.not_not.mp c2n
  by_cases c3n : ¬ (-1 ≤ p3 ∧ p3 ≤ 99)
  · refine ok_bd (fun o => o = (Sum.inr "java/lang/IllegalArgumentException", old, nI n, P, L, M, Y, nI g, hN, hP, hL, hM, hY)) (ok_c1 (isPress_e p1) c1 (ok_jd (ok_f (by decide) (ok_c1 (isMask_e p2) c2 (ok_f (by decide) (ok_c0 (isMould_e p3) c3n (ok_t rfl (ok_u0 (ok_s rfl))))))))) ?_
    rintro _ rfl
    exact ok_u13 (ok_t rfl (ok_s (ok_c1 f_in_e c1 (ok_jd (ok_f (by decide) (ok_c1 f_in_e c2 (ok_f (by decide) (ok_c0 (mMould_e p3) c3n (ok_t rfl (ok_u0 (ok_fails (ok_s ⟨an_k n10, hst⟩))))))))))))
  have c3 : -1 ≤ p3 ∧ p3 ≤ 99 := Decidable.not_not.mp c3n
  by_cases c4n : ¬ (p4 = -1 ∨ (1450 ≤ p4 ∧ p4 ≤ 1999))
  · refine ok_bd (fun o => o = (Sum.inr "java/lang/IllegalArgumentException", old, nI n, P, L, M, Y, nI g, hN, hP, hL, hM, hY)) (ok_c1 (isPress_e p1) c1 (ok_jd (ok_f (by decide) (ok_c1 (isMask_e p2) c2 (ok_f (by decide) (ok_c1 (isMould_e p3) c3 (ok_f (by decide) (ok_c0 (isYearN_e p4) c4n (ok_t rfl (ok_u0 (ok_s rfl))))))))))) ?_
    rintro _ rfl
    exact ok_u13 (ok_t rfl (ok_s (ok_c1 f_in_e c1 (ok_jd (ok_f (by decide) (ok_c1 f_in_e c2 (ok_f (by decide) (ok_c1 (mMould_e p3) c3 (ok_f (by decide) (ok_c0 (mYear_e p4) c4n (ok_t rfl (ok_u0 (ok_fails (ok_s ⟨an_k n10, hst⟩))))))))))))))
  have c4 : p4 = -1 ∨ (1450 ≤ p4 ∧ p4 ≤ 1999) := Decidable.not_not.mp c4n
  have hn10 := h1.1
  by_cases c5 : n = 10
  · subst c5
    refine ok_bd (fun o => o = (Sum.inr "java/lang/IllegalStateException", old, nI 10, P, L, M, Y, nI g, hN, hP, hL, hM, hY)) (ok_c1 (isPress_e p1) c1 (ok_jd (ok_f (by decide) (ok_c1 (isMask_e p2) c2 (ok_f (by decide) (ok_c1 (isMould_e p3) c3 (ok_f (by decide) (ok_c1 (isYearN_e p4) c4 (ok_f (by decide) (ok_f (by decide) (ok_s rfl)))))))))) ) ?_
    rintro _ rfl
    exact ok_u13 (ok_f (by decide) (ok_t rfl (ok_s (ok_c1 f_in_e c1 (ok_jd (ok_f (by decide) (ok_c1 f_in_e c2 (ok_f (by decide) (ok_c1 (mMould_e p3) c3 (ok_f (by decide) (ok_c1 (mYear_e p4) c4 (ok_f (by decide) (rd40 h1.2.2.2 (ok_t rfl (ok_fails (ok_s ⟨an_k n20, hst⟩))))))))))))))))
  · have hn : n < 10 := by omega
    refine ok_bd (fun o => ∃ p2' p3' p4' p5' p6' p7' : _, o = (Sum.inl (nI n), 1, nI (n + 1), upd P n p1, upd L n p2, upd M n p3, upd Y n p4, p2', p3', p4', p5', p6', p7') ∧ Ok (f_X5_saves (nI g) now past) (fun o' => ∃ h', p2' = nI h' ∧ o'.1 = nI h' ∧ hiR h' p3' p4' p5' p6' p7' o'.2)) (ok_c1 (isPress_e p1) c1 (ok_jd (ok_f (by decide) (ok_c1 (isMask_e p2) c2 (ok_f (by decide) (ok_c1 (isMould_e p3) c3 (ok_f (by decide) (ok_c1 (isYearN_e p4) c4 (ok_f (by decide) (ok_t (nI_lt (b := 10) hn (by omega)) (ok_bd _ (save2_e h1 h2) ?_))))))))))) ?_
    · rintro ⟨o7, o8, o9, o10, o11, o12, o13⟩ ⟨e1, hsv⟩
      dsimp only at e1
      subst e1
      refine ok_u7 (ok_be (add_e hn) (ok_u5 (ok_s ⟨o8, o9, o10, o11, o12, o13, ?_, hsv⟩)))
      rw [nI_pred]
    · rintro _ ⟨q2, q3, q4, q5, q6, q7, rfl, hsv⟩
      refine ok_u13 (ok_wrL (ok_s (ok_c1 f_in_e c1 (ok_jd (ok_f (by decide) (ok_c1 f_in_e c2 (ok_f (by decide) (ok_c1 (mMould_e p3) c3 (ok_f (by decide) (ok_c1 (mYear_e p4) c4 (ok_f (by decide) (rd40 h1.2.2.2 (ok_f (nI_ne (b := 10) c5 (by omega) (by omega)) (ok_bd _ hsv ?_))))))))))))))
      rintro ⟨k', past'⟩ ⟨h', e1, e2, h5⟩
      refine ok_u2 (ok_bd _ (comes_e hn h1.2.2.2) ?_)
      rintro ⟨r12, o13⟩ ⟨e3, h6⟩
      dsimp only at e3
      refine ok_u2 (ok_s ⟨an_0 e3.symm, n + 1, h', rfl, e1, e2, shR_add hn h1 c2 c3.1 c4 h6, h5, rsG_1⟩)
end Face
