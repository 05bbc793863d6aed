/-! the class's reader, a character at a time -/
def Cfg : Type := Int32 × Int32 × Int32 × Int32 × Int32 × Int32 × Int32 × Int32 × (Nat → Int32) × (Nat → Int32) × (Nat → Int32) × (Nat → Int32)
def mkC (pa q pr le mo ye sc sz : Int32) (p l m y : Nat → Int32) : Cfg := (pa, q, pr, le, mo, ye, sc, sz, p, l, m, y)
def stp (x : Int32) (c : Cfg) : Option (Int32 × Cfg) := f_X3_accepts x c.1 c.2.1 c.2.2.1 c.2.2.2.1 c.2.2.2.2.1 c.2.2.2.2.2.1 c.2.2.2.2.2.2.1 c.2.2.2.2.2.2.2.1 c.2.2.2.2.2.2.2.2.1 c.2.2.2.2.2.2.2.2.2.1 c.2.2.2.2.2.2.2.2.2.2.1 c.2.2.2.2.2.2.2.2.2.2.2
theorem ok_eq {τ : Type} {x : Option τ} {v : τ} (h : Ok x (fun o => o = v)) : x = some v := by
  obtain ⟨r, h1, h2⟩ := h
  rw [h1, h2]
theorem ok_ex {τ : Type} {x : Option (Int32 × τ)} (h : Ok x (fun o => o.1 = 0)) : ∃ c, x = some (0, c) := by
  obtain ⟨⟨r, c⟩, h1, h2⟩ := h
  dsimp only at h2
  subst h2
  exact ⟨c, h1⟩
theorem isDig_e (x : Int32) : f_X3_isDigit x = some (if 48 ≤ x ∧ x ≤ 57 then 1 else 0) := by
  refine rg_f ?_
  unfold f_X3_isDigit
  dsimp only [jn, u0, u1]
  exact ok_if (fun a => ok_gB (Or.inl rfl) (ok_s (Or.inr ⟨fun z => i_nlt.mpr z.1 a, rfl⟩))) (fun a => ok_if (fun b => ok_gB (Or.inl rfl) (ok_s (Or.inr ⟨fun z => i_nlt.mpr z.2 b, rfl⟩))) (fun b => ok_gB (Or.inr rfl) (ok_s (Or.inl ⟨⟨i_nlt.mp a, i_nlt.mp b⟩, rfl⟩))))
theorem rng_of {x : Int32} {lo hi : Nat} (hh : hi < 2 ^ 31) (h1 : nI lo ≤ x) (h2 : x ≤ nI hi) (hl : lo ≤ hi) : ∃ k, lo ≤ k ∧ k ≤ hi ∧ x = nI k := by
  obtain ⟨k, hk, rfl⟩ := nI_of (i_nlt.mpr (Int32.le_trans (nI_pos' (n := lo) (by omega)) h1))
  exact ⟨k, (nI_leI (by omega) hk).mp h1, (nI_leI hk hh).mp h2, rfl⟩
theorem dig_of {x : Int32} (h : 48 ≤ x ∧ x ≤ 57) : ∃ d, d ≤ 9 ∧ x = nI (48 + d) ∧ x - 48 = nI d := by
  obtain ⟨k, h1, h2, rfl⟩ := rng_of (lo := 48) (hi := 57) (by decide) h.1 h.2 (by omega)
  exact ⟨k - 48, by omega, by congr 1; omega, pk_sub (b := 48) h1⟩
theorem let_sub {x : Int32} : (0 ≤ x - 97 ∧ x - 97 ≤ 11) ↔ (97 ≤ x ∧ x ≤ 108) := by
  constructor
  · rintro ⟨h1, h2⟩
    obtain ⟨k, hk, e⟩ := w_cases 11 h1 h2 (by decide)
    have : x = nI (k + 97) := by
      have e2 : x - 97 + 97 = x := Int32.sub_add_cancel x 97
      rw [← e2, e]
      exact nI_add k 97
    subst this
    exact ⟨nI_le (a := 97) (by omega) (by omega), nI_le (b := 108) (by omega) (by omega)⟩
  · rintro ⟨h1, h2⟩
    obtain ⟨k, k1, k2, rfl⟩ := rng_of (lo := 97) (hi := 108) (by decide) h1 h2 (by omega)
    rw [show nI k - 97 = nI (k - 97) from pk_sub (b := 97) k1]
    exact ⟨nI_pos' (by omega), nI_le (b := 11) (by omega) (by omega)⟩
/-- a letter that may come behind those of the mask m -/
def isLt (m : Nat) (x : Int32) : Prop := ∃ k, k ≤ 11 ∧ x = nI (97 + k) ∧ m < 2 ^ k
theorem aL_1 {q : Int32} {m k : Nat} (hk : k ≤ 11) (hm : m < 2 ^ k) : f_X3_acceptsLetter (nI (97 + k)) q (nI m) = some (1, 2, nI (m ||| 2 ^ k)) := by
  apply ok_eq
  unfold f_X3_acceptsLetter
  have e : nI (97 + k) - 97 = nI k := by
    rw [show (97 : Int32) = nI 97 from rfl, pk_sub (by omega), Nat.add_sub_cancel_left]
  have h2 : 2 ^ k ≤ 2048 := Nat.pow_le_pow_right (by decide) hk
  rw [e]
  refine ok_c1 (isLetter_e (nI k)) ⟨nI_pos' (by omega), nI_le (b := 11) hk (by omega)⟩ (ok_jd (ok_f (by decide) ?_))
  rw [iN_shl k (by omega)]
  refine ok_t (nI_lt hm (by omega)) (ok_s ?_)
  rw [iN_or]
theorem aL_0 {q x : Int32} {m : Nat} (hm : m < 4096) (h : ¬ isLt m x) : f_X3_acceptsLetter x q (nI m) = some (0, q, nI m) := by
  apply ok_eq
  unfold f_X3_acceptsLetter
  by_cases c : 0 ≤ x - 97 ∧ x - 97 ≤ 11
  · obtain ⟨k, k1, k2, rfl⟩ := rng_of (lo := 97) (hi := 108) (by decide) (let_sub.mp c).1 (let_sub.mp c).2 (by omega)
    have e : nI k - 97 = nI (k - 97) := pk_sub (b := 97) k1
    have h2 : 2 ^ (k - 97) ≤ 2048 := Nat.pow_le_pow_right (by decide) (show k - 97 ≤ 11 by omega)
    refine ok_c1 (isLetter_e _) c (ok_jd (ok_f (by decide) ?_))
    rw [e, iN_shl (k - 97) (by omega)]
    refine ok_f (nI_nlt ?_ (by omega)) (ok_u0 (ok_s rfl))
    rcases Nat.lt_or_ge m (2 ^ (k - 97)) with z | z
    · exact absurd ⟨k - 97, by omega, by congr 1; omega, z⟩ h
    · exact z
  · exact ok_c0 (isLetter_e _) c (ok_jd (ok_t rfl (ok_u0 (ok_s rfl))))
/-- what a book's end lays on the found ones -/
def endC (pa pr le mo ye sc : Int32) (z : Nat) (p l m y : Nat → Int32) : Cfg := if z < 10 then mkC pa 0 pr le mo ye sc (nI (z + 1)) (upd p z pr) (upd l z le) (upd m z mo) (upd y z ye) else mkC pa 0 pr le mo ye sc (nI z) p l m y
section Reader
variable {x pa pr le mo ye sc sz : Int32} {p l m y : Nat → Int32} {z : Nat}
theorem pE_1 {q : Int32} (hz : z ≤ 10) : Ok (f_X3_acceptsPartEnd 59 q pr le mo ye (nI z) p l m y) (fun o => o.1 = 1 ∧ ∀ pa sc : Int32, mkC pa o.2.1 pr le mo ye sc o.2.2.1 o.2.2.2.1 o.2.2.2.2.1 o.2.2.2.2.2.1 o.2.2.2.2.2.2 = endC pa pr le mo ye sc z p l m y) := by
  unfold f_X3_acceptsPartEnd f_X3_endPart
  refine ok_t rfl ?_
  by_cases q : z < 10
  · refine ok_bd (fun o => o = (nI (z + 1), upd p z pr, upd l z le, upd m z mo, upd y z ye)) (ok_be (add_e q) (ok_u5 (ok_s rfl))) ?_
    rintro _ rfl
    exact ok_u5 (ok_s ⟨rfl, fun pa sc => by rw [endC, if_pos q]⟩)
  · have e : z = 10 := by omega
    subst e
    refine ok_bd (fun o => o = (nI 10, p, l, m, y)) (ok_be (a := (nI 10, p, l, m, y)) ?_ (ok_u5 (ok_s rfl))) ?_
    · unfold f_X2_add
      rw [if_neg (by decide)]
    · rintro _ rfl
      exact ok_u5 (ok_s ⟨rfl, fun pa sc => by rw [endC, if_neg (by decide)]⟩)
theorem pE_0 {q : Int32} (h : x ≠ 59) : f_X3_acceptsPartEnd x q pr le mo ye sz p l m y = some (0, q, sz, p, l, m, y) := by
  unfold f_X3_acceptsPartEnd
  rw [if_neg h]
theorem fY_y {q : Int32} : f_X3_acceptsFromYear 121 q pr le mo ye sc sz p l m y = some (1, 7, 0, 1000, sz, p, l, m, y) := by
  unfold f_X3_acceptsFromYear
  rw [if_pos rfl]
theorem fY_e {q : Int32} (hz : z ≤ 10) : Ok (f_X3_acceptsFromYear 59 q pr le mo ye sc (nI z) p l m y) (fun o => o.1 = 1 ∧ ∀ pa : Int32, mkC pa o.2.1 pr le mo o.2.2.1 o.2.2.2.1 o.2.2.2.2.1 o.2.2.2.2.2.1 o.2.2.2.2.2.2.1 o.2.2.2.2.2.2.2.1 o.2.2.2.2.2.2.2.2 = endC pa pr le mo ye sc z p l m y) := by
  unfold f_X3_acceptsFromYear
  refine ok_f (by decide) (ok_bd _ (pE_1 hz) ?_)
  rintro ⟨r1, o2, o3, o4, o5, o6, o7⟩ ⟨e1, e2⟩
  dsimp only at e1 e2
  subst e1
  exact ok_u7 (ok_gB (Or.inr rfl) (ok_s ⟨rfl, fun pa => e2 pa sc⟩))
theorem fY_0 {q : Int32} (h1 : x ≠ 121) (h2 : x ≠ 59) : f_X3_acceptsFromYear x q pr le mo ye sc sz p l m y = some (0, q, ye, sc, sz, p, l, m, y) := by
  unfold f_X3_acceptsFromYear
  rw [if_neg h1, pE_0 h2]
  rfl
theorem ok_st {v : Int32 × Cfg} {c : Cfg} (h : Ok (stp x c) (fun o => o = v)) : stp x c = some v := ok_eq h
theorem stp_mk {x pa q pr le mo ye sc sz : Int32} {p l m y : Nat → Int32} : stp x (mkC pa q pr le mo ye sc sz p l m y) = f_X3_accepts x pa q pr le mo ye sc sz p l m y := rfl
/-! state by state -/
theorem s0_1 (h : 48 ≤ x ∧ x ≤ 50) : stp x (mkC pa 0 pr le mo ye sc sz p l m y) = some (1, mkC (pa + 1) 1 (x - 48) 0 (-1) (-1) sc sz p l m y) := by
  apply ok_eq
  rw [stp_mk]
  unfold f_X3_accepts f_X3_acceptsPress
  have hd : 48 ≤ x ∧ x ≤ 57 := ⟨h.1, Int32.le_trans h.2 (by decide)⟩
  obtain ⟨k, k1, k2, rfl⟩ := rng_of (lo := 48) (hi := 50) (by decide) h.1 h.2 (by omega)
  have e : nI k - 48 = nI (k - 48) := pk_sub (b := 48) k1
  refine ok_f (by decide) (ok_t rfl (ok_bd (fun o => o = (1, pa + 1, 1, nI k - 48, 0, -1, -1)) (ok_c1 (isDig_e _) hd (ok_jd (ok_f (by decide) (ok_c1 (isPress_e _) ?_ (ok_f (by decide) (ok_s rfl)))))) ?_))
  · rw [e]
    exact ⟨nI_pos' (by omega), nI_le (b := 2) (by omega) (by omega)⟩
  · rintro _ rfl
    exact ok_u7 (ok_gB (Or.inr rfl) (ok_s rfl))
theorem s0_0 (h : ¬ (48 ≤ x ∧ x ≤ 50)) : ∃ c, stp x (mkC pa 0 pr le mo ye sc sz p l m y) = some (0, c) := by
  apply ok_ex
  rw [stp_mk]
  unfold f_X3_accepts f_X3_acceptsPress
  refine ok_f (by decide) (ok_t rfl (ok_bd (fun o => o.1 = 0) ?_ ?_))
  · by_cases hd : 48 ≤ x ∧ x ≤ 57
    · refine ok_c1 (isDig_e _) hd (ok_jd (ok_f (by decide) (ok_c0 (isPress_e _) ?_ (ok_t rfl (ok_u0 (ok_s rfl))))))
      obtain ⟨d, h1, h2, h3⟩ := dig_of hd
      rw [h3]
      rintro ⟨-, h4⟩
      have := (nI_leI (b := 2) (by omega) (by omega)).mp h4
      apply h
      rw [h2]
      exact ⟨nI_le (a := 48) (by omega) (by omega), nI_le (b := 50) (by omega) (by omega)⟩
    · exact ok_c0 (isDig_e _) hd (ok_jd (ok_t rfl (ok_u0 (ok_s rfl))))
  · rintro ⟨r, o9, o10, o11, o12, o13, o14⟩ e
    dsimp only at e
    subst e
    exact ok_u7 (ok_gB (Or.inl rfl) (ok_s rfl))
theorem s1_d : stp 45 (mkC pa 1 pr le mo ye sc sz p l m y) = some (1, mkC pa 3 pr le mo ye sc sz p l m y) := by
  apply ok_eq
  rw [stp_mk]
  unfold f_X3_accepts f_X3_acceptsNoLetter
  exact ok_f (by decide) (ok_f (by decide) (ok_t rfl (ok_be (if_pos rfl) (ok_u2 (ok_jd (ok_jd (ok_f (by decide) (ok_u2 (ok_u3 (ok_gB (Or.inr rfl) (ok_s rfl)))))))))))
theorem s1_l {k : Nat} (hk : k ≤ 11) : stp (nI (97 + k)) (mkC pa 1 pr 0 mo ye sc sz p l m y) = some (1, mkC pa 2 pr (nI (2 ^ k)) mo ye sc sz p l m y) := by
  apply ok_eq
  rw [stp_mk]
  unfold f_X3_accepts f_X3_acceptsNoLetter
  have e := aL_1 (q := 1) (m := 0) hk (Nat.two_pow_pos k)
  rw [Nat.zero_or] at e
  exact ok_f (by decide) (ok_f (by decide) (ok_t rfl (ok_be (if_neg (nI_ne (b := 45) (by omega) (by omega) (by omega))) (ok_u2 (ok_jd (ok_jd (ok_t rfl (ok_be e (ok_u3 (ok_f (by decide) (ok_u2 (ok_u3 (ok_gB (Or.inr rfl) (ok_s rfl))))))))))))))
theorem s1_0 (h1 : x ≠ 45) (h2 : ¬ (97 ≤ x ∧ x ≤ 108)) : ∃ c, stp x (mkC pa 1 pr 0 mo ye sc sz p l m y) = some (0, c) := by
  apply ok_ex
  rw [stp_mk]
  unfold f_X3_accepts f_X3_acceptsNoLetter
  have e := aL_0 (q := 1) (x := x) (m := 0) (by decide) (fun ⟨k, hk, e, _⟩ => h2 (by
    rw [e]
    exact ⟨nI_le (a := 97) (by omega) (by omega), nI_le (b := 108) (by omega) (by omega)⟩))
  exact ok_f (by decide) (ok_f (by decide) (ok_t rfl (ok_be (if_neg h1) (ok_u2 (ok_jd (ok_jd (ok_t rfl (ok_be e (ok_u3 (ok_t rfl (ok_u3 (ok_gB (Or.inl rfl) (ok_s rfl)))))))))))))
theorem s2_l {k w : Nat} (hk : k ≤ 11) (hw : w < 2 ^ k) : stp (nI (97 + k)) (mkC pa 2 pr (nI w) mo ye sc sz p l m y) = some (1, mkC pa 2 pr (nI (w ||| 2 ^ k)) mo ye sc sz p l m y) := by
  apply ok_eq
  rw [stp_mk]
  unfold f_X3_accepts
  exact ok_f (by decide) (ok_f (by decide) (ok_f (by decide) (ok_t rfl (ok_be (aL_1 hk hw) (ok_u3 (ok_jd (ok_jd (ok_f (by decide) (ok_u9 (ok_u10 (ok_gB (Or.inr rfl) (ok_s rfl))))))))))))
theorem s23_m {q : Int32} {w : Nat} (hw : w < 4096) (hq : q = 2 ∨ q = 3) : stp 109 (mkC pa q pr (nI w) mo ye sc sz p l m y) = some (1, mkC pa 4 pr (nI w) 0 ye sc sz p l m y) := by
  apply ok_eq
  rw [stp_mk]
  unfold f_X3_accepts f_X3_acceptsMouldSign
  rcases hq with rfl | rfl
  · have e := aL_0 (q := 2) (x := 109) (m := w) hw (fun ⟨k, hk, e, _⟩ => absurd e (nI_ne (a := 109) (by omega) (by omega) (by omega)))
    exact ok_f (by decide) (ok_f (by decide) (ok_f (by decide) (ok_t rfl (ok_be e (ok_u3 (ok_jd (ok_jd (ok_t rfl (ok_be (if_pos rfl) (ok_u3 (ok_f (by decide) (ok_u9 (ok_u10 (ok_gB (Or.inr rfl) (ok_s rfl)))))))))))))))
  · exact ok_f (by decide) (ok_f (by decide) (ok_f (by decide) (ok_f (by decide) (ok_t rfl (ok_be (if_pos rfl) (ok_u3 (ok_jd (ok_jd (ok_f (by decide) (ok_u8 (ok_u9 (ok_gB (Or.inr rfl) (ok_s rfl)))))))))))))
/-- behind letters, or a mould: where no other letter, sign or digit comes -/
def tlS (q : Int32) (w : Nat) (x : Int32) : Prop := (q = 2 ∧ ¬ isLt w x ∧ x ≠ 109) ∨ (q = 3 ∧ x ≠ 109) ∨ (q = 5 ∧ ¬ (48 ≤ x ∧ x ≤ 57)) ∨ q = 6
theorem mD_0 {q : Int32} (h : ¬ (48 ≤ x ∧ x ≤ 57)) : f_X3_acceptsMouldDigit x q mo = some (0, q, mo) := by
  apply ok_eq
  unfold f_X3_acceptsMouldDigit
  exact ok_c0 (isDig_e _) h (ok_t rfl (ok_s rfl))
theorem tl_y {q : Int32} {w : Nat} (hw : w < 4096) (h : tlS q w 121) : stp 121 (mkC pa q pr (nI w) mo ye sc sz p l m y) = some (1, mkC pa 7 pr (nI w) mo 0 1000 sz p l m y) := by
  apply ok_eq
  rw [stp_mk]
  unfold f_X3_accepts f_X3_acceptsMouldSign
  rcases h with ⟨rfl, h1, h2⟩ | ⟨rfl, h2⟩ | ⟨rfl, h1⟩ | rfl
  · exact ok_f (by decide) (ok_f (by decide) (ok_f (by decide) (ok_t rfl (ok_be (aL_0 hw h1) (ok_u3 (ok_jd (ok_jd (ok_t rfl (ok_be (if_neg h2) (ok_u3 (ok_t rfl (ok_be fY_y (ok_u9 (ok_f (by decide) (ok_u9 (ok_u10 (ok_gB (Or.inr rfl) (ok_s rfl))))))))))))))))))
  · exact ok_f (by decide) (ok_f (by decide) (ok_f (by decide) (ok_f (by decide) (ok_t rfl (ok_be (if_neg h2) (ok_u3 (ok_jd (ok_jd (ok_t rfl (ok_be fY_y (ok_u9 (ok_f (by decide) (ok_u8 (ok_u9 (ok_gB (Or.inr rfl) (ok_s rfl))))))))))))))))
  · exact ok_f (by decide) (ok_f (by decide) (ok_f (by decide) (ok_f (by decide) (ok_f (by decide) (ok_f (by decide) (ok_t rfl (ok_be (mD_0 h1) (ok_u3 (ok_jd (ok_jd (ok_t rfl (ok_be fY_y (ok_u9 (ok_f (by decide) (ok_u8 (ok_u9 (ok_gB (Or.inr rfl) (ok_s rfl))))))))))))))))))
  · exact ok_f (by decide) (ok_f (by decide) (ok_f (by decide) (ok_f (by decide) (ok_f (by decide) (ok_f (by decide) (ok_f (by decide) (ok_t rfl (ok_be fY_y (ok_u9 (ok_gB (Or.inr rfl) (ok_s rfl)))))))))))
theorem tl_e {q : Int32} {w : Nat} (hw : w < 4096) (hz : z ≤ 10) (h : tlS q w 59) : stp 59 (mkC pa q pr (nI w) mo ye sc (nI z) p l m y) = some (1, endC pa pr (nI w) mo ye sc z p l m y) := by
  apply ok_eq
  rw [stp_mk]
  unfold f_X3_accepts f_X3_acceptsMouldSign
  rcases h with ⟨rfl, h1, h2⟩ | ⟨rfl, h2⟩ | ⟨rfl, h1⟩ | rfl
  · refine ok_f (by decide) (ok_f (by decide) (ok_f (by decide) (ok_t rfl (ok_be (aL_0 hw h1) (ok_u3 (ok_jd (ok_jd (ok_t rfl (ok_be (if_neg h2) (ok_u3 (ok_t rfl (ok_bd _ (fY_e hz) ?_))))))))))))
    rintro ⟨r, o1, o2, o3, o4, o5, o6, o7, o8⟩ ⟨e1, e2⟩
    dsimp only at e1 e2
    subst e1
    exact ok_u9 (ok_f (by decide) (ok_u9 (ok_u10 (ok_gB (Or.inr rfl) (ok_s (by rw [← e2 pa]; rfl))))))
  · refine ok_f (by decide) (ok_f (by decide) (ok_f (by decide) (ok_f (by decide) (ok_t rfl (ok_be (if_neg h2) (ok_u3 (ok_jd (ok_jd (ok_t rfl (ok_bd _ (fY_e hz) ?_))))))))))
    rintro ⟨r, o1, o2, o3, o4, o5, o6, o7, o8⟩ ⟨e1, e2⟩
    dsimp only at e1 e2
    subst e1
    exact ok_u9 (ok_f (by decide) (ok_u8 (ok_u9 (ok_gB (Or.inr rfl) (ok_s (by rw [← e2 pa]; rfl))))))
  · refine ok_f (by decide) (ok_f (by decide) (ok_f (by decide) (ok_f (by decide) (ok_f (by decide) (ok_f (by decide) (ok_t rfl (ok_be (mD_0 h1) (ok_u3 (ok_jd (ok_jd (ok_t rfl (ok_bd _ (fY_e hz) ?_))))))))))))
    rintro ⟨r, o1, o2, o3, o4, o5, o6, o7, o8⟩ ⟨e1, e2⟩
    dsimp only at e1 e2
    subst e1
    exact ok_u9 (ok_f (by decide) (ok_u8 (ok_u9 (ok_gB (Or.inr rfl) (ok_s (by rw [← e2 pa]; rfl))))))
  · refine ok_f (by decide) (ok_f (by decide) (ok_f (by decide) (ok_f (by decide) (ok_f (by decide) (ok_f (by decide) (ok_f (by decide) (ok_t rfl (ok_bd _ (fY_e hz) ?_))))))))
    rintro ⟨r, o1, o2, o3, o4, o5, o6, o7, o8⟩ ⟨e1, e2⟩
    dsimp only at e1 e2
    subst e1
    exact ok_u9 (ok_gB (Or.inr rfl) (ok_s (by rw [← e2 pa]; rfl)))
theorem tl_0 {q : Int32} {w : Nat} (hw : w < 4096) (hy : x ≠ 121) (he : x ≠ 59) (h : tlS q w x) : ∃ c, stp x (mkC pa q pr (nI w) mo ye sc sz p l m y) = some (0, c) := by
  apply ok_ex
  rw [stp_mk]
  unfold f_X3_accepts f_X3_acceptsMouldSign
  rcases h with ⟨rfl, h1, h2⟩ | ⟨rfl, h2⟩ | ⟨rfl, h1⟩ | rfl
  · exact ok_f (by decide) (ok_f (by decide) (ok_f (by decide) (ok_t rfl (ok_be (aL_0 hw h1) (ok_u3 (ok_jd (ok_jd (ok_t rfl (ok_be (if_neg h2) (ok_u3 (ok_t rfl (ok_be (fY_0 hy he) (ok_u9 (ok_t rfl (ok_u10 (ok_gB (Or.inl rfl) (ok_s rfl)))))))))))))))))
  · exact ok_f (by decide) (ok_f (by decide) (ok_f (by decide) (ok_f (by decide) (ok_t rfl (ok_be (if_neg h2) (ok_u3 (ok_jd (ok_jd (ok_t rfl (ok_be (fY_0 hy he) (ok_u9 (ok_t rfl (ok_u9 (ok_gB (Or.inl rfl) (ok_s rfl)))))))))))))))
  · exact ok_f (by decide) (ok_f (by decide) (ok_f (by decide) (ok_f (by decide) (ok_f (by decide) (ok_f (by decide) (ok_t rfl (ok_be (mD_0 h1) (ok_u3 (ok_jd (ok_jd (ok_t rfl (ok_be (fY_0 hy he) (ok_u9 (ok_t rfl (ok_u9 (ok_gB (Or.inl rfl) (ok_s rfl)))))))))))))))))
  · exact ok_f (by decide) (ok_f (by decide) (ok_f (by decide) (ok_f (by decide) (ok_f (by decide) (ok_f (by decide) (ok_f (by decide) (ok_t rfl (ok_be (fY_0 hy he) (ok_u9 (ok_gB (Or.inl rfl) (ok_s rfl)))))))))))
/-! moulds -/
theorem mD_1 {d : Nat} (hd : d ≤ 9) : f_X3_acceptsMouldDigit (nI (48 + d)) 4 0 = some (1, (if d = 0 then 6 else 5), nI d) := by
  apply ok_eq
  unfold f_X3_acceptsMouldDigit
  have hr : 48 ≤ nI (48 + d) ∧ nI (48 + d) ≤ 57 := ⟨nI_le (a := 48) (by omega) (by omega), nI_le (b := 57) (by omega) (by omega)⟩
  have e : (10 : Int32) * 0 + (nI (48 + d) - 48) = nI d := by
    rw [show nI (48 + d) - 48 = nI (48 + d - 48) from pk_sub (b := 48) (by omega), Nat.add_sub_cancel_left]
    exact Int32.zero_add _
  refine ok_c1 (isDig_e _) hr (ok_f (by decide) (ok_jd (ok_jd (ok_t rfl ?_))))
  rw [e]
  by_cases q : d = 0
  · subst q
    exact ok_t (Int32.le_refl _) (ok_u0 (ok_u1 (ok_s rfl)))
  · refine ok_f (nI_nle (by omega) (by omega)) (ok_u1 (ok_s ?_))
    rw [if_neg q]
theorem mD_2 {a d : Nat} (ha : a ≤ 9) (hd : d ≤ 9) : f_X3_acceptsMouldDigit (nI (48 + d)) 5 (nI a) = some (1, 6, nI (10 * a + d)) := by
  apply ok_eq
  unfold f_X3_acceptsMouldDigit
  have hr : 48 ≤ nI (48 + d) ∧ nI (48 + d) ≤ 57 := ⟨nI_le (a := 48) (by omega) (by omega), nI_le (b := 57) (by omega) (by omega)⟩
  have e : (10 : Int32) * nI a + (nI (48 + d) - 48) = nI (10 * a + d) := by
    rw [show nI (48 + d) - 48 = nI (48 + d - 48) from pk_sub (b := 48) (by omega), Nat.add_sub_cancel_left, show (10 : Int32) = nI 10 from rfl, pk_mul, nI_add]
  refine ok_c1 (isDig_e _) hr (ok_f (by decide) (ok_jd (ok_jd (ok_f (by decide) (ok_u0 (ok_u1 (ok_s ?_)))))))
  rw [e]
theorem s4_d {d : Nat} (hd : d ≤ 9) : stp (nI (48 + d)) (mkC pa 4 pr le 0 ye sc sz p l m y) = some (1, mkC pa (if d = 0 then 6 else 5) pr le (nI d) ye sc sz p l m y) := by
  apply ok_eq
  rw [stp_mk]
  unfold f_X3_accepts
  exact ok_f (by decide) (ok_f (by decide) (ok_f (by decide) (ok_f (by decide) (ok_f (by decide) (ok_t rfl (ok_be (mD_1 hd) (ok_u3 (ok_gB (Or.inr rfl) (ok_s rfl)))))))))
theorem s4_0 (h : ¬ (48 ≤ x ∧ x ≤ 57)) : ∃ c, stp x (mkC pa 4 pr le mo ye sc sz p l m y) = some (0, c) := by
  apply ok_ex
  rw [stp_mk]
  unfold f_X3_accepts
  exact ok_f (by decide) (ok_f (by decide) (ok_f (by decide) (ok_f (by decide) (ok_f (by decide) (ok_t rfl (ok_be (mD_0 h) (ok_u3 (ok_gB (Or.inl rfl) (ok_s rfl)))))))))
theorem s5_d {a d : Nat} (ha : a ≤ 9) (hd : d ≤ 9) : stp (nI (48 + d)) (mkC pa 5 pr le (nI a) ye sc sz p l m y) = some (1, mkC pa 6 pr le (nI (10 * a + d)) ye sc sz p l m y) := by
  apply ok_eq
  rw [stp_mk]
  unfold f_X3_accepts
  exact ok_f (by decide) (ok_f (by decide) (ok_f (by decide) (ok_f (by decide) (ok_f (by decide) (ok_f (by decide) (ok_t rfl (ok_be (mD_2 ha hd) (ok_u3 (ok_jd (ok_jd (ok_f (by decide) (ok_u8 (ok_u9 (ok_gB (Or.inr rfl) (ok_s rfl)))))))))))))))
/-! years -/
/-- the digits that may come: k digits are there, of the value v -/
def yLo (k v : Nat) : Nat := if k = 0 then 1 else if k = 1 then 4 else if k = 2 ∧ v = 14 then 5 else 0
def yHi (k : Nat) : Nat := if k = 0 then 1 else 9
def yVal (k v : Nat) : Prop := (k = 0 ∧ v = 0) ∨ (k = 1 ∧ v = 1) ∨ (k = 2 ∧ 14 ≤ v ∧ v ≤ 19) ∨ (k = 3 ∧ 145 ≤ v ∧ v ≤ 199)
def ySc (k : Nat) : Nat := if k = 0 then 1000 else if k = 1 then 100 else if k = 2 then 10 else 1
def yDp (k v d : Nat) : Prop := f_X3_acceptsYearDigit (nI (48 + d)) 7 (nI v) (nI (ySc k)) = (if yLo k v ≤ d ∧ d ≤ yHi k then some (1, (if k = 3 then 8 else 7), nI (10 * v + d), nI (ySc k / 10)) else some (0, 7, nI v, nI (ySc k)))
def yDc (k v d : Nat) : Bool := (f_X3_acceptsYearDigit (nI (48 + d)) 7 (nI v) (nI (ySc k)) == (if yLo k v ≤ d ∧ d ≤ yHi k then some (1, (if k = 3 then 8 else 7), nI (10 * v + d), nI (ySc k / 10)) else some (0, 7, nI v, nI (ySc k))))
theorem yDc_0 : ∀ d, d < 10 → yDc 0 0 d = true := by decide +kernel
theorem yDc_1 : ∀ d, d < 10 → yDc 1 1 d = true := by decide +kernel
theorem yDc_2 : ∀ i, i < 6 → ∀ d, d < 10 → yDc 2 (14 + i) d = true := by decide +kernel
theorem yDc_3 : ∀ i, i < 55 → ∀ d, d < 10 → yDc 3 (145 + i) d = true := by decide +kernel
theorem yD_1 {v k d : Nat} (hd : d < 10) (h : yVal k v) : yDp k v d := by
  have key : yDc k v d = true := by
    rcases h with ⟨rfl, rfl⟩ | ⟨rfl, rfl⟩ | ⟨rfl, h1, h2⟩ | ⟨rfl, h1, h2⟩
    · exact yDc_0 d hd
    · exact yDc_1 d hd
    · have := yDc_2 (v - 14) (by omega) d hd
      rw [show 14 + (v - 14) = v by omega] at this
      exact this
    · have := yDc_3 (v - 145) (by omega) d hd
      rw [show 145 + (v - 145) = v by omega] at this
      exact this
  unfold yDc at key
  exact eq_of_beq key
theorem yD_0 {q : Int32} (h : ¬ (48 ≤ x ∧ x ≤ 57)) : f_X3_acceptsYearDigit x q ye sc = some (0, q, ye, sc) := by
  apply ok_eq
  unfold f_X3_acceptsYearDigit
  exact ok_c0 (isDig_e _) h (ok_t rfl (ok_s rfl))
theorem s7_d {k v d : Nat} (hk : k < 4) (hv : yVal k v) (hd : d ≤ 9) (h : yLo k v ≤ d ∧ d ≤ yHi k) : stp (nI (48 + d)) (mkC pa 7 pr le mo (nI v) (nI (ySc k)) sz p l m y) = some (1, mkC pa (if k = 3 then 8 else 7) pr le mo (nI (10 * v + d)) (nI (ySc k / 10)) sz p l m y) := by
  apply ok_eq
  have e := yD_1 (d := d) (by omega) hv
  unfold yDp at e
  rw [if_pos h] at e
  rw [stp_mk]
  unfold f_X3_accepts
  exact ok_f (by decide) (ok_f (by decide) (ok_f (by decide) (ok_f (by decide) (ok_f (by decide) (ok_f (by decide) (ok_f (by decide) (ok_f (by decide) (ok_t rfl (ok_be e (ok_u4 (ok_gB (Or.inr rfl) (ok_s rfl))))))))))))
theorem s7_0 {k v : Nat} (hk : k < 4) (hv : yVal k v) (h : ¬ (nI (48 + yLo k v) ≤ x ∧ x ≤ nI (48 + yHi k))) : ∃ c, stp x (mkC pa 7 pr le mo (nI v) (nI (ySc k)) sz p l m y) = some (0, c) := by
  apply ok_ex
  have e : ∃ a b c, f_X3_acceptsYearDigit x 7 (nI v) (nI (ySc k)) = some (0, a, b, c) := by
    by_cases hd : 48 ≤ x ∧ x ≤ 57
    · obtain ⟨d, h1, rfl, -⟩ := dig_of hd
      have e := yD_1 (d := d) (by omega) hv
      unfold yDp at e
      rw [if_neg (fun z => h ⟨nI_le (by omega) (by omega), nI_le (by omega) (by unfold yHi; split <;> omega)⟩)] at e
      exact ⟨_, _, _, e⟩
    · exact ⟨_, _, _, yD_0 hd⟩
  obtain ⟨a, b, c, e⟩ := e
  rw [stp_mk]
  unfold f_X3_accepts
  exact ok_f (by decide) (ok_f (by decide) (ok_f (by decide) (ok_f (by decide) (ok_f (by decide) (ok_f (by decide) (ok_f (by decide) (ok_f (by decide) (ok_t rfl (ok_be e (ok_u4 (ok_gB (Or.inl rfl) (ok_s rfl))))))))))))
theorem s8_e (hz : z ≤ 10) : stp 59 (mkC pa 8 pr le mo ye sc (nI z) p l m y) = some (1, endC pa pr le mo ye sc z p l m y) := by
  apply ok_eq
  rw [stp_mk]
  unfold f_X3_accepts
  refine ok_t (by decide) (ok_bd _ (pE_1 hz) ?_)
  rintro ⟨r, o1, o2, o3, o4, o5, o6⟩ ⟨e1, e2⟩
  dsimp only at e1 e2
  subst e1
  exact ok_u7 (ok_gB (Or.inr rfl) (ok_s (by rw [← e2 pa sc]; rfl)))
theorem s8_0 (he : x ≠ 59) : ∃ c, stp x (mkC pa 8 pr le mo ye sc sz p l m y) = some (0, c) := by
  apply ok_ex
  rw [stp_mk]
  unfold f_X3_accepts
  exact ok_t (by decide) (ok_be (pE_0 he) (ok_u7 (ok_gB (Or.inl rfl) (ok_s rfl))))
end Reader
