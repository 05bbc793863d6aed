/-! ranges -/
theorem rg_f {c : Prop} [Decidable c] {f : Int32 → Option Int32} {p : Int32} (h : Ok (f p) (fun r => (c ∧ r = 1) ∨ (¬ c ∧ r = 0))) : f p = some (if c then 1 else 0) := by
  obtain ⟨r, h1, h2⟩ := h
  rw [h1]
  rcases h2 with ⟨a, rfl⟩ | ⟨a, rfl⟩
  · rw [if_pos a]
  · rw [if_neg a]
theorem i_nlt {x y : Int32} : ¬ x < y ↔ y ≤ x := Int32.not_lt
theorem isPress_e (p : Int32) : f_X4_isPress p = some (if 0 ≤ p ∧ p ≤ 2 then 1 else 0) := by
  refine rg_f ?_
  unfold f_X4_isPress
  dsimp only [jn, u0, u1]
  refine ok_if (fun a => ok_gB (Or.inl rfl) (ok_s (Or.inr ⟨fun z => i_nlt.mpr z.1 a, rfl⟩))) (fun a => ok_if (fun b => ok_gB (Or.inl rfl) (ok_s (Or.inr ⟨fun z => ?_, rfl⟩))) (fun b => ok_gB (Or.inr rfl) (ok_s (Or.inl ⟨⟨i_nlt.mp a, ?_⟩, rfl⟩))))
  · have h1 := z.2
    rw [Int32.le_iff_toInt_le] at b h1
    rw [show (3 : Int32).toInt = 3 from rfl] at b
    rw [show (2 : Int32).toInt = 2 from rfl] at h1
    omega
  · rw [Int32.not_le, Int32.lt_iff_toInt_lt, show (3 : Int32).toInt = 3 from rfl] at b
    rw [Int32.le_iff_toInt_le, show (2 : Int32).toInt = 2 from rfl]
    omega
theorem isLetter_e (p : Int32) : f_X4_isLetter p = some (if 0 ≤ p ∧ p ≤ 11 then 1 else 0) := by
  refine rg_f ?_
  unfold f_X4_isLetter
  dsimp only [jn, u0, u1]
  refine ok_if (fun a => ok_gB (Or.inl rfl) (ok_s (Or.inr ⟨fun z => i_nlt.mpr z.1 a, rfl⟩))) (fun a => ok_if (fun b => ok_gB (Or.inl rfl) (ok_s (Or.inr ⟨fun z => ?_, rfl⟩))) (fun b => ok_gB (Or.inr rfl) (ok_s (Or.inl ⟨⟨i_nlt.mp a, ?_⟩, rfl⟩))))
  · have h1 := z.2
    rw [Int32.le_iff_toInt_le] at b h1
    rw [show (12 : Int32).toInt = 12 from rfl] at b
    rw [show (11 : Int32).toInt = 11 from rfl] at h1
    omega
  · rw [Int32.not_le, Int32.lt_iff_toInt_lt, show (12 : Int32).toInt = 12 from rfl] at b
    rw [Int32.le_iff_toInt_le, show (11 : Int32).toInt = 11 from rfl]
    omega
theorem isMask_e (p : Int32) : f_X4_isLetterMask p = some (if 0 ≤ p ∧ p ≤ 4095 then 1 else 0) := by
  refine rg_f ?_
  unfold f_X4_isLetterMask
  dsimp only [jn, u0, u1]
  refine ok_if (fun a => ok_gB (Or.inl rfl) (ok_s (Or.inr ⟨fun z => i_nlt.mpr z.1 a, rfl⟩))) (fun a => ok_if (fun b => ok_gB (Or.inl rfl) (ok_s (Or.inr ⟨fun z => ?_, rfl⟩))) (fun b => ok_gB (Or.inr rfl) (ok_s (Or.inl ⟨⟨i_nlt.mp a, ?_⟩, rfl⟩))))
  · have h1 := z.2
    rw [Int32.le_iff_toInt_le] at b h1
    rw [show (4096 : Int32).toInt = 4096 from rfl] at b
    rw [show (4095 : Int32).toInt = 4095 from rfl] at h1
    omega
  · rw [Int32.not_le, Int32.lt_iff_toInt_lt, show (4096 : Int32).toInt = 4096 from rfl] at b
    rw [Int32.le_iff_toInt_le, show (4095 : Int32).toInt = 4095 from rfl]
    omega
theorem isMould_e (p : Int32) : f_X4_isMouldOrNone p = some (if -1 ≤ p ∧ p ≤ 99 then 1 else 0) := by
  refine rg_f ?_
  unfold f_X4_isMouldOrNone
  dsimp only [jn, u0, u1]
  have em : (-1 : Int32).toInt = -1 := by decide
  refine ok_if (fun a => ok_gB (Or.inr rfl) (ok_s (Or.inl ⟨by subst a; decide, rfl⟩))) (fun a => ok_if (fun b => ok_gB (Or.inl rfl) (ok_s (Or.inr ⟨fun z => ?_, rfl⟩))) (fun b => ok_if (fun c => ok_gB (Or.inl rfl) (ok_s (Or.inr ⟨fun z => i_nlt.mpr z.2 c, rfl⟩))) (fun c => ok_gB (Or.inr rfl) (ok_s (Or.inl ⟨⟨?_, i_nlt.mp c⟩, rfl⟩)))))
  · have h1 := z.1
    apply a
    apply Int32.toInt_inj.mp
    rw [Int32.le_iff_toInt_le, em] at h1
    rw [Int32.lt_iff_toInt_lt, show (0 : Int32).toInt = 0 from rfl] at b
    rw [em]
    omega
  · exact Int32.le_trans (by decide) (i_nlt.mp b)
theorem isYear_e (p : Int32) : f_X4_isYear p = some (if 1450 ≤ p ∧ p ≤ 1999 then 1 else 0) := by
  refine rg_f ?_
  unfold f_X4_isYear
  dsimp only [jn, u0, u1]
  exact ok_if (fun a => ok_gB (Or.inl rfl) (ok_s (Or.inr ⟨fun z => i_nlt.mpr z.1 a, rfl⟩))) (fun a => ok_if (fun b => ok_gB (Or.inl rfl) (ok_s (Or.inr ⟨fun z => i_nlt.mpr z.2 b, rfl⟩))) (fun b => ok_gB (Or.inr rfl) (ok_s (Or.inl ⟨⟨i_nlt.mp a, i_nlt.mp b⟩, rfl⟩))))
theorem isYearN_e (p : Int32) : f_X4_isYearOrNone p = some (if p = -1 ∨ (1450 ≤ p ∧ p ≤ 1999) then 1 else 0) := by
  refine rg_f ?_
  unfold f_X4_isYearOrNone
  dsimp only [jn, u0, u1]
  refine ok_if (fun a => ok_gB (Or.inr rfl) (ok_s (Or.inl ⟨Or.inl a, rfl⟩))) (fun a => ok_be (isYear_e p) (ok_u1 ?_))
  by_cases q : 1450 ≤ p ∧ p ≤ 1999
  · rw [if_pos q]
    exact ok_f (by decide) (ok_gB (Or.inr rfl) (ok_s (Or.inl ⟨Or.inr q, rfl⟩)))
  · rw [if_neg q]
    refine ok_t rfl (ok_gB (Or.inl rfl) (ok_s (Or.inr ⟨fun z => ?_, rfl⟩)))
    rcases z with z | z
    · exact a z
    · exact q z
theorem isBook_e (p : Int32) (n : Nat) : f_X4_isBook p (nI n) = some (if 0 ≤ p ∧ p < nI n then 1 else 0) := by
  refine rg_f (f := fun p => f_X4_isBook p (nI n)) ?_
  unfold f_X4_isBook
  dsimp only [jn, u0, u1]
  exact ok_if (fun a => ok_gB (Or.inl rfl) (ok_s (Or.inr ⟨fun z => i_nlt.mpr z.1 a, rfl⟩))) (fun a => ok_if (fun b => ok_gB (Or.inl rfl) (ok_s (Or.inr ⟨fun z => i_nlt.mpr b z.2, rfl⟩))) (fun b => ok_gB (Or.inr rfl) (ok_s (Or.inl ⟨⟨i_nlt.mp a, Int32.not_le.mp b⟩, rfl⟩))))
theorem ifb (c : Prop) [Decidable c] : (if c then (1 : Int32) else 0) = 0 ∨ (if c then (1 : Int32) else 0) = 1 := by
  by_cases h : c
  · rw [if_pos h]; exact Or.inr rfl
  · rw [if_neg h]; exact Or.inl rfl
theorem gB_if {α : Type} {c : Prop} [Decidable c] {k : Option α} : gB (if c then (1 : Int32) else 0) k = k := by
  unfold gB
  rw [if_pos (ifb c)]
theorem bk_of {p : Int32} {n : Nat} (hn : n ≤ 10) (h : 0 ≤ p ∧ p < nI n) : ∃ b, b < n ∧ p = nI b := by
  obtain ⟨b, hb, rfl⟩ := nI_of (i_nlt.mpr h.1)
  exact ⟨b, (nI_ltI hb (by omega)).mp h.2, rfl⟩
/-- a test of both -/
theorem ok_c1 {τ : Type} {c : Prop} [Decidable c] {x : Option Int32} {k : Int32 → Option τ} {R : τ → Prop} (hx : x = some (if c then 1 else 0)) (hc : c) (h : Ok (k 1) R) : Ok (x.bind (u1 k)) R := by
  rw [if_pos hc] at hx
  exact ok_be hx h
theorem ok_c0 {τ : Type} {c : Prop} [Decidable c] {x : Option Int32} {k : Int32 → Option τ} {R : τ → Prop} (hx : x = some (if c then 1 else 0)) (hc : ¬ c) (h : Ok (k 0) R) : Ok (x.bind (u1 k)) R := by
  rw [if_neg hc] at hx
  exact ok_be hx h
theorem ok_wrL {τ : Type} {f : Nat → Int64} {x : Int64} {k : (Nat → Int64) → Option τ} {R : τ → Prop} (h : Ok (k (vp_updL f 0 x)) R) : Ok ((wrL f 1 0 x).bind k) R := ok_be (a := vp_updL f 0 x) (by unfold wrL; rw [if_neg (by decide)]; rfl) h
theorem rsG_1 {E : Nat → Nat → Bool} {n : Nat} {Y : Nat → Int32} {c any rs : Int32} {bef beh fy ly aB aH tab : Nat → Int32} : rsG E n Y 1 c any rs bef beh fy ly aB aH tab := ⟨Or.inr rfl, fun z => absurd z (by decide)⟩
theorem n10 : (1 : Int32) ≠ 0 := by decide
theorem n20 : (2 : Int32) ≠ 0 := by decide
/-! a book more -/
theorem add_e {n : Nat} {p l m y : Int32} {P L M Y : Nat → Int32} (h : n < 10) : f_X2_add p l m y (nI n) P L M Y = some (nI (n + 1), upd P n p, upd L n l, upd M n m, upd Y n y) := by
  have key : Ok (f_X2_add p l m y (nI n) P L M Y) (fun r => r = (nI (n + 1), upd P n p, upd L n l, upd M n m, upd Y n y)) := by
    unfold f_X2_add
    refine ok_t (nI_lt (b := 10) h (by omega)) (ok_wr n rfl h (by decide) (ok_wr n rfl h (by decide) (ok_wr n rfl h (by decide) (ok_wr n rfl h (by decide) (ok_s ?_)))))
    rw [nI_1]
  obtain ⟨r, h1, h2⟩ := key
  rw [h1, h2]
section Face
variable {sN old hs kept c any rs th : Int32} {P L M Y hN now past bef beh fy ly aB aH tab : Nat → Int32} {hP hL hM hY : Nat → Nat → Int32} {out : Nat → Int64}
end Face
