def lessB (x y : Int32) : Bool := decide (x ≠ -1) && (decide (y ≠ -1) && decide (x < y))
theorem f_isLess_b {x y : Int32} : f_X5_isLess x y = some (if lessB x y = true then 1 else 0) := by
  by_cases h : spLess x y
  · rw [f_isLess_e.1 h]
    simp [lessB, h.1, h.2.1, h.2.2]
  · rw [f_isLess_e.2 h]
    have : ¬ lessB x y = true := by
      intro q
      simp [lessB] at q
      exact h ⟨q.1, q.2.1, q.2.2⟩
    simp [this]
/-- by what a must be ahead of b: presses P, letters L, moulds M, years Y -/
def spBy (P L M Y : Nat → Int32) (a b : Nat) : Int32 :=
  (if P a = P b then (if L b &&& ~~~(L a) = 0 then 0 else 1) + (if lessB (M a) (M b) = true then 2 else 0) else 0) + (if lessB (Y a) (Y b) = true then 4 else 0)
theorem f_by_e {s : Nat → Int32} {n a b : Nat} (ha : 4 * a + 3 < n) (hb : 4 * b + 3 < n) (hn : n < 2 ^ 31) : f_X5_by (nI a) (nI b) n s = some (spBy (fun k => s (4 * k)) (fun k => s (4 * k + 1)) (fun k => s (4 * k + 2)) (fun k => s (4 * k + 3)) a b) := by
  have a0 : f_X5_of (nI a) 0 n s = some (s (4 * a)) := f_of_e (w := 0) (by omega) hn
  have a1 : f_X5_of (nI a) 1 n s = some (s (4 * a + 1)) := f_of_e (w := 1) (by omega) hn
  have a2 : f_X5_of (nI a) 2 n s = some (s (4 * a + 2)) := f_of_e (w := 2) (by omega) hn
  have a3 : f_X5_of (nI a) 3 n s = some (s (4 * a + 3)) := f_of_e (w := 3) (by omega) hn
  have b0 : f_X5_of (nI b) 0 n s = some (s (4 * b)) := f_of_e (w := 0) (by omega) hn
  have b1 : f_X5_of (nI b) 1 n s = some (s (4 * b + 1)) := f_of_e (w := 1) (by omega) hn
  have b2 : f_X5_of (nI b) 2 n s = some (s (4 * b + 2)) := f_of_e (w := 2) (by omega) hn
  have b3 : f_X5_of (nI b) 3 n s = some (s (4 * b + 3)) := f_of_e (w := 3) (by omega) hn
  unfold f_X5_by spBy
  simp only [a0, a1, a2, a3, b0, b1, b2, b3, f_isLess_b, Option.bind_some, jn, u1]
  by_cases h1 : lessB (s (4 * a + 3)) (s (4 * b + 3)) = true <;> by_cases h2 : s (4 * a) = s (4 * b) <;> by_cases h3 : s (4 * b + 1) &&& ~~~(s (4 * a + 1)) = 0 <;> by_cases h4 : lessB (s (4 * a + 2)) (s (4 * b + 2)) = true <;> simp [h1, h2, h3, h4]
theorem lessB_cls {x y : Int32} (hx : -1 ≤ x) : lessB x y = (decide (x ≠ -1) && decide (x < y)) := by
  unfold lessB
  by_cases h1 : x < y
  · have h2 : y ≠ -1 := by
      intro q
      subst q
      exact absurd hx (Int32.not_le.mpr h1)
    simp [h1, h2]
  · simp [h1]
theorem f_reasons_e {P L M Y : Nat → Int32} {a b : Nat} (ha : a < 10) (hb : b < 10) (hM : -1 ≤ M a) (hY : -1 ≤ Y a) : f_X2_reasonsAhead (nI a) (nI b) P L M Y = some (spBy P L M Y a b) := by
  have e : ∀ (f : Nat → Int32), rdA f 10 (nI a) = some (f a) := fun f => rdA_nI ha (by decide)
  have e2 : ∀ (f : Nat → Int32), rdA f 10 (nI b) = some (f b) := fun f => rdA_nI hb (by decide)
  unfold f_X2_reasonsAhead spBy
  rw [lessB_cls hM, lessB_cls hY]
  simp only [e, e2, Option.bind_some, jn, u1]
  by_cases h1 : Y a = -1 <;> by_cases h1b : Y b ≤ Y a <;> by_cases h2 : P a = P b <;> by_cases h3 : L b &&& ~~~(L a) = 0 <;> by_cases h4 : M a = -1 <;> by_cases h4b : M b ≤ M a <;> simp [h1, h1b, h2, h3, h4, h4b, Int32.not_lt.mpr, Int32.not_le.mp]
