def lessB (x y : Int32) : Bool := decide (x ≠ -1) && (decide (y ≠ -1) && decide (x < y))
/-- by what a must be ahead of b: presses P, letters L, moulds M, years Y -/
def spBy (P L M Y : Nat → Int32) (a b : Nat) : Int32 :=
  (if P a = P b then (if L b &&& ~~~(L a) = 0 then 0 else 1) + (if lessB (M a) (M b) = true then 2 else 0) else 0) + (if lessB (Y a) (Y b) = true then 4 else 0)
theorem lessB_cls {x y : Int32} (hx : -1 ≤ x) : lessB x y = (decide (x ≠ -1) && decide (x < y)) := by
  unfold lessB
  by_cases h1 : x < y
  · have h2 : y ≠ -1 := by
      intro q
      subst q
      exact absurd hx (Int32.not_le.mpr h1)
    simp [h1, h2]
  · simp [h1]
theorem f_reasons_e {P L M Y : Nat → Int32} {a b : Nat} (ha : a < 10) (hb : b < 10) (hM : -1 ≤ M a) (hY : -1 ≤ Y a) : f_X2_reasonsAhead (nI a) (nI b) P L M Y = some (spBy P L M Y a b) := by
  have e : ∀ (f : Nat → Int32), rdA f 10 (nI a) = some (f a) := fun f => rdA_nI ha (by decide)
  have e2 : ∀ (f : Nat → Int32), rdA f 10 (nI b) = some (f b) := fun f => rdA_nI hb (by decide)
  unfold f_X2_reasonsAhead spBy
  rw [lessB_cls hM, lessB_cls hY]
  simp only [e, e2, Option.bind_some, jn, u1]
  by_cases h1 : Y a = -1 <;> by_cases h1b : Y b ≤ Y a <;> by_cases h2 : P a = P b <;> by_cases h3 : L b &&& ~~~(L a) = 0 <;> by_cases h4 : M a = -1 <;> by_cases h4b : M b ≤ M a <;> simp [h1, h1b, h2, h3, h4, h4b, Int32.not_lt.mpr, Int32.not_le.mp]
