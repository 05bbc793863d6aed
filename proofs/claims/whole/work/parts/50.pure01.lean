/-! the readings' meaning: loops, arrays, the small methods -/
theorem wl_from {σ ρ : Type} {step : σ → Option (σ ⊕ ρ)} (st : Nat → σ) (n : Nat) {r : ρ} (hs : ∀ i, i < n → step (st i) = some (.inl (st (i + 1)))) (he : step (st n) = some (.inr r)) : ∀ (N k : Nat), k ≤ n → n - k < N → wl step N (st k) = some r
  | 0, k, _, h => by omega
  | N + 1, k, hk, h => by
    by_cases hkn : k = n
    · subst hkn
      simp [wl, he]
    · have hlt : k < n := by omega
      have ih := wl_from st n hs he N (k + 1) (by omega) (by omega)
      simp [wl, hs k hlt, ih]
theorem wl_for {σ ρ : Type} {step : σ → Option (σ ⊕ ρ)} (st : Nat → σ) (n : Nat) {r : ρ} (hs : ∀ i, i < n → step (st i) = some (.inl (st (i + 1)))) (he : step (st n) = some (.inr r)) {N : Nat} (hN : n < N) : wl step N (st 0) = some r := wl_from st n hs he N 0 (Nat.zero_le n) (by omega)
theorem nI_tc {n : Nat} (h : n < 2 ^ 31) : (nI n).toNatClampNeg = n := nI_clamp h
theorem rdA_nI {f : Nat → Int32} {n k : Nat} (hk : k < n) (hn : n < 2 ^ 31) : rdA f n (nI k) = some (f k) := by
  unfold rdA
  rw [if_neg (nI_in hk hn), nI_clamp (by omega)]
theorem wrA_nI {f : Nat → Int32} {n k : Nat} {x : Int32} (hk : k < n) (hn : n < 2 ^ 31) : wrA f n (nI k) x = some (upd f k x) := by
  unfold wrA
  rw [if_neg (nI_in hk hn), nI_clamp (by omega)]
theorem f_of_e {s : Nat → Int32} {n a w : Nat} (h : 4 * a + w < n) (hn : n < 2 ^ 31) : f_X5_of (nI a) (nI w) n s = some (s (4 * a + w)) := by
  unfold f_X5_of
  rw [show (4 : Int32) * nI a + nI w = nI (4 * a + w) by rw [← nI_add, ← pk_mul]; rfl, rdA_nI h hn]
  rfl
theorem f_in_e {v lo hi : Int32} : f_X5_in v lo hi = some (if lo ≤ v ∧ v ≤ hi then 1 else 0) := by
  unfold f_X5_in
  simp only [jn, u0, u1, gB]
  by_cases h1 : v < lo
  · have h3 : ¬ lo ≤ v := Int32.not_le.mpr h1
    simp [h1, h3]
  · have h3 : lo ≤ v := Int32.not_lt.mp h1
    by_cases h2 : hi < v
    · have h4 : ¬ v ≤ hi := Int32.not_le.mpr h2
      simp [h1, h2, h4]
    · have h4 : v ≤ hi := Int32.not_lt.mp h2
      simp [h1, h2, h3, h4]
def spLess (x y : Int32) : Prop := x ≠ -1 ∧ y ≠ -1 ∧ x < y
theorem f_isLess_e {x y : Int32} : (spLess x y → f_X5_isLess x y = some 1) ∧ (¬ spLess x y → f_X5_isLess x y = some 0) := by
  unfold f_X5_isLess spLess
  simp only [jn, u0, u1, gB]
  by_cases h1 : x = -1
  · simp [h1]
  · by_cases h2 : y = -1
    · simp [h1, h2]
    · by_cases h3 : y ≤ x
      · have : ¬ x < y := Int32.not_lt.mpr h3
        simp [h1, h2, h3, this]
      · have : x < y := Int32.not_le.mp h3
        simp [h1, h2, h3, this]
