/-! the readings' meaning: loops, arrays, the small methods -/
theorem wl_from {σ ρ : Type} {step : σ → Option (σ ⊕ ρ)} (st : Nat → σ) (n : Nat) {r : ρ} (hs : ∀ i, i < n → step (st i) = some (.inl (st (i + 1)))) (he : step (st n) = some (.inr r)) : ∀ (N k : Nat), k ≤ n → n - k < N → wl step N (st k) = some r
  | 0, k, _, h => by omega
  | N + 1, k, hk, h => by
    by_cases hkn : k = n
    · subst hkn
      simp [wl, he]
    · have hlt : k < n := by omega
      have ih := wl_from st n hs he N (k + 1) (by omega) (by omega)
      simp [wl, hs k hlt, ih]
theorem wl_for {σ ρ : Type} {step : σ → Option (σ ⊕ ρ)} (st : Nat → σ) (n : Nat) {r : ρ} (hs : ∀ i, i < n → step (st i) = some (.inl (st (i + 1)))) (he : step (st n) = some (.inr r)) {N : Nat} (hN : n < N) : wl step N (st 0) = some r := wl_from st n hs he N 0 (Nat.zero_le n) (by omega)
theorem nI_tc {n : Nat} (h : n < 2 ^ 31) : (nI n).toNatClampNeg = n := nI_clamp h
theorem rdA_nI {f : Nat → Int32} {n k : Nat} (hk : k < n) (hn : n < 2 ^ 31) : rdA f n (nI k) = some (f k) := by
  unfold rdA
  rw [if_neg (nI_in hk hn), nI_clamp (by omega)]
theorem wrA_nI {f : Nat → Int32} {n k : Nat} {x : Int32} (hk : k < n) (hn : n < 2 ^ 31) : wrA f n (nI k) x = some (upd f k x) := by
  unfold wrA
  rw [if_neg (nI_in hk hn), nI_clamp (by omega)]
def spLess (x y : Int32) : Prop := x ≠ -1 ∧ y ≠ -1 ∧ x < y
