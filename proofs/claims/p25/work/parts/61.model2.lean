/-! the reference's years: rounds -/
def clR (E : Nat → Nat → Bool) (n : Nat) : Nat → Nat → Nat
  | 0 => bfM E n
  | m + 1 => wNext m (clR E n m)
theorem clR_inv (E : Nat → Nat → Bool) (n : Nat) : ∀ m, m ≤ n → wInv E n m (clR E n m)
  | 0, _ => wInv_0
  | m + 1, h => wInv_s (by omega) (clR_inv E n m (by omega))
def clo (E : Nat → Nat → Bool) (n : Nat) : Nat → Nat := clR E n n
theorem clo_cl (E : Nat → Nat → Bool) (n : Nat) : isCl E n (clo E n) := wInv_n (clR_inv E n n (Nat.le_refl n))
