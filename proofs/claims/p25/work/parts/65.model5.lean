/-! the reference: books left out, what would be, the share -/
theorem fx_sub {n i : Nat} (h : i < 2 ^ n) : 2 ^ n - 1 - i = (2 ^ n - 1) ^^^ i := by
  apply Nat.eq_of_testBit_eq
  intro j
  rw [show 2 ^ n - 1 - i = 2 ^ n - (i + 1) by omega, Nat.testBit_two_pow_sub_succ h, Nat.testBit_xor, full_bit]
  by_cases e : j < n
  · simp [e]
  · rw [bit_out h (by omega)]
    simp [e]
theorem fx_out {n i : Nat} (hn : n ≤ 10) (h : i < 2 ^ n) : nI (2 ^ n - 1) &&& (nI ((2 ^ n - 1) ^^^ i) ^^^ (-1)) = nI i := by
  rw [iN_m1, iN_xor, iN_and]
  congr 1
  apply Nat.eq_of_testBit_eq
  intro j
  rw [Nat.testBit_and, Nat.testBit_xor, Nat.testBit_xor, full_bit]
  by_cases e : j < n
  · rw [m32_bit (by omega)]
    simp [e]
  · rw [bit_out h (by omega)]
    simp [e]
theorem bs_inv (E : Nat → Nat → Bool) (n : Nat) : ∀ i, bs E n i < i ∨ bs E n i = 2 ^ n - 1
  | 0 => Or.inr rfl
  | i + 1 => by
    rw [bs]
    split
    · exact Or.inl (by omega)
    · rcases bs_inv E n i with h | h
      · exact Or.inl (by omega)
      · exact Or.inr h
theorem cd_f (n : Nat) : cd n (2 ^ n - 1) = n := by
  have h : ∀ m, m ≤ n → cd m (2 ^ n - 1) = m := by
    intro m
    induction m with
    | zero => intro _; rfl
    | succ m ih =>
      intro hm
      show cd m (2 ^ n - 1) + (if (2 ^ n - 1).testBit m = true then 1 else 0) = m + 1
      rw [ih (by omega), full_bit, decide_eq_true (by omega)]
      rfl
  exact h n (Nat.le_refl n)
/-- the reference's second ground never comes in -/
theorem bs_tie {E : Nat → Nat → Bool} {n i : Nat} (hi : i < 2 ^ n) (hc : cd n i = cd n (bs E n i)) : bs E n i ≤ i := by
  rcases bs_inv E n i with h | h
  · omega
  · rw [h, cd_f] at hc
    have : i = 2 ^ n - 1 := bit_ext hi (full_lt n) (fun j hj => by rw [cd_full n (by omega) j hj, full_bit]; simp [hj])
    omega
theorem nI_4 (b : Nat) : (4 : Int32) * nI b = nI (4 * b) := by rw [← pk_mul]; rfl
theorem nI_41 (b : Nat) : (4 : Int32) * nI b + 1 = nI (4 * b + 1) := by rw [nI_4, nI_1]
theorem nI_42 (b : Nat) : (4 : Int32) * nI b + 2 = nI (4 * b + 2) := by rw [nI_4]; exact nI_add _ 2
theorem nI_43 (b : Nat) : (4 : Int32) * nI b + 3 = nI (4 * b + 3) := by rw [nI_4]; exact nI_add _ 3
def clL (L : Nat → Int32) (l : Int32) (b : Nat) : Int32 := L b &&& (((1 : Int32) <<< (l &&& 31)) ^^^ (-1))
def nTl (P L M Y : Nat → Int32) (n : Nat) (l : Int32) : Int32 := nI (fitN (eB P (clL L l) M Y) n) - nI (fitN (eB P L M Y) n)
def nIy (P L M Y : Nat → Int32) (n b : Nat) (y w : Int32) : Int32 := if w = 0 then nI (fitN (eB P L M (upd Y b y)) n) else nI (dtdV (eB P L M (upd Y b y)) n (upd Y b y))
theorem yr_upd {n b : Nat} {M Y : Nat → Int32} {y : Int32} (hY : yrOk n M Y) (h : 1450 ≤ y ∧ y ≤ 1999) : yrOk n M (upd Y b y) := fun z hz => by
  refine ⟨(hY z hz).1, ?_⟩
  by_cases e : z = b
  · subst e; rw [pk_us]; exact Or.inr h
  · rw [pk_un e]; exact (hY z hz).2
