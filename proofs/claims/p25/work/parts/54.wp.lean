/-! what a reading comes to: rules; bits of nI -/
def Ok {τ : Type} (x : Option τ) (R : τ → Prop) : Prop := ∃ t, x = some t ∧ R t
theorem ok_s {τ : Type} {t : τ} {R : τ → Prop} (h : R t) : Ok (some t) R := ⟨t, rfl, h⟩
theorem ok_bd {α τ : Type} {x : Option α} {k : α → Option τ} {R : τ → Prop} (Q : α → Prop) (h : Ok x Q) (hk : ∀ a, Q a → Ok (k a) R) : Ok (x.bind k) R := by
  obtain ⟨a, ha, hq⟩ := h
  rw [ha]
  exact hk a hq
theorem ok_be {α τ : Type} {x : Option α} {a : α} {k : α → Option τ} {R : τ → Prop} (h : x = some a) (hk : Ok (k a) R) : Ok (x.bind k) R := by
  rw [h]
  exact hk
theorem ok_mo {τ : Type} {x : Option τ} {R R' : τ → Prop} (h : Ok x R) (hr : ∀ t, R t → R' t) : Ok x R' := by
  obtain ⟨a, ha, hq⟩ := h
  exact ⟨a, ha, hr a hq⟩
theorem ok_if {τ : Type} {c : Prop} [Decidable c] {x y : Option τ} {R : τ → Prop} (ht : c → Ok x R) (hf : ¬ c → Ok y R) : Ok (if c then x else y) R := by
  by_cases h : c
  · rw [if_pos h]; exact ht h
  · rw [if_neg h]; exact hf h
theorem ok_t {τ : Type} {c : Prop} [Decidable c] {x y : Option τ} {R : τ → Prop} (hc : c) (h : Ok x R) : Ok (if c then x else y) R := by rw [if_pos hc]; exact h
theorem ok_f {τ : Type} {c : Prop} [Decidable c] {x y : Option τ} {R : τ → Prop} (hc : ¬ c) (h : Ok y R) : Ok (if c then x else y) R := by rw [if_neg hc]; exact h
theorem ok_jn {σ τ : Type} {k : σ → Option τ} {body : (σ → Option τ) → Option τ} {R : τ → Prop} (S : σ → Prop) (hk : ∀ v, S v → Ok (k v) R) (hb : ∀ K : σ → Option τ, (∀ v, S v → Ok (K v) R) → Ok (body K) R) : Ok (jn k body) R := hb k hk
theorem ok_rd {τ : Type} {f : Nat → Int32} {n : Nat} {i : Int32} {k : Int32 → Option τ} {R : τ → Prop} (j : Nat) (hi : i = nI j) (hj : j < n) (hn : n < 2 ^ 31) (h : Ok (k (f j)) R) : Ok ((rdA f n i).bind k) R := by
  subst hi
  exact ok_be (rdA_nI hj hn) h
theorem ok_wr {τ : Type} {f : Nat → Int32} {n : Nat} {i x : Int32} {k : (Nat → Int32) → Option τ} {R : τ → Prop} (j : Nat) (hi : i = nI j) (hj : j < n) (hn : n < 2 ^ 31) (h : Ok (k (upd f j x)) R) : Ok ((wrA f n i x).bind k) R := by
  subst hi
  exact ok_be (wrA_nI hj hn) h
theorem ok_gB {τ : Type} {v : Int32} {k : Option τ} {R : τ → Prop} (hv : v = 0 ∨ v = 1) (h : Ok k R) : Ok (gB v k) R := by
  unfold gB
  rw [if_pos hv]
  exact h
theorem ok_gZ {τ : Type} {v : Int32} {k : Option τ} {R : τ → Prop} (hv : ¬ v = 0) (h : Ok k R) : Ok (gZ v k) R := by
  unfold gZ
  rw [if_neg hv]
  exact h
theorem ok_wlk {σ ρ : Type} {step : σ → Option (σ ⊕ ρ)} (I : Nat → σ → Prop) (X : ρ → Prop) (n : Nat) (hs : ∀ i s, i < n → I i s → Ok (step s) (Sum.elim (I (i + 1)) X)) (he : ∀ s, I n s → Ok (step s) (Sum.elim (fun _ => False) X)) : ∀ (N i : Nat) (s : σ), i ≤ n → n - i < N → I i s → ∃ r, wl step N s = some r ∧ X r
  | 0, i, s, _, h, _ => by omega
  | N + 1, i, s, hi, hN, hI => by
    by_cases e : i = n
    · subst e
      obtain ⟨o, ho, hx⟩ := he s hI
      cases o with
      | inl b => exact hx.elim
      | inr r => exact ⟨r, by simp [wl, ho], hx⟩
    · obtain ⟨o, ho, hx⟩ := hs i s (by omega) hI
      cases o with
      | inl b =>
        obtain ⟨r, h1, h2⟩ := ok_wlk I X n hs he N (i + 1) b (by omega) (by omega) hx
        exact ⟨r, by simp [wl, ho, h1], h2⟩
      | inr r => exact ⟨r, by simp [wl, ho], hx⟩
theorem ok_wl {σ ρ τ : Type} {step : σ → Option (σ ⊕ ρ)} {k : ρ → Option τ} {R : τ → Prop} {a : σ} (I : Nat → σ → Prop) (X : ρ → Prop) (n : Nat) (hn : n < 9999) (h0 : I 0 a) (hs : ∀ i s, i < n → I i s → Ok (step s) (Sum.elim (I (i + 1)) X)) (he : ∀ s, I n s → Ok (step s) (Sum.elim (fun _ => False) X)) (hk : ∀ r, X r → Ok (k r) R) : Ok ((wl step 9999 a).bind k) R := by
  obtain ⟨r, h1, h2⟩ := ok_wlk I X n hs he 9999 0 a (Nat.zero_le _) (by omega) h0
  rw [h1]
  exact hk r h2
/-- at the head of a loop -/
theorem ok_nle {τ : Type} {a b : Nat} {x y : Option τ} {R : τ → Prop} (h : b < a) (ha : a < 2 ^ 31) (k : Ok y R) : Ok (if nI a ≤ nI b then x else y) R := ok_f (nI_ge h ha) k
theorem ok_yle {τ : Type} {a b : Nat} {x y : Option τ} {R : τ → Prop} (h : a ≤ b) (hb : b < 2 ^ 31) (k : Ok x R) : Ok (if nI a ≤ nI b then x else y) R := ok_t (nI_le h hb) k
/-! bits -/
theorem iN_1 : (1 : Int32) = nI 1 := rfl
theorem iN_0 : (0 : Int32) = nI 0 := rfl
theorem iN_m1 : (-1 : Int32) = nI 4294967295 := by decide +kernel
theorem iN_shl : ∀ k, k < 32 → (1 : Int32) <<< (nI k &&& 31) = nI (2 ^ k) := by decide +kernel
theorem iN_sm : ∀ n, n < 32 → ((nI n &&& 31).toBitVec.smod 32).toNat = n := by decide +kernel
theorem iN_and (a b : Nat) : nI a &&& nI b = nI (a &&& b) := by
  apply Int32.toBitVec_inj.1
  show BitVec.ofNat 32 a &&& BitVec.ofNat 32 b = BitVec.ofNat 32 (a &&& b)
  apply BitVec.eq_of_getLsbD_eq
  intro i hi
  simp [hi]
theorem iN_or (a b : Nat) : nI a ||| nI b = nI (a ||| b) := by
  apply Int32.toBitVec_inj.1
  show BitVec.ofNat 32 a ||| BitVec.ofNat 32 b = BitVec.ofNat 32 (a ||| b)
  apply BitVec.eq_of_getLsbD_eq
  intro i hi
  simp [hi]
theorem iN_xor (a b : Nat) : nI a ^^^ nI b = nI (a ^^^ b) := by
  apply Int32.toBitVec_inj.1
  show BitVec.ofNat 32 a ^^^ BitVec.ofNat 32 b = BitVec.ofNat 32 (a ^^^ b)
  apply BitVec.eq_of_getLsbD_eq
  intro i hi
  simp [hi]
theorem iN_shr {S k : Nat} (hS : S < 2 ^ 31) (hk : k < 32) : (nI S >>> (nI k &&& 31)) &&& 1 = nI (S / 2 ^ k % 2) := by
  rw [pk_shrN hS (nI k &&& 31) k (iN_sm k hk), iN_1, iN_and, Nat.and_one_is_mod]
theorem iN_t {S k : Nat} (hS : S < 2 ^ 31) (hk : k < 32) (h : S.testBit k = true) : (nI S >>> (nI k &&& 31)) &&& 1 = 1 := by
  rw [Nat.testBit_eq_decide_div_mod_eq, decide_eq_true_iff] at h
  rw [iN_shr hS hk, h]
  rfl
theorem iN_f {S k : Nat} (hS : S < 2 ^ 31) (hk : k < 32) (h : S.testBit k = false) : (nI S >>> (nI k &&& 31)) &&& 1 = 0 := by
  rw [Nat.testBit_eq_decide_div_mod_eq, decide_eq_false_iff_not] at h
  rw [iN_shr hS hk, show S / 2 ^ k % 2 = 0 by omega]
  rfl
theorem iN_z0 {a : Nat} (h : a < 2 ^ 31) : nI a = 0 ↔ a = 0 := by rw [iN_0, nI_eq h (by decide)]
theorem bit_z {a : Nat} : a = 0 ↔ ∀ i, a.testBit i = false := by
  constructor
  · intro h i; subst h; simp
  · intro h
    apply Nat.eq_of_testBit_eq
    intro i
    rw [h i]; simp
/-- nothing of A is in S -/
theorem iN_dis {A S : Nat} (hA : A < 2 ^ 31) : nI A &&& nI S = 0 ↔ ∀ i, A.testBit i = true → S.testBit i = false := by
  rw [iN_and, iN_z0 (Nat.lt_of_le_of_lt Nat.and_le_left hA), bit_z]
  constructor
  · intro h i hi
    have := h i
    rw [Nat.testBit_and, hi, Bool.true_and] at this
    exact this
  · intro h i
    rw [Nat.testBit_and]
    cases hi : A.testBit i with
    | false => rfl
    | true => rw [h i hi]; rfl
theorem m32_bit {i : Nat} (h : i < 32) : (4294967295 : Nat).testBit i = true := (by decide +kernel : ∀ i, i < 32 → (4294967295 : Nat).testBit i = true) i h
/-- all of A is in S -/
theorem iN_sub {A S : Nat} (hA : A < 2 ^ 31) : nI A &&& (nI S ^^^ (-1)) = 0 ↔ ∀ i, A.testBit i = true → S.testBit i = true := by
  rw [iN_m1, iN_xor, iN_dis hA]
  constructor
  · intro h i hi
    have := h i hi
    rw [Nat.testBit_xor, m32_bit (by have := bit_lt hA hi; omega)] at this
    cases q : S.testBit i with
    | true => rfl
    | false => rw [q] at this; cases this
  · intro h i hi
    rw [Nat.testBit_xor, m32_bit (by have := bit_lt hA hi; omega), h i hi]
    rfl
/-- a book taken out of a set -/
theorem iN_rm {S k : Nat} (hS : S < 2 ^ 31) (hk : k < 32) (h : S.testBit k = true) : nI S &&& (((1 : Int32) <<< (nI k &&& 31)) ^^^ (-1)) = nI (S ^^^ 2 ^ k) := by
  rw [iN_shl k hk, iN_m1, iN_xor, iN_and]
  congr 1
  apply Nat.eq_of_testBit_eq
  intro i
  rw [Nat.testBit_and, Nat.testBit_xor, Nat.testBit_two_pow, rm_bit]
  rcases Nat.lt_or_ge i 31 with hi | hi
  · rw [m32_bit (by omega)]
    by_cases e : k = i
    · subst e; simp [h]
    · simp [e]
  · have h1 := bit_out hS hi
    have h2 := bit_lt hS h
    rw [h1, decide_eq_false (by omega)]
    rfl
theorem iN_rm2 {S k : Nat} (hk : k < 32) : nI S ^^^ ((1 : Int32) <<< (nI k &&& 31)) = nI (S ^^^ 2 ^ k) := by rw [iN_shl k hk, iN_xor]
theorem iN_full {n : Nat} (h : n < 31) : ((1 : Int32) <<< (nI n &&& 31)) - 1 = nI (2 ^ n - 1) := by
  rw [iN_shl n (by omega), iN_1, pk_sub (Nat.two_pow_pos n)]
theorem p2_31 {n : Nat} (h : n ≤ 10) : 2 ^ n ≤ 1024 := Nat.pow_le_pow_right (by decide) h
theorem m10 {n S : Nat} (h : n ≤ 10) (hS : S < 2 ^ n) : S < 2 ^ 31 := Nat.lt_of_lt_of_le hS (Nat.le_trans (p2_31 h) (by decide))
theorem m10' {n S : Nat} (h : n ≤ 10) (hS : S < 2 ^ n) : S < 1024 := Nat.lt_of_lt_of_le hS (p2_31 h)
/-- the readings' tuples taken apart -/
theorem ok_u0 {τ : Type} {k : Option τ} {x : Unit} {R : τ → Prop} (h : Ok k R) : Ok (u0 k x) R := h
theorem ok_u1 {A1 τ : Type} {k : A1 → Option τ} {a1 : A1} {R : τ → Prop} (h : Ok (k a1) R) : Ok (u1 k a1) R := h
theorem ok_u2 {A1 A2 τ : Type} {k : A1 → A2 → Option τ} {a1 : A1} {a2 : A2} {R : τ → Prop} (h : Ok (k a1 a2) R) : Ok (u2 k (a1, a2)) R := h
theorem ok_u3 {A1 A2 A3 τ : Type} {k : A1 → A2 → A3 → Option τ} {a1 : A1} {a2 : A2} {a3 : A3} {R : τ → Prop} (h : Ok (k a1 a2 a3) R) : Ok (u3 k (a1, a2, a3)) R := h
theorem ok_u4 {A1 A2 A3 A4 τ : Type} {k : A1 → A2 → A3 → A4 → Option τ} {a1 : A1} {a2 : A2} {a3 : A3} {a4 : A4} {R : τ → Prop} (h : Ok (k a1 a2 a3 a4) R) : Ok (u4 k (a1, a2, a3, a4)) R := h
theorem ok_u5 {A1 A2 A3 A4 A5 τ : Type} {k : A1 → A2 → A3 → A4 → A5 → Option τ} {a1 : A1} {a2 : A2} {a3 : A3} {a4 : A4} {a5 : A5} {R : τ → Prop} (h : Ok (k a1 a2 a3 a4 a5) R) : Ok (u5 k (a1, a2, a3, a4, a5)) R := h
theorem ok_u6 {A1 A2 A3 A4 A5 A6 τ : Type} {k : A1 → A2 → A3 → A4 → A5 → A6 → Option τ} {a1 : A1} {a2 : A2} {a3 : A3} {a4 : A4} {a5 : A5} {a6 : A6} {R : τ → Prop} (h : Ok (k a1 a2 a3 a4 a5 a6) R) : Ok (u6 k (a1, a2, a3, a4, a5, a6)) R := h
theorem ok_u7 {A1 A2 A3 A4 A5 A6 A7 τ : Type} {k : A1 → A2 → A3 → A4 → A5 → A6 → A7 → Option τ} {a1 : A1} {a2 : A2} {a3 : A3} {a4 : A4} {a5 : A5} {a6 : A6} {a7 : A7} {R : τ → Prop} (h : Ok (k a1 a2 a3 a4 a5 a6 a7) R) : Ok (u7 k (a1, a2, a3, a4, a5, a6, a7)) R := h
theorem ok_u8 {A1 A2 A3 A4 A5 A6 A7 A8 τ : Type} {k : A1 → A2 → A3 → A4 → A5 → A6 → A7 → A8 → Option τ} {a1 : A1} {a2 : A2} {a3 : A3} {a4 : A4} {a5 : A5} {a6 : A6} {a7 : A7} {a8 : A8} {R : τ → Prop} (h : Ok (k a1 a2 a3 a4 a5 a6 a7 a8) R) : Ok (u8 k (a1, a2, a3, a4, a5, a6, a7, a8)) R := h
theorem ok_u9 {A1 A2 A3 A4 A5 A6 A7 A8 A9 τ : Type} {k : A1 → A2 → A3 → A4 → A5 → A6 → A7 → A8 → A9 → Option τ} {a1 : A1} {a2 : A2} {a3 : A3} {a4 : A4} {a5 : A5} {a6 : A6} {a7 : A7} {a8 : A8} {a9 : A9} {R : τ → Prop} (h : Ok (k a1 a2 a3 a4 a5 a6 a7 a8 a9) R) : Ok (u9 k (a1, a2, a3, a4, a5, a6, a7, a8, a9)) R := h
theorem ok_u10 {A1 A2 A3 A4 A5 A6 A7 A8 A9 A10 τ : Type} {k : A1 → A2 → A3 → A4 → A5 → A6 → A7 → A8 → A9 → A10 → Option τ} {a1 : A1} {a2 : A2} {a3 : A3} {a4 : A4} {a5 : A5} {a6 : A6} {a7 : A7} {a8 : A8} {a9 : A9} {a10 : A10} {R : τ → Prop} (h : Ok (k a1 a2 a3 a4 a5 a6 a7 a8 a9 a10) R) : Ok (u10 k (a1, a2, a3, a4, a5, a6, a7, a8, a9, a10)) R := h
theorem ok_u11 {A1 A2 A3 A4 A5 A6 A7 A8 A9 A10 A11 τ : Type} {k : A1 → A2 → A3 → A4 → A5 → A6 → A7 → A8 → A9 → A10 → A11 → Option τ} {a1 : A1} {a2 : A2} {a3 : A3} {a4 : A4} {a5 : A5} {a6 : A6} {a7 : A7} {a8 : A8} {a9 : A9} {a10 : A10} {a11 : A11} {R : τ → Prop} (h : Ok (k a1 a2 a3 a4 a5 a6 a7 a8 a9 a10 a11) R) : Ok (u11 k (a1, a2, a3, a4, a5, a6, a7, a8, a9, a10, a11)) R := h
theorem ok_u12 {A1 A2 A3 A4 A5 A6 A7 A8 A9 A10 A11 A12 τ : Type} {k : A1 → A2 → A3 → A4 → A5 → A6 → A7 → A8 → A9 → A10 → A11 → A12 → Option τ} {a1 : A1} {a2 : A2} {a3 : A3} {a4 : A4} {a5 : A5} {a6 : A6} {a7 : A7} {a8 : A8} {a9 : A9} {a10 : A10} {a11 : A11} {a12 : A12} {R : τ → Prop} (h : Ok (k a1 a2 a3 a4 a5 a6 a7 a8 a9 a10 a11 a12) R) : Ok (u12 k (a1, a2, a3, a4, a5, a6, a7, a8, a9, a10, a11, a12)) R := h
theorem ok_u13 {A1 A2 A3 A4 A5 A6 A7 A8 A9 A10 A11 A12 A13 τ : Type} {k : A1 → A2 → A3 → A4 → A5 → A6 → A7 → A8 → A9 → A10 → A11 → A12 → A13 → Option τ} {a1 : A1} {a2 : A2} {a3 : A3} {a4 : A4} {a5 : A5} {a6 : A6} {a7 : A7} {a8 : A8} {a9 : A9} {a10 : A10} {a11 : A11} {a12 : A12} {a13 : A13} {R : τ → Prop} (h : Ok (k a1 a2 a3 a4 a5 a6 a7 a8 a9 a10 a11 a12 a13) R) : Ok (u13 k (a1, a2, a3, a4, a5, a6, a7, a8, a9, a10, a11, a12, a13)) R := h
theorem ok_u14 {A1 A2 A3 A4 A5 A6 A7 A8 A9 A10 A11 A12 A13 A14 τ : Type} {k : A1 → A2 → A3 → A4 → A5 → A6 → A7 → A8 → A9 → A10 → A11 → A12 → A13 → A14 → Option τ} {a1 : A1} {a2 : A2} {a3 : A3} {a4 : A4} {a5 : A5} {a6 : A6} {a7 : A7} {a8 : A8} {a9 : A9} {a10 : A10} {a11 : A11} {a12 : A12} {a13 : A13} {a14 : A14} {R : τ → Prop} (h : Ok (k a1 a2 a3 a4 a5 a6 a7 a8 a9 a10 a11 a12 a13 a14) R) : Ok (u14 k (a1, a2, a3, a4, a5, a6, a7, a8, a9, a10, a11, a12, a13, a14)) R := h
theorem ok_u15 {A1 A2 A3 A4 A5 A6 A7 A8 A9 A10 A11 A12 A13 A14 A15 τ : Type} {k : A1 → A2 → A3 → A4 → A5 → A6 → A7 → A8 → A9 → A10 → A11 → A12 → A13 → A14 → A15 → Option τ} {a1 : A1} {a2 : A2} {a3 : A3} {a4 : A4} {a5 : A5} {a6 : A6} {a7 : A7} {a8 : A8} {a9 : A9} {a10 : A10} {a11 : A11} {a12 : A12} {a13 : A13} {a14 : A14} {a15 : A15} {R : τ → Prop} (h : Ok (k a1 a2 a3 a4 a5 a6 a7 a8 a9 a10 a11 a12 a13 a14 a15) R) : Ok (u15 k (a1, a2, a3, a4, a5, a6, a7, a8, a9, a10, a11, a12, a13, a14, a15)) R := h
theorem ok_u16 {A1 A2 A3 A4 A5 A6 A7 A8 A9 A10 A11 A12 A13 A14 A15 A16 τ : Type} {k : A1 → A2 → A3 → A4 → A5 → A6 → A7 → A8 → A9 → A10 → A11 → A12 → A13 → A14 → A15 → A16 → Option τ} {a1 : A1} {a2 : A2} {a3 : A3} {a4 : A4} {a5 : A5} {a6 : A6} {a7 : A7} {a8 : A8} {a9 : A9} {a10 : A10} {a11 : A11} {a12 : A12} {a13 : A13} {a14 : A14} {a15 : A15} {a16 : A16} {R : τ → Prop} (h : Ok (k a1 a2 a3 a4 a5 a6 a7 a8 a9 a10 a11 a12 a13 a14 a15 a16) R) : Ok (u16 k (a1, a2, a3, a4, a5, a6, a7, a8, a9, a10, a11, a12, a13, a14, a15, a16)) R := h
theorem ok_u17 {A1 A2 A3 A4 A5 A6 A7 A8 A9 A10 A11 A12 A13 A14 A15 A16 A17 τ : Type} {k : A1 → A2 → A3 → A4 → A5 → A6 → A7 → A8 → A9 → A10 → A11 → A12 → A13 → A14 → A15 → A16 → A17 → Option τ} {a1 : A1} {a2 : A2} {a3 : A3} {a4 : A4} {a5 : A5} {a6 : A6} {a7 : A7} {a8 : A8} {a9 : A9} {a10 : A10} {a11 : A11} {a12 : A12} {a13 : A13} {a14 : A14} {a15 : A15} {a16 : A16} {a17 : A17} {R : τ → Prop} (h : Ok (k a1 a2 a3 a4 a5 a6 a7 a8 a9 a10 a11 a12 a13 a14 a15 a16 a17) R) : Ok (u17 k (a1, a2, a3, a4, a5, a6, a7, a8, a9, a10, a11, a12, a13, a14, a15, a16, a17)) R := h
theorem ok_u18 {A1 A2 A3 A4 A5 A6 A7 A8 A9 A10 A11 A12 A13 A14 A15 A16 A17 A18 τ : Type} {k : A1 → A2 → A3 → A4 → A5 → A6 → A7 → A8 → A9 → A10 → A11 → A12 → A13 → A14 → A15 → A16 → A17 → A18 → Option τ} {a1 : A1} {a2 : A2} {a3 : A3} {a4 : A4} {a5 : A5} {a6 : A6} {a7 : A7} {a8 : A8} {a9 : A9} {a10 : A10} {a11 : A11} {a12 : A12} {a13 : A13} {a14 : A14} {a15 : A15} {a16 : A16} {a17 : A17} {a18 : A18} {R : τ → Prop} (h : Ok (k a1 a2 a3 a4 a5 a6 a7 a8 a9 a10 a11 a12 a13 a14 a15 a16 a17 a18) R) : Ok (u18 k (a1, a2, a3, a4, a5, a6, a7, a8, a9, a10, a11, a12, a13, a14, a15, a16, a17, a18)) R := h
theorem ok_u19 {A1 A2 A3 A4 A5 A6 A7 A8 A9 A10 A11 A12 A13 A14 A15 A16 A17 A18 A19 τ : Type} {k : A1 → A2 → A3 → A4 → A5 → A6 → A7 → A8 → A9 → A10 → A11 → A12 → A13 → A14 → A15 → A16 → A17 → A18 → A19 → Option τ} {a1 : A1} {a2 : A2} {a3 : A3} {a4 : A4} {a5 : A5} {a6 : A6} {a7 : A7} {a8 : A8} {a9 : A9} {a10 : A10} {a11 : A11} {a12 : A12} {a13 : A13} {a14 : A14} {a15 : A15} {a16 : A16} {a17 : A17} {a18 : A18} {a19 : A19} {R : τ → Prop} (h : Ok (k a1 a2 a3 a4 a5 a6 a7 a8 a9 a10 a11 a12 a13 a14 a15 a16 a17 a18 a19) R) : Ok (u19 k (a1, a2, a3, a4, a5, a6, a7, a8, a9, a10, a11, a12, a13, a14, a15, a16, a17, a18, a19)) R := h
theorem ok_jd {σ τ : Type} {k : σ → Option τ} {body : (σ → Option τ) → Option τ} {R : τ → Prop} (h : Ok (body k) R) : Ok (jn k body) R := h
