/-! all that must be ahead of a book, through others, too: the least relation that goes on -/
def isCl (E : Nat → Nat → Bool) (n : Nat) (A : Nat → Nat) : Prop :=
  (∀ b, b < n → A b < 2 ^ n) ∧ (∀ a b, a < n → b < n → E a b = true → (A b).testBit a = true) ∧
  (∀ a b c, a < n → b < n → c < n → (A b).testBit a = true → (A c).testBit b = true → (A c).testBit a = true) ∧
  (∀ Q : Nat → Nat → Prop, (∀ a b, a < n → b < n → E a b = true → Q a b) → (∀ a b c, a < n → b < n → c < n → Q a b → Q b c → Q a c) → ∀ a b, a < n → b < n → (A b).testBit a = true → Q a b)
theorem cl_uni {E : Nat → Nat → Bool} {n : Nat} {A B : Nat → Nat} (h1 : isCl E n A) (h2 : isCl E n B) (b : Nat) (hb : b < n) : A b = B b := by
  refine bit_ext (h1.1 b hb) (h2.1 b hb) (fun a ha => ?_)
  have e1 := h1.2.2.2 (fun a b => (B b).testBit a = true) h2.2.1 h2.2.2.1 a b ha hb
  have e2 := h2.2.2.2 (fun a b => (A b).testBit a = true) h1.2.1 h1.2.2.1 a b ha hb
  exact Bool.eq_iff_iff.mpr ⟨e1, e2⟩
theorem cl_tr {E : Nat → Nat → Bool} {n : Nat} {A B : Nat → Nat} (h1 : isCl E n A) (h2 : isCl (tr E) n B) (a b : Nat) (ha : a < n) (hb : b < n) : (A b).testBit a = (B a).testBit b := by
  have e1 := h1.2.2.2 (fun a b => (B a).testBit b = true) (fun a b ha hb h => h2.2.1 b a hb ha h) (fun a b c ha hb hc h h' => h2.2.2.1 c b a hc hb ha h' h) a b ha hb
  have e2 := h2.2.2.2 (fun a b => (A a).testBit b = true) (fun a b ha hb h => h1.2.1 b a hb ha h) (fun a b c ha hb hc h h' => h1.2.2.1 c b a hc hb ha h' h) b a hb ha
  exact Bool.eq_iff_iff.mpr ⟨e1, e2⟩
def cyc (n : Nat) (A : Nat → Nat) : Prop := ∃ b, b < n ∧ (A b).testBit b = true
theorem full_bit (n i : Nat) : (2 ^ n - 1).testBit i = decide (i < n) := Nat.testBit_two_pow_sub_one n i
theorem full_lt (n : Nat) : 2 ^ n - 1 < 2 ^ n := by
  have := Nat.two_pow_pos n
  omega
theorem ct_rank (E : Nat → Nat → Bool) (n : Nat) : ∀ (k S : Nat), S ≤ k → 0 < ct E n S → ∃ r : Nat → Nat, ∀ a b, a < n → b < n → S.testBit a = true → S.testBit b = true → E a b = true → r a < r b
  | 0, S, h, _ => by
    have : S = 0 := by omega
    subst this
    exact ⟨fun _ => 0, fun a b _ _ h => by simp at h⟩
  | k + 1, S, h, hp => by
    by_cases e : S = 0
    · subst e
      exact ⟨fun _ => 0, fun a b _ _ h => by simp at h⟩
    · rw [ct_s E n e] at hp
      obtain ⟨x, hx, hp⟩ := sm_has hp
      by_cases q : fF E n S x = true
      · rw [if_pos q] at hp
        obtain ⟨q1, q2⟩ := fF_iff.mp q
        obtain ⟨r, hr⟩ := ct_rank E n k (S ^^^ 2 ^ x) (by have := rm_lt q1; omega) hp
        refine ⟨fun z => if z = x then 0 else r z + 1, fun a b ha hb sa sb hab => ?_⟩
        by_cases hbx : b = x
        · subst hbx
          rw [q2 a ha sa] at hab
          cases hab
        · by_cases hax : a = x
          · simp [hax, hbx]
          · have := hr a b ha hb ((rm_in q1).mpr ⟨sa, hax⟩) ((rm_in q1).mpr ⟨sb, hbx⟩) hab
            simp [hax, hbx, this]
      · rw [if_neg q] at hp
        cases hp
theorem ct_nocyc {E : Nat → Nat → Bool} {n : Nat} {A : Nat → Nat} (hA : isCl E n A) (h : 0 < ct E n (2 ^ n - 1)) : ¬ cyc n A := by
  obtain ⟨r, hr⟩ := ct_rank E n _ _ (Nat.le_refl _) h
  rintro ⟨b, hb, hbb⟩
  have := hA.2.2.2 (fun a b => r a < r b) (fun a b ha hb hab => hr a b ha hb (by rw [full_bit]; simp [ha]) (by rw [full_bit]; simp [hb]) hab) (fun a b c _ _ _ h1 h2 => Nat.lt_trans h1 h2) b b hb hb hbb
  exact Nat.lt_irrefl _ this
theorem ct_first {E : Nat → Nat → Bool} {n : Nat} {A : Nat → Nat} (hA : isCl E n A) (hc : ¬ cyc n A) {S : Nat} (hS : S < 2 ^ n) (h0 : S ≠ 0) : ∃ x, x < n ∧ fF E n S x = true := by
  obtain ⟨x0, hx0⟩ := bit_ne h0
  obtain ⟨k, ⟨x, hx, hk⟩, hmin⟩ := pk_least (fun k => ∃ x, S.testBit x = true ∧ A x = k) ⟨_, x0, hx0, rfl⟩
  have hxn := bit_lt hS hx
  refine ⟨x, hxn, fF_iff.mpr ⟨hx, fun z hz hs => ?_⟩⟩
  cases hzx : E z x with
  | false => rfl
  | true =>
    exfalso
    have b1 := hA.2.1 z x hz hxn hzx
    have b2 : (A z).testBit z = false := by
      cases q : (A z).testBit z with
      | false => rfl
      | true => exact absurd ⟨z, hz, q⟩ hc
    refine hmin (A z) ?_ ⟨z, hs, rfl⟩
    rw [← hk]
    exact bit_sub_lt (fun i hi => hA.2.2.1 i z x (bit_lt (hA.1 z hz) hi) hz hxn hi b1) b2 b1
theorem ct_pos {E : Nat → Nat → Bool} {n : Nat} {A : Nat → Nat} (hA : isCl E n A) (hc : ¬ cyc n A) : ∀ (k S : Nat), S ≤ k → S < 2 ^ n → 0 < ct E n S
  | 0, S, h, _ => by
    have : S = 0 := by omega
    subst this
    exact Nat.zero_lt_one
  | k + 1, S, h, hS => by
    by_cases e : S = 0
    · subst e; exact Nat.zero_lt_one
    · obtain ⟨x, hx, hf⟩ := ct_first hA hc hS e
      have q1 := (fF_iff.mp hf).1
      rw [ct_s E n e]
      refine sm_pos hx ?_
      rw [if_pos hf]
      exact ct_pos hA hc k _ (by have := rm_lt q1; omega) (rm_lt2 hS q1)
theorem ct_cyc {E : Nat → Nat → Bool} {n : Nat} {A : Nat → Nat} (hA : isCl E n A) : 0 < ct E n (2 ^ n - 1) ↔ ¬ cyc n A := ⟨ct_nocyc hA, fun h => ct_pos hA h _ _ (Nat.le_refl _) (full_lt n)⟩
/-! Warshall's way: a middle one after the other -/
def wInv (E : Nat → Nat → Bool) (n m : Nat) (R : Nat → Nat) : Prop :=
  (∀ b, b < n → R b < 2 ^ n) ∧ (∀ a b, a < n → b < n → E a b = true → (R b).testBit a = true) ∧
  (∀ k a b, k < m → a < n → b < n → (R b).testBit k = true → (R k).testBit a = true → (R b).testBit a = true) ∧
  (∀ Q : Nat → Nat → Prop, (∀ a b, a < n → b < n → E a b = true → Q a b) → (∀ a b c, a < n → b < n → c < n → Q a b → Q b c → Q a c) → ∀ a b, a < n → b < n → (R b).testBit a = true → Q a b)
def wNext (m : Nat) (R : Nat → Nat) (b : Nat) : Nat := if (R b).testBit m = true then R b ||| R m else R b
theorem wNext_bit {m : Nat} {R : Nat → Nat} {b a : Nat} : (wNext m R b).testBit a = true ↔ (R b).testBit a = true ∨ ((R b).testBit m = true ∧ (R m).testBit a = true) := by
  unfold wNext
  by_cases h : (R b).testBit m = true
  · rw [if_pos h, Nat.testBit_or, Bool.or_eq_true]
    simp [h]
  · rw [if_neg h]
    simp [h]
theorem wNext_m {m : Nat} {R : Nat → Nat} : wNext m R m = R m := by
  unfold wNext
  split
  · exact Nat.or_self _
  · rfl
theorem wInv_0 {E : Nat → Nat → Bool} {n : Nat} : wInv E n 0 (fun b => msk (fun a => E a b) n) := by
  refine ⟨fun b _ => msk_lt _ _, fun a b ha _ h => ?_, fun k _ _ h => by omega, fun Q hQ _ a b ha hb h => ?_⟩
  · rw [msk_bit]; simp [ha, h]
  · rw [msk_bit] at h
    simp [ha] at h
    exact hQ a b ha hb h
theorem wInv_s {E : Nat → Nat → Bool} {n m : Nat} {R : Nat → Nat} (hm : m < n) (h : wInv E n m R) : wInv E n (m + 1) (wNext m R) := by
  obtain ⟨h1, h2, h3, h4⟩ := h
  refine ⟨fun b hb => ?_, fun a b ha hb hab => wNext_bit.mpr (Or.inl (h2 a b ha hb hab)), fun k a b hk ha hb hbk hka => ?_, fun Q hQ hT a b ha hb hab => ?_⟩
  · unfold wNext
    split
    · exact Nat.or_lt_two_pow (h1 b hb) (h1 m hm)
    · exact h1 b hb
  · by_cases e : k = m
    · subst e
      rw [wNext_m] at hka
      have : (R b).testBit k = true := by
        rcases wNext_bit.mp hbk with z | z
        · exact z
        · exact z.1
      exact wNext_bit.mpr (Or.inr ⟨this, hka⟩)
    · have hk : k < m := by omega
      have hkn : k < n := by omega
      rcases wNext_bit.mp hbk with z | ⟨z1, z2⟩ <;> rcases wNext_bit.mp hka with y | ⟨y1, y2⟩
      · exact wNext_bit.mpr (Or.inl (h3 k a b hk ha hb z y))
      · exact wNext_bit.mpr (Or.inr ⟨h3 k m b hk hm hb z y1, y2⟩)
      · exact wNext_bit.mpr (Or.inr ⟨z1, h3 k a m hk ha hm z2 y⟩)
      · exact wNext_bit.mpr (Or.inr ⟨z1, y2⟩)
  · rcases wNext_bit.mp hab with z | ⟨z1, z2⟩
    · exact h4 Q hQ hT a b ha hb z
    · exact hT a m b ha hm hb (h4 Q hQ hT a m ha hm z2) (h4 Q hQ hT m b hm hb z1)
theorem wInv_n {E : Nat → Nat → Bool} {n : Nat} {R : Nat → Nat} (h : wInv E n n R) : isCl E n R := ⟨h.1, h.2.1, fun a b c ha hb hc h1 h2 => h.2.2.1 b a c hb ha hc h2 h1, h.2.2.2⟩
/-! rounds: a set that takes in what must be ahead of its books -/
def upC (E : Nat → Nat → Bool) (n U : Nat) : Prop := ∀ o k, o < n → k < n → E o k = true → U.testBit k = true → U.testBit o = true
/-- after r rounds from the books ahead of b -/
def rInv (E : Nat → Nat → Bool) (n b r S : Nat) : Prop :=
  S < 2 ^ n ∧ (∀ o, o < n → E o b = true → S.testBit o = true) ∧ (∀ U, upC E n U → (∀ o, o < n → E o b = true → U.testBit o = true) → ∀ o, o < n → S.testBit o = true → U.testBit o = true) ∧ (upC E n S ∨ r ≤ cd n S)
theorem rInv_0 {E : Nat → Nat → Bool} {n b : Nat} : rInv E n b 0 (msk (fun a => E a b) n) := by
  refine ⟨msk_lt _ _, fun o ho h => ?_, fun U _ hU o ho h => ?_, Or.inr (Nat.zero_le _)⟩
  · rw [msk_bit]; simp [ho, h]
  · rw [msk_bit] at h
    simp [ho] at h
    exact hU o ho h
theorem rInv_s {E : Nat → Nat → Bool} {n b r S T : Nat} (h : rInv E n b r S) (hT : T < 2 ^ n) (h1 : ∀ i, S.testBit i = true → T.testBit i = true)
    (h2 : ∀ U, upC E n U → (∀ i, i < n → S.testBit i = true → U.testBit i = true) → ∀ i, i < n → T.testBit i = true → U.testBit i = true)
    (h3 : ∀ o k, o < n → k < n → E o k = true → S.testBit k = true → T.testBit o = true) : rInv E n b (r + 1) T := by
  obtain ⟨a1, a2, a3, a4⟩ := h
  refine ⟨hT, fun o ho ho2 => h1 o (a2 o ho ho2), fun U hU hb o ho ht => h2 U hU (fun i hi hs => a3 U hU hb i hi hs) o ho ht, ?_⟩
  by_cases e : T = S
  · subst e
    exact Or.inl h3
  · have hx : ∃ x, x < n ∧ S.testBit x = false ∧ T.testBit x = true := by
      apply Classical.byContradiction
      intro hno
      apply e
      refine bit_ext hT a1 (fun i hi => ?_)
      cases hs : S.testBit i with
      | true => exact h1 i hs
      | false =>
        cases ht : T.testBit i with
        | false => rfl
        | true => exact absurd ⟨i, hi, hs, ht⟩ hno
    obtain ⟨x, hx, hs, ht⟩ := hx
    rcases a4 with z | z
    · have := h2 S z (fun _ _ q => q) x hx ht
      rw [hs] at this
      cases this
    · have := cd_grow h1 hs ht n hx
      exact Or.inr (by omega)
theorem rInv_up {E : Nat → Nat → Bool} {n b r S : Nat} (hr : n ≤ r) (h : rInv E n b r S) : upC E n S := by
  rcases h.2.2.2 with z | z
  · exact z
  · intro o k ho hk _ _
    exact cd_full n (by omega) o ho
theorem rInv_cl {E : Nat → Nat → Bool} {n b r S : Nat} {A : Nat → Nat} (hA : isCl E n A) (hb : b < n) (hr : n ≤ r) (h : rInv E n b r S) : S = A b := by
  have hu := rInv_up hr h
  obtain ⟨a1, a2, a3, -⟩ := h
  refine bit_ext a1 (hA.1 b hb) (fun i hi => Bool.eq_iff_iff.mpr ⟨fun hs => ?_, fun hs => ?_⟩)
  · exact a3 (A b) (fun o k ho hk hok hkb => hA.2.2.1 o k b ho hk hb (hA.2.1 o k ho hk hok) hkb) (fun o ho hob => hA.2.1 o b ho hb hob) i hi hs
  · have := hA.2.2.2 (fun x y => (y = b ∨ S.testBit y = true) → S.testBit x = true) (fun x y hx hy hxy q => by
      rcases q with rfl | q
      · exact a2 x hx hxy
      · exact hu x y hx hy hxy q) (fun x y z _ _ _ q1 q2 q3 => q1 (Or.inr (q2 q3))) i b hi hb hs
    exact this (Or.inl rfl)
/-! ways of at most r steps: o before b -/
def pB (E : Nat → Nat → Bool) (n : Nat) : Nat → Nat → Nat → Bool
  | 0, o, b => decide (o = b)
  | r + 1, o, b => pB E n r o b || decide (∃ k, k < n ∧ E o k = true ∧ pB E n r k b = true)
theorem pB_s {E : Nat → Nat → Bool} {n r o b : Nat} : pB E n (r + 1) o b = true ↔ pB E n r o b = true ∨ ∃ k, k < n ∧ E o k = true ∧ pB E n r k b = true := by
  rw [pB, Bool.or_eq_true, decide_eq_true_iff]
theorem pB_front {E : Nat → Nat → Bool} {n : Nat} : ∀ (r o b : Nat), o < n → b < n → pB E n (r + 1) o b = true → pB E n r o b = true ∨ ∃ a, a < n ∧ E a b = true ∧ pB E n r o a = true
  | 0, o, b, ho, hb, h => by
    rcases pB_s.mp h with z | ⟨k, hk, h1, h2⟩
    · exact Or.inl z
    · rw [pB, decide_eq_true_iff] at h2
      subst h2
      exact Or.inr ⟨o, ho, h1, by rw [pB]; simp⟩
  | r + 1, o, b, ho, hb, h => by
    rcases pB_s.mp h with z | ⟨k, hk, h1, h2⟩
    · exact Or.inl z
    · rcases pB_front r k b hk hb h2 with y | ⟨a, ha, y1, y2⟩
      · exact Or.inl (pB_s.mpr (Or.inr ⟨k, hk, h1, y⟩))
      · exact Or.inr ⟨a, ha, y1, pB_s.mpr (Or.inr ⟨k, hk, h1, y2⟩)⟩
theorem pB_card {E : Nat → Nat → Bool} {n b : Nat} (hb : b < n) : ∀ r : Nat, (∀ o k, o < n → k < n → E o k = true → pB E n r k b = true → pB E n r o b = true) ∨ r + 1 ≤ cd n (msk (fun o => pB E n r o b) n)
  | 0 => by
    right
    have h1 := cd_grow (S := 0) (T := msk (fun o => pB E n 0 o b) n) (x := b) (fun i h => by simp at h) (by simp) (by rw [msk_bit]; simp [hb, pB]) n hb
    rw [cd_0] at h1
    omega
  | r + 1 => by
    by_cases hcl : ∀ o k, o < n → k < n → E o k = true → pB E n r k b = true → pB E n r o b = true
    · left
      intro o k ho hk hok h
      have e : ∀ x, x < n → pB E n (r + 1) x b = true → pB E n r x b = true := fun x hx h => by
        rcases pB_s.mp h with z | ⟨y, hy, h1, h2⟩
        · exact z
        · exact hcl x y hx hy h1 h2
      exact pB_s.mpr (Or.inl (hcl o k ho hk hok (e k hk h)))
    · right
      have hc : r + 1 ≤ cd n (msk (fun o => pB E n r o b) n) := by
        rcases pB_card hb r with z | z
        · exact absurd z hcl
        · exact z
      have hx : ∃ o k, o < n ∧ k < n ∧ E o k = true ∧ pB E n r k b = true ∧ pB E n r o b = false := by
        apply Classical.byContradiction
        intro hno
        apply hcl
        intro o k ho hk h1 h2
        cases q : pB E n r o b with
        | true => rfl
        | false => exact absurd ⟨o, k, ho, hk, h1, h2, q⟩ hno
      obtain ⟨o, k, ho, hk, h1, h2, h3⟩ := hx
      have h4 := cd_grow (S := msk (fun o => pB E n r o b) n) (T := msk (fun o => pB E n (r + 1) o b) n) (x := o) (fun i hi => by
        rw [msk_bit] at hi ⊢
        rw [Bool.and_eq_true] at hi ⊢
        exact ⟨hi.1, pB_s.mpr (Or.inl hi.2)⟩) (by rw [msk_bit, h3]; simp) (by
        rw [msk_bit, Bool.and_eq_true]
        exact ⟨by simp [ho], pB_s.mpr (Or.inr ⟨k, hk, h1, h2⟩)⟩) n ho
      omega
theorem pB_id {E : Nat → Nat → Bool} {n b : Nat} : ∀ r : Nat, pB E n r b b = true
  | 0 => by simp [pB]
  | r + 1 => pB_s.mpr (Or.inl (pB_id r))
theorem pB_all {E : Nat → Nat → Bool} {n b o : Nat} {A : Nat → Nat} (hA : isCl E n A) (hb : b < n) (ho : o < n) (h : o = b ∨ (A b).testBit o = true) : pB E n n o b = true := by
  have hcl : ∀ o k, o < n → k < n → E o k = true → pB E n n k b = true → pB E n n o b = true := by
    rcases pB_card hb n with z | z
    · exact z
    · have := cd_le (msk (fun o => pB E n n o b) n) n
      omega
  rcases h with rfl | h
  · exact pB_id n
  · exact hA.2.2.2 (fun x y => pB E n n y b = true → pB E n n x b = true) hcl (fun x y z _ _ _ q1 q2 q3 => q1 (q2 q3)) o b ho hb h (pB_id n)
