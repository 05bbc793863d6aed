/-! finite sums, sets of books as masks, orders counted by the first and by the last -/
def sm (f : Nat → Nat) : Nat → Nat
  | 0 => 0
  | n + 1 => sm f n + f n
theorem sm_congr {f g : Nat → Nat} : ∀ {n : Nat}, (∀ i, i < n → f i = g i) → sm f n = sm g n
  | 0, _ => rfl
  | n + 1, h => by
    show sm f n + f n = sm g n + g n
    rw [sm_congr (fun i hi => h i (by omega)), h n (by omega)]
theorem sm_add (f g : Nat → Nat) : ∀ n, sm (fun i => f i + g i) n = sm f n + sm g n
  | 0 => rfl
  | n + 1 => by
    show sm (fun i => f i + g i) n + (f n + g n) = (sm f n + f n) + (sm g n + g n)
    rw [sm_add f g n]
    omega
theorem sm_zero : ∀ n, sm (fun _ => 0) n = 0
  | 0 => rfl
  | n + 1 => by
    show sm (fun _ => 0) n + 0 = 0
    rw [sm_zero n]
theorem sm_swap (f : Nat → Nat → Nat) (m : Nat) : ∀ n, sm (fun i => sm (f i) m) n = sm (fun j => sm (fun i => f i j) n) m
  | 0 => (sm_zero m).symm
  | n + 1 => by
    show sm (fun i => sm (f i) m) n + sm (f n) m = sm (fun j => sm (fun i => f i j) n + f n j) m
    rw [sm_swap f m n, sm_add]
theorem sm_le {f g : Nat → Nat} : ∀ {n : Nat}, (∀ i, i < n → f i ≤ g i) → sm f n ≤ sm g n
  | 0, _ => Nat.le_refl 0
  | n + 1, h => by
    show sm f n + f n ≤ sm g n + g n
    have h1 := sm_le (f := f) (g := g) (n := n) (fun i hi => h i (by omega))
    have h2 := h n (by omega)
    omega
theorem sm_mul (f : Nat → Nat) (c : Nat) : ∀ n, sm (fun i => f i * c) n = sm f n * c
  | 0 => (Nat.zero_mul c).symm
  | n + 1 => by
    show sm (fun i => f i * c) n + f n * c = (sm f n + f n) * c
    rw [sm_mul f c n, Nat.add_mul]
theorem sm_pos {f : Nat → Nat} : ∀ {n i : Nat}, i < n → 0 < f i → 0 < sm f n
  | 0, _, h, _ => by omega
  | n + 1, i, h, hp => by
    show 0 < sm f n + f n
    by_cases e : i = n
    · subst e; omega
    · have := sm_pos (f := f) (n := n) (i := i) (by omega) hp
      omega
theorem sm_has {f : Nat → Nat} : ∀ {n : Nat}, 0 < sm f n → ∃ i, i < n ∧ 0 < f i
  | 0, h => by cases h
  | n + 1, h => by
    by_cases e : 0 < f n
    · exact ⟨n, by omega, e⟩
    · have h2 : 0 < sm f n := by
        have h3 : 0 < sm f n + f n := h
        omega
      obtain ⟨i, h3, h4⟩ := sm_has h2
      exact ⟨i, by omega, h4⟩
/-! masks -/
def msk (p : Nat → Bool) : Nat → Nat
  | 0 => 0
  | n + 1 => msk p n ||| (if p n then 2 ^ n else 0)
theorem msk_bit (p : Nat → Bool) : ∀ n i, (msk p n).testBit i = (decide (i < n) && p i)
  | 0, i => by simp [msk]
  | n + 1, i => by
    rw [msk, Nat.testBit_or, msk_bit p n i]
    by_cases e : i = n
    · subst e
      by_cases h : p i = true
      · simp [h]
      · simp [h]
    · have e2 : ¬ n = i := fun z => e z.symm
      have e3 : decide (i < n + 1) = decide (i < n) := by
        by_cases z : i < n
        · simp [z, show i < n + 1 by omega]
        · simp [z, show ¬ i < n + 1 by omega]
      rw [e3]
      by_cases h : p n = true
      · simp [h, Nat.testBit_two_pow, e2]
      · simp [h]
theorem msk_lt (p : Nat → Bool) (n : Nat) : msk p n < 2 ^ n := by
  apply Nat.lt_pow_two_of_testBit
  intro i hi
  rw [msk_bit, decide_eq_false (by omega), Bool.false_and]
theorem bit_out {S n i : Nat} (h : S < 2 ^ n) (hi : n ≤ i) : S.testBit i = false := Nat.testBit_lt_two_pow (Nat.lt_of_lt_of_le h (Nat.pow_le_pow_right (by decide) hi))
theorem bit_lt {S n i : Nat} (h : S < 2 ^ n) (hi : S.testBit i = true) : i < n := by
  rcases Nat.lt_or_ge i n with h1 | h1
  · exact h1
  · rw [bit_out h h1] at hi; cases hi
theorem bit_ext {S T n : Nat} (hS : S < 2 ^ n) (hT : T < 2 ^ n) (h : ∀ i, i < n → S.testBit i = T.testBit i) : S = T := by
  apply Nat.eq_of_testBit_eq
  intro i
  rcases Nat.lt_or_ge i n with h1 | h1
  · exact h i h1
  · rw [bit_out hS h1, bit_out hT h1]
theorem bit_sub_le {A B : Nat} (h : ∀ i, A.testBit i = true → B.testBit i = true) : A ≤ B := by
  have e : A &&& B = A := by
    apply Nat.eq_of_testBit_eq
    intro i
    rw [Nat.testBit_and]
    cases hA : A.testBit i with
    | false => rfl
    | true => rw [h i hA]; rfl
  rw [← e]
  exact Nat.and_le_right
theorem bit_sub_lt {A B i : Nat} (h : ∀ i, A.testBit i = true → B.testBit i = true) (hA : A.testBit i = false) (hB : B.testBit i = true) : A < B := by
  rcases Nat.lt_or_ge A B with h1 | h1
  · exact h1
  · have := Nat.le_antisymm (bit_sub_le h) h1
    subst this
    rw [hA] at hB; cases hB
theorem rm_bit (S x i : Nat) : (S ^^^ 2 ^ x).testBit i = (S.testBit i ^^ decide (x = i)) := by rw [Nat.testBit_xor, Nat.testBit_two_pow]
theorem rm_in {S x i : Nat} (hx : S.testBit x = true) : (S ^^^ 2 ^ x).testBit i = true ↔ S.testBit i = true ∧ i ≠ x := by
  rw [rm_bit]
  by_cases e : x = i
  · subst e; simp [hx]
  · have e2 : i ≠ x := fun z => e z.symm
    simp [e, e2]
theorem rm_lt {S x : Nat} (hx : S.testBit x = true) : S ^^^ 2 ^ x < S := by
  refine bit_sub_lt (i := x) (fun i hi => ((rm_in hx).mp hi).1) ?_ hx
  rw [rm_bit, hx]; simp
theorem rm_lt2 {S x n : Nat} (hS : S < 2 ^ n) (hx : S.testBit x = true) : S ^^^ 2 ^ x < 2 ^ n := Nat.lt_trans (rm_lt hx) hS
theorem bit_ne {S : Nat} (h : S ≠ 0) : ∃ i, S.testBit i = true := Nat.exists_testBit_of_ne_zero h
/-! how many books a set has -/
def cd (n S : Nat) : Nat := sm (fun i => if S.testBit i = true then 1 else 0) n
theorem cd_0 (n : Nat) : cd n 0 = 0 := by
  unfold cd
  rw [sm_congr (g := fun _ => 0) (fun i _ => by simp), sm_zero]
theorem cd_le (S : Nat) : ∀ n, cd n S ≤ n
  | 0 => Nat.le_refl 0
  | n + 1 => by
    show cd n S + (if S.testBit n = true then 1 else 0) ≤ n + 1
    have := cd_le S n
    split <;> omega
theorem cd_mono {S T : Nat} (h : ∀ i, S.testBit i = true → T.testBit i = true) (n : Nat) : cd n S ≤ cd n T := sm_le (fun i _ => by
  by_cases e : S.testBit i = true
  · simp [e, h i e]
  · simp [e])
theorem cd_grow {S T x : Nat} (h : ∀ i, S.testBit i = true → T.testBit i = true) (hS : S.testBit x = false) (hT : T.testBit x = true) : ∀ n, x < n → cd n S < cd n T
  | 0, hx => by omega
  | n + 1, hx => by
    show cd n S + (if S.testBit n = true then 1 else 0) < cd n T + (if T.testBit n = true then 1 else 0)
    by_cases e : x = n
    · subst e
      have := cd_mono h x
      simp [hS, hT]
      omega
    · have h1 := cd_grow h hS hT n (by omega)
      by_cases e1 : S.testBit n = true
      · simp [e1, h n e1, h1]
      · simp [e1]
        omega
theorem cd_full {S : Nat} : ∀ n, n ≤ cd n S → ∀ i, i < n → S.testBit i = true
  | 0, _, i, hi => by omega
  | n + 1, h, i, hi => by
    have h0 : n + 1 ≤ cd n S + (if S.testBit n = true then 1 else 0) := h
    have h1 := cd_le S n
    have h2 : S.testBit n = true := by
      by_cases e : S.testBit n = true
      · exact e
      · simp [e] at h0; omega
    by_cases e : i = n
    · subst e; exact h2
    · simp [h2] at h0
      exact cd_full n (by omega) i (by omega)
theorem cd_rm {S x : Nat} (hx : S.testBit x = true) : ∀ n, x < n → cd n (S ^^^ 2 ^ x) + 1 = cd n S
  | 0, h => by omega
  | n + 1, h => by
    show cd n (S ^^^ 2 ^ x) + (if (S ^^^ 2 ^ x).testBit n = true then 1 else 0) + 1 = cd n S + (if S.testBit n = true then 1 else 0)
    by_cases e : x = n
    · subst e
      have e1 : (S ^^^ 2 ^ x).testBit x = false := by rw [rm_bit, hx]; simp
      have e2 : cd x (S ^^^ 2 ^ x) = cd x S := sm_congr (fun i hi => by
        have : (S ^^^ 2 ^ x).testBit i = S.testBit i := by rw [rm_bit, decide_eq_false (by omega)]; simp
        rw [this])
      rw [e1, e2, hx]
      simp
    · have ih := cd_rm hx n (by omega)
      have e1 : (S ^^^ 2 ^ x).testBit n = S.testBit n := by rw [rm_bit, decide_eq_false e]; simp
      rw [e1]
      omega
/-! orders of a set -/
/-- x is of the set, and no other one of it must be ahead of x -/
def fF (E : Nat → Nat → Bool) (n S x : Nat) : Bool := S.testBit x && decide (∀ z, z < n → S.testBit z = true → E z x = false)
def tr (E : Nat → Nat → Bool) : Nat → Nat → Bool := fun a b => E b a
theorem fF_iff {E : Nat → Nat → Bool} {n S x : Nat} : fF E n S x = true ↔ S.testBit x = true ∧ ∀ z, z < n → S.testBit z = true → E z x = false := by
  unfold fF
  rw [Bool.and_eq_true, decide_eq_true_iff]
def cF (E : Nat → Nat → Bool) (n : Nat) : Nat → Nat → Nat
  | 0, _ => 1
  | k + 1, S => if S = 0 then 1 else sm (fun x => if fF E n S x = true then cF E n k (S ^^^ 2 ^ x) else 0) n
theorem cF_z (E : Nat → Nat → Bool) (n : Nat) : ∀ k, cF E n k 0 = 1
  | 0 => rfl
  | k + 1 => by simp [cF]
theorem cF_fuel (E : Nat → Nat → Bool) (n : Nat) : ∀ (k k' S : Nat), S ≤ k → S ≤ k' → cF E n k S = cF E n k' S
  | 0, k', S, h, _ => by
    have : S = 0 := by omega
    subst this
    rw [cF_z, cF_z]
  | k + 1, k', S, h, h' => by
    by_cases e : S = 0
    · subst e; rw [cF_z, cF_z]
    · match k', h' with
      | 0, h' => omega
      | k'' + 1, h' =>
        rw [cF, cF, if_neg e, if_neg e]
        refine sm_congr (fun x _ => ?_)
        by_cases hx : fF E n S x = true
        · have := rm_lt (fF_iff.mp hx).1
          rw [if_pos hx, if_pos hx, cF_fuel E n k k'' _ (by omega) (by omega)]
        · rw [if_neg hx, if_neg hx]
def ct (E : Nat → Nat → Bool) (n S : Nat) : Nat := cF E n S S
theorem ct_0 (E : Nat → Nat → Bool) (n : Nat) : ct E n 0 = 1 := rfl
theorem ct_s (E : Nat → Nat → Bool) (n : Nat) {S : Nat} (h : S ≠ 0) : ct E n S = sm (fun x => if fF E n S x = true then ct E n (S ^^^ 2 ^ x) else 0) n := by
  obtain ⟨k, rfl⟩ : ∃ k, S = k + 1 := ⟨S - 1, by omega⟩
  show cF E n (k + 1) (k + 1) = _
  rw [cF, if_neg h]
  refine sm_congr (fun x _ => ?_)
  by_cases hx : fF E n (k + 1) x = true
  · have := rm_lt (fF_iff.mp hx).1
    rw [if_pos hx, if_pos hx]
    exact cF_fuel E n k _ _ (by omega) (Nat.le_refl _)
  · rw [if_neg hx, if_neg hx]
theorem fF_two {E : Nat → Nat → Bool} {n S x y : Nat} (hx : x < n) (hy : y < n) (h1 : fF E n S x = true) (h2 : fF (tr E) n (S ^^^ 2 ^ x) y = true) : fF (tr E) n S y = true ∧ fF E n (S ^^^ 2 ^ y) x = true := by
  obtain ⟨a1, a2⟩ := fF_iff.mp h1
  obtain ⟨b1, b2⟩ := fF_iff.mp h2
  obtain ⟨b3, b4⟩ := (rm_in a1).mp b1
  refine ⟨fF_iff.mpr ⟨b3, fun z hz hs => ?_⟩, fF_iff.mpr ⟨(rm_in b3).mpr ⟨a1, fun e => b4 e.symm⟩, fun z hz hs => a2 z hz ((rm_in b3).mp hs).1⟩⟩
  by_cases e : z = x
  · subst e
    exact a2 y hy b3
  · exact b2 z hz ((rm_in a1).mpr ⟨hs, e⟩)
theorem ct_tr {E : Nat → Nat → Bool} (hE : ∀ a, E a a = false) (n : Nat) : ∀ (k S : Nat), S ≤ k → ct E n S = ct (tr E) n S
  | 0, S, h => by
    have : S = 0 := by omega
    subst this; rfl
  | k + 1, S, h => by
    by_cases e : S = 0
    · subst e; rfl
    · have ih : ∀ x, S.testBit x = true → ct E n (S ^^^ 2 ^ x) = ct (tr E) n (S ^^^ 2 ^ x) := fun x hx => ct_tr hE n k _ (by have := rm_lt hx; omega)
      by_cases hs : ∃ x, S.testBit x = true ∧ S ^^^ 2 ^ x = 0
      · obtain ⟨x, hx, hz⟩ := hs
        have hSx : ∀ y, S.testBit y = true → y = x := fun y hy => by
          by_cases q : y = x
          · exact q
          · have := (rm_in hx).mpr ⟨hy, q⟩
            rw [hz] at this
            simp at this
        have key : ∀ (E' : Nat → Nat → Bool), (∀ a, E' a a = false) → ∀ y, fF E' n S y = S.testBit y := fun E' hE' y => by
          cases hy : S.testBit y with
          | false =>
            cases hf : fF E' n S y with
            | false => rfl
            | true => rw [(fF_iff.mp hf).1] at hy; cases hy
          | true =>
            refine fF_iff.mpr ⟨hy, fun z _ hz => ?_⟩
            rw [hSx z hz, hSx y hy]
            exact hE' x
        rw [ct_s E n e, ct_s (tr E) n e]
        refine sm_congr (fun y _ => ?_)
        rw [key E hE y, key (tr E) hE y]
        by_cases hy : S.testBit y = true
        · rw [if_pos hy, if_pos hy, ih y hy]
        · rw [if_neg hy, if_neg hy]
      · have hne : ∀ x, S.testBit x = true → S ^^^ 2 ^ x ≠ 0 := fun x hx z => hs ⟨x, hx, z⟩
        have e1 : ct E n S = sm (fun x => sm (fun y => if fF E n S x = true ∧ fF (tr E) n (S ^^^ 2 ^ x) y = true then ct (tr E) n (S ^^^ 2 ^ x ^^^ 2 ^ y) else 0) n) n := by
          rw [ct_s E n e]
          refine sm_congr (fun x _ => ?_)
          by_cases hx : fF E n S x = true
          · have hx1 := (fF_iff.mp hx).1
            rw [if_pos hx, ih x hx1, ct_s (tr E) n (hne x hx1)]
            refine sm_congr (fun y _ => ?_)
            by_cases hy : fF (tr E) n (S ^^^ 2 ^ x) y = true
            · rw [if_pos hy, if_pos ⟨hx, hy⟩]
            · rw [if_neg hy, if_neg (fun q => hy q.2)]
          · rw [if_neg hx, sm_congr (g := fun _ => 0) (fun y _ => if_neg (fun q => hx q.1)), sm_zero]
        have e2 : ct (tr E) n S = sm (fun y => sm (fun x => if fF (tr E) n S y = true ∧ fF E n (S ^^^ 2 ^ y) x = true then ct E n (S ^^^ 2 ^ y ^^^ 2 ^ x) else 0) n) n := by
          rw [ct_s (tr E) n e]
          refine sm_congr (fun y _ => ?_)
          by_cases hy : fF (tr E) n S y = true
          · have hy1 := (fF_iff.mp hy).1
            rw [if_pos hy, ← ih y hy1, ct_s E n (hne y hy1)]
            refine sm_congr (fun x _ => ?_)
            by_cases hx : fF E n (S ^^^ 2 ^ y) x = true
            · rw [if_pos hx, if_pos ⟨hy, hx⟩]
            · rw [if_neg hx, if_neg (fun q => hx q.2)]
          · rw [if_neg hy, sm_congr (g := fun _ => 0) (fun x _ => if_neg (fun q => hy q.1)), sm_zero]
        rw [e1, e2, sm_swap (fun y x => if fF (tr E) n S y = true ∧ fF E n (S ^^^ 2 ^ y) x = true then ct E n (S ^^^ 2 ^ y ^^^ 2 ^ x) else 0)]
        refine sm_congr (fun x hx => sm_congr (fun y hy => ?_))
        by_cases q : fF E n S x = true ∧ fF (tr E) n (S ^^^ 2 ^ x) y = true
        · have q2 := fF_two hx hy q.1 q.2
          rw [if_pos q, if_pos q2]
          have h1 := rm_lt (fF_iff.mp q2.1).1
          have h2 := rm_lt (fF_iff.mp q2.2).1
          rw [ct_tr hE n k (S ^^^ 2 ^ y ^^^ 2 ^ x) (by omega), Nat.xor_assoc, Nat.xor_comm (2 ^ x), ← Nat.xor_assoc]
        · have q2 : ¬ (fF (tr E) n S y = true ∧ fF E n (S ^^^ 2 ^ y) x = true) := fun z => q (by
            have := fF_two (E := tr E) hy hx z.1 z.2
            exact this)
          rw [if_neg q, if_neg q2]
def fct : Nat → Nat
  | 0 => 1
  | n + 1 => (n + 1) * fct n
theorem ct_le (E : Nat → Nat → Bool) (n : Nat) : ∀ (k S : Nat), S ≤ k → S < 2 ^ n → ct E n S ≤ fct (cd n S)
  | 0, S, h, _ => by
    have : S = 0 := by omega
    subst this
    rw [cd_0]
    exact Nat.le_refl 1
  | k + 1, S, h, hS => by
    by_cases e : S = 0
    · subst e
      rw [cd_0]
      exact Nat.le_refl 1
    · obtain ⟨x0, hx0⟩ := bit_ne e
      have hx0n := bit_lt hS hx0
      have c0 := cd_rm hx0 n hx0n
      obtain ⟨c, hc⟩ : ∃ c, cd n S = c + 1 := ⟨_, c0.symm⟩
      rw [ct_s E n e, hc, fct, ← hc]
      have e1 : sm (fun x => if fF E n S x = true then ct E n (S ^^^ 2 ^ x) else 0) n ≤ sm (fun x => (if S.testBit x = true then 1 else 0) * fct c) n := by
        refine sm_le (fun x hx => ?_)
        by_cases q : fF E n S x = true
        · have q1 := (fF_iff.mp q).1
          have := ct_le E n k (S ^^^ 2 ^ x) (by have := rm_lt q1; omega) (rm_lt2 hS q1)
          have c1 := cd_rm q1 n hx
          rw [show cd n (S ^^^ 2 ^ x) = c by omega] at this
          rw [if_pos q, if_pos q1, Nat.one_mul]
          exact this
        · rw [if_neg q]
          exact Nat.zero_le _
      rw [sm_mul] at e1
      exact e1
theorem fct_10 : ∀ k, k < 11 → fct k ≤ 3628800 := by decide +kernel
theorem ct_bd (E : Nat → Nat → Bool) {n S : Nat} (hn : n ≤ 10) (hS : S < 2 ^ n) : ct E n S ≤ 3628800 := Nat.le_trans (ct_le E n S S (Nat.le_refl _) hS) (fct_10 _ (by have := cd_le S n; omega))
