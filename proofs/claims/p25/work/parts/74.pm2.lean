/-! the property's own mathematics: years, presses, what a book shows, the script -/
theorem z_le {k : Nat} (h : k < 2 ^ 31) : (0 : Int32) ≤ nI k := (nI_leI (a := 0) (by decide) h).mpr (Nat.zero_le k)
theorem nI_nneg {k : Nat} (h : k < 2 ^ 31) : ¬ nI k < 0 := Int32.not_lt.mpr (z_le h)
theorem fy_rg {n b : Nat} {M Y : Nat → Int32} {E : Nat → Nat → Bool} (hY : yrOk n M Y) (hb : b < n) : 1450 ≤ fyV E n Y b ∧ (Y b ≠ -1 → Y b ≤ fyV E n Y b) := by
  have h := fyR_is Y (fun o => decide (o = b) || (clo E n b).testBit o) n
  exact ⟨h.1, fun q => h.2.1 b hb (by simp) q⟩
theorem ly_rg {n b : Nat} {M Y : Nat → Int32} {E : Nat → Nat → Bool} (hY : yrOk n M Y) (hb : b < n) : lyV E n Y b ≤ 1999 ∧ (Y b ≠ -1 → lyV E n Y b ≤ Y b) := by
  have h := lyR_is Y (fun o => decide (o = b) || (clo (tr E) n b).testBit o) n
  exact ⟨h.1, fun q => h.2.1 b hb (by simp) q⟩
def prOk (n : Nat) (P : Nat → Int32) : Prop := ∀ b, b < n → P b = 0 ∨ P b = 1 ∨ P b = 2
theorem pr_sum {n : Nat} {P : Nat → Int32} (h : prOk n P) : havP n P 0 + havP n P 1 + havP n P 2 = n := by
  unfold havP
  rw [← sm_add, ← sm_add]
  have h2 : ∀ m, sm (fun _ => 1) m = m := fun m => by
    induction m with
    | zero => rfl
    | succ m ih => show sm (fun _ => 1) m + 1 = m + 1; rw [ih]
  refine (sm_congr (fun i hi => ?_)).trans (h2 n)
  rcases h i hi with q | q | q <;> rw [q] <;> decide
theorem havP_le {n : Nat} {P : Nat → Int32} {p : Int32} : havP n P p ≤ n := by
  have h2 : ∀ m, sm (fun _ => 1) m = m := fun m => by
    induction m with
    | zero => rfl
    | succ m ih => show sm (fun _ => 1) m + 1 = m + 1; rw [ih]
  have : sm (fun b => if P b = p then 1 else 0) n ≤ sm (fun _ => 1) n := sm_le (fun i _ => by split <;> decide)
  rw [h2] at this
  exact this
theorem havY_le {n : Nat} {Y : Nat → Int32} : havY n Y ≤ n := by
  have h2 : ∀ m, sm (fun _ => 1) m = m := fun m => by
    induction m with
    | zero => rfl
    | succ m ih => show sm (fun _ => 1) m + 1 = m + 1; rw [ih]
  have : sm (fun b => if Y b = -1 then 0 else 1) n ≤ sm (fun _ => 1) n := sm_le (fun i _ => by split <;> decide)
  rw [h2] at this
  exact this
/-! dating: the books with a year, afterwards -/
theorem dt_have {E : Nat → Nat → Bool} {n : Nat} {M Y Y' : Nat → Int32} (hY : yrOk n M Y) (h : ∀ b, b < n → Y' b = dtY E n Y b) : havY n Y' = havY n Y + dtN E n Y n := by
  unfold havY dtN
  rw [← sm_add]
  refine sm_congr (fun b hb => ?_)
  rw [h b hb]
  unfold dtY
  by_cases q : Y b = -1 ∧ fyV E n Y b = lyV E n Y b
  · rw [if_pos q, if_pos q, if_pos q.1]
    have := (fy_rg (E := E) hY hb).1
    rw [if_neg (fun e => by rw [e] at this; exact absurd this (by decide))]
  · rw [if_neg q, if_neg q]
    rfl
/-! what a book shows -/
theorem ones_k : ∀ a, a < 64 → ∀ b, b < 64 → f_L_ones (nI (64 * a + b)) = some (nI (cd 12 (64 * a + b))) := by decide +kernel
theorem ones_e {k : Nat} (h : k < 4096) : f_L_ones (nI k) = some (nI (cd 12 k)) := by
  have := ones_k (k / 64) (by omega) (k % 64) (by omega)
  rw [show 64 * (k / 64) + k % 64 = k by omega] at this
  exact this
theorem lm_ones {n b : Nat} {L : Nat → Int32} (hL : lmOk n L) (hb : b < n) : f_L_ones (L b) = some (nI (cd 12 (L b).toNatClampNeg)) := by
  obtain ⟨h1, h2⟩ := hL b hb
  obtain ⟨k, hk, e⟩ := nI_of (Int32.not_lt.mpr h1)
  rw [e] at h2 ⊢
  rw [nI_tc hk]
  exact ones_e (by have := (nI_leI hk (show 4095 < 2 ^ 31 by decide)).mp h2; omega)
/-- the reasons why a must be ahead of b: an odd number by a letter, four and more by the year -/
theorem by_vals (P L M Y : Nat → Int32) (a b : Nat) :
    let l : Bool := decide (P a = P b) && decide (¬ L b &&& ~~~(L a) = 0)
    let m : Bool := decide (P a = P b) && lessB (M a) (M b)
    let y : Bool := lessB (Y a) (Y b)
    spBy P L M Y a b = (if l = true then 1 else 0) + (if m = true then 2 else 0) + (if y = true then 4 else 0) := by
  intro l m y
  unfold spBy
  by_cases h1 : P a = P b <;> by_cases h2 : L b &&& ~~~(L a) = 0 <;> by_cases h3 : lessB (M a) (M b) = true <;> by_cases h4 : lessB (Y a) (Y b) = true <;> simp [l, m, y, h1, h2, h3, h4]
theorem by_num : ∀ l m y : Bool, (let x : Int32 := (if l = true then 1 else 0) + (if m = true then 2 else 0) + (if y = true then 4 else 0); (0 ≤ x ∧ x ≤ 7) ∧ (x - x / 2 * 2 = 1 ↔ l = true) ∧ (4 ≤ x ↔ y = true) ∧ (x ≤ 0 ↔ x = 0)) := by decide +kernel
theorem by_odd (P L M Y : Nat → Int32) (a b : Nat) : (spBy P L M Y a b - spBy P L M Y a b / 2 * 2 = 1) ↔ (P a = P b ∧ ¬ L b &&& ~~~(L a) = 0) := by
  rw [by_vals, (by_num _ _ _).2.1]
  simp
theorem by_four (P L M Y : Nat → Int32) (a b : Nat) : 4 ≤ spBy P L M Y a b ↔ lessB (Y a) (Y b) = true := by
  rw [by_vals, (by_num _ _ _).2.2.1]
theorem by_pos (P L M Y : Nat → Int32) (a b : Nat) : spBy P L M Y a b ≤ 0 ↔ spBy P L M Y a b = 0 := by
  rw [by_vals, (by_num _ _ _).2.2.2]
theorem eB_by {P L M Y : Nat → Int32} {a b : Nat} (h : a ≠ b) : eB P L M Y a b = true ↔ ¬ spBy P L M Y a b = 0 := by
  unfold eB
  simp [h]
theorem eB_no {P L M Y : Nat → Int32} {a b : Nat} (h : a ≠ b) (q : eB P L M Y a b = false) : spBy P L M Y a b = 0 := by
  unfold eB at q
  simpa [h] using q
/-! with nothing known of a letter, no book must be ahead that must not now -/
theorem cl_bits (x y m : Int32) (h : x &&& ~~~y = 0) : (x &&& m) &&& ~~~(y &&& m) = 0 := by
  apply Int32.toBitVec_inj.mp
  have h1 := congrArg Int32.toBitVec h
  apply BitVec.eq_of_getLsbD_eq
  intro i hi
  have h2 := congrArg (fun z => BitVec.getLsbD z i) h1
  simp [hi] at h2 ⊢
  intro a b
  exact ⟨h2 a, b⟩
theorem cl_sub {P L M Y : Nat → Int32} {l : Int32} {a b : Nat} (h : eB P (clL L l) M Y a b = true) : eB P L M Y a b = true := by
  unfold eB at h ⊢
  rw [Bool.and_eq_true, decide_eq_true_iff, decide_eq_true_iff] at h ⊢
  refine ⟨h.1, fun q => h.2 ?_⟩
  rw [by_vals] at q ⊢
  have hn : ∀ l m y : Bool, ((if l = true then 1 else 0) + (if m = true then 2 else 0) + (if y = true then 4 else 0) : Int32) = 0 → l = false ∧ m = false ∧ y = false := by decide +kernel
  obtain ⟨h1, h2, h3⟩ := hn _ _ _ q
  have h4 : (decide (P a = P b) && decide (¬ clL L l b &&& ~~~(clL L l a) = 0)) = false := by
    by_cases e : P a = P b
    · have : L b &&& ~~~(L a) = 0 := by simpa [e] using h1
      simp [e, clL, cl_bits _ _ _ this]
    · simp [e]
  rw [h4, h2, h3]
  decide
/-! the script's numbers -/
theorem low_e (v : Int32) {m : Nat} (h0 : 0 < m) (hm : m < 2 ^ 31) : ∃ r, r < m ∧ f_L_low v (nI m) = some (nI r) := by
  refine ⟨v.toBitVec.toNat % 2 ^ 31 % m, Nat.mod_lt _ h0, ?_⟩
  unfold f_L_low
  rw [show v &&& 2147483647 = nI (v.toBitVec.toNat % 2 ^ 31) from pk_and v 31 (by decide), pk_rem (Nat.mod_lt _ (by decide)) h0 hm]
  unfold gZ
  rw [if_neg (fun e => by rw [iN_z0 hm] at e; omega)]
theorem cell_e {L : Nat} (xs : Nat → Int32) (hL : L ≤ 260) {k : Nat} (hk : k < 1000) : ∃ v, f_L_cell L xs (nI k) = some v := by
  unfold f_L_cell
  dsimp only [jn, u1]
  by_cases h : L ≤ k
  · exact ⟨_, if_pos ((nI_leI (by omega) (by omega)).mpr h)⟩
  · refine ⟨xs k, ?_⟩
    rw [show Int32.ofNat L = nI L from rfl, if_neg (fun q => h ((nI_leI (by omega) (by omega)).mp q)), rdA_nI (by omega) (by omega)]
    rfl
