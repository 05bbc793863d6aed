/-! the numbers that both give -/
def fyR (Y : Nat → Int32) (u : Nat → Bool) : Nat → Int32
  | 0 => 1450
  | j + 1 => if u j = true ∧ Y j ≠ -1 then (if fyR Y u j < Y j then Y j else fyR Y u j) else fyR Y u j
theorem fyR_is (Y : Nat → Int32) (u : Nat → Bool) : ∀ j, isFst Y (fun o => u o = true) j (fyR Y u j)
  | 0 => ⟨Int32.le_refl _, fun o h => by omega, Or.inl rfl⟩
  | j + 1 => by
    rw [fyR]
    by_cases h : u j = true ∧ Y j ≠ -1
    · rw [if_pos h]
      exact isFst_take (fyR_is Y u j) h.1 h.2
    · rw [if_neg h]
      refine isFst_skip (fyR_is Y u j) (fun hu => ?_)
      apply Classical.byContradiction
      intro hy
      exact h ⟨hu, hy⟩
def lyR (Y : Nat → Int32) (u : Nat → Bool) : Nat → Int32
  | 0 => 1999
  | j + 1 => if u j = true ∧ Y j ≠ -1 then (if Y j < lyR Y u j then Y j else lyR Y u j) else lyR Y u j
theorem lyR_is (Y : Nat → Int32) (u : Nat → Bool) : ∀ j, isLst Y (fun o => u o = true) j (lyR Y u j)
  | 0 => ⟨Int32.le_refl _, fun o h => by omega, Or.inl rfl⟩
  | j + 1 => by
    rw [lyR]
    by_cases h : u j = true ∧ Y j ≠ -1
    · rw [if_pos h]
      exact isLst_take (lyR_is Y u j) h.1 h.2
    · rw [if_neg h]
      refine isLst_skip (lyR_is Y u j) (fun hu => ?_)
      apply Classical.byContradiction
      intro hy
      exact h ⟨hu, hy⟩
def fyV (E : Nat → Nat → Bool) (n : Nat) (Y : Nat → Int32) (b : Nat) : Int32 := fyR Y (fun o => decide (o = b) || (clo E n b).testBit o) n
def lyV (E : Nat → Nat → Bool) (n : Nat) (Y : Nat → Int32) (b : Nat) : Int32 := lyR Y (fun o => decide (o = b) || (clo (tr E) n b).testBit o) n
theorem isFst_U {Y : Nat → Int32} {U V : Nat → Prop} {n : Nat} {v : Int32} (hUV : ∀ o, U o ↔ V o) (h : isFst Y U n v) : isFst Y V n v := by
  refine ⟨h.1, fun o ho hu => h.2.1 o ho ((hUV o).mpr hu), ?_⟩
  rcases h.2.2 with z | ⟨o, ho, hu, hy⟩
  · exact Or.inl z
  · exact Or.inr ⟨o, ho, (hUV o).mp hu, hy⟩
theorem isLst_U {Y : Nat → Int32} {U V : Nat → Prop} {n : Nat} {v : Int32} (hUV : ∀ o, U o ↔ V o) (h : isLst Y U n v) : isLst Y V n v := by
  refine ⟨h.1, fun o ho hu => h.2.1 o ho ((hUV o).mpr hu), ?_⟩
  rcases h.2.2 with z | ⟨o, ho, hu, hy⟩
  · exact Or.inl z
  · exact Or.inr ⟨o, ho, (hUV o).mp hu, hy⟩
theorem fyV_eq {E : Nat → Nat → Bool} {n b : Nat} {A : Nat → Nat} {Y : Nat → Int32} {v : Int32} (hA : isCl E n A) (hb : b < n) (h : isFst Y (fun z => z = b ∨ (A b).testBit z = true) n v) : v = fyV E n Y b := by
  refine isFst_uni (isFst_U (fun o => ?_) h) (fyR_is Y _ n)
  rw [cl_uni hA (clo_cl E n) b hb, Bool.or_eq_true, decide_eq_true_iff]
theorem lyV_eq {E : Nat → Nat → Bool} {n b : Nat} {B : Nat → Nat} {Y : Nat → Int32} {v : Int32} (hB : isCl (tr E) n B) (hb : b < n) (h : isLst Y (fun z => z = b ∨ (B b).testBit z = true) n v) : v = lyV E n Y b := by
  refine isLst_uni (isLst_U (fun o => ?_) h) (lyR_is Y _ n)
  rw [cl_uni hB (clo_cl (tr E) n) b hb, Bool.or_eq_true, decide_eq_true_iff]
def rdV (E : Nat → Nat → Bool) (n : Nat) (Y : Nat → Int32) (any sz : Int32) (bef beh fy ly aB aH : Nat → Int32) : Prop :=
  sz = nI n ∧ (any = 0 ↔ fitN E n = 0) ∧ ∀ b, b < n → (bef b = nI (bfM E n b) ∧ beh b = nI (bfM (tr E) n b)) ∧ (fy b = fyV E n Y b ∧ ly b = lyV E n Y b) ∧ aB b = nI (clo E n b) ∧ aH b = nI (clo (tr E) n b)
theorem rdV_of {E : Nat → Nat → Bool} {n : Nat} {Y : Nat → Int32} {any sz : Int32} {bef beh fy ly aB aH : Nat → Int32} (h : rdG E n Y any sz bef beh fy ly aB aH) : rdV E n Y any sz bef beh fy ly aB aH := by
  obtain ⟨h1, h2, A, B, hA, hB, h3, h4, h5⟩ := h
  refine ⟨h1, fit_any hA h4, fun b hb => ⟨h2 b hb, ⟨fyV_eq hA hb (h5 b hb).1, lyV_eq hB hb (h5 b hb).2⟩, ?_, ?_⟩⟩
  · rw [(h3 b hb).1, cl_uni hA (clo_cl E n) b hb]
  · rw [(h3 b hb).2, cl_uni hB (clo_cl (tr E) n) b hb]
def dtdV (E : Nat → Nat → Bool) (n : Nat) (Y : Nat → Int32) : Nat := dtd n (fyV E n Y) (lyV E n Y)
theorem dtd_congr {n : Nat} {f f' g g' : Nat → Int32} (h : ∀ b, b < n → f b = f' b ∧ g b = g' b) : dtd n f g = dtd n f' g' := sm_congr (fun b hb => by rw [(h b hb).1, (h b hb).2])
theorem dtd_le (n : Nat) (f g : Nat → Int32) : dtd n f g ≤ n := by
  have := sm_bd (n := n) (f := fun b => if f b = g b then 1 else 0) (c := 1) (fun i _ => by split <;> omega)
  unfold dtd
  omega
def havY (n : Nat) (Y : Nat → Int32) : Nat := sm (fun b => if Y b = -1 then 0 else 1) n
def havP (n : Nat) (P : Nat → Int32) (p : Int32) : Nat := sm (fun b => if P b = p then 1 else 0) n
/-- the numbers of all -/
def nAl (E : Nat → Nat → Bool) (n : Nat) (P Y : Nat → Int32) (hs w : Int32) : Int32 :=
  if w = 0 then nI n else if w = 1 then nI (dtdV E n Y) else if w = 2 then nI (havY n Y) else if w = 3 then nI (conP E n) else if w = 4 then nI (fitN E n) else if w = 5 then nI (ordP E n) else if w = 6 then hs else nI (havP n P (w - 7))
/-- the numbers of a book -/
def nBk (E : Nat → Nat → Bool) (n : Nat) (P L M Y : Nat → Int32) (b : Nat) (w : Int32) : Int32 :=
  if w = 0 then P b else if w = 1 then L b else if w = 2 then M b else if w = 3 then Y b else if w = 4 then nI (cd 12 (L b).toNatClampNeg) else if w = 5 then fyV E n Y b else if w = 6 then lyV E n Y b else if w = 7 then (if fyV E n Y b = lyV E n Y b then 1 else 0)
  else if w = 8 then nI (cd n (bfM E n b)) else if w = 9 then nI (cd n (bfM (tr E) n b)) else nI (cd n (bfM E n b &&& bfM (tr E) n b))
/-- where a book can stand -/
def nPl (E : Nat → Nat → Bool) (n b : Nat) (w : Int32) : Int32 :=
  if w = 0 then (if fitN E n = 0 then -1 else nI (cd n (clo E n b))) else if w = 1 then (if fitN E n = 0 then -1 else nI n - 1 - nI (cd n (clo (tr E) n b))) else nI (if fitN E n ≠ 0 ∧ bfM E n b = 0 then ct E n ((2 ^ n - 1) ^^^ 2 ^ b) else 0)
theorem i_range {v lo hi : Int32} {n : Nat} (hn : hi.toInt = (lo.toInt + n)) (h1 : lo ≤ v) (h2 : v ≤ hi) : ∃ k : Nat, k ≤ n ∧ v.toInt = lo.toInt + k := by
  rw [Int32.le_iff_toInt_le] at h1 h2
  exact ⟨(v.toInt - lo.toInt).toNat, by omega, by omega⟩
theorem w_cases {w : Int32} (n : Nat) (h1 : 0 ≤ w) (h2 : w ≤ nI n) (hn : n < 2 ^ 31) : ∃ k : Nat, k ≤ n ∧ w = nI k := by
  obtain ⟨k, hk, rfl⟩ := nI_of (Int32.not_lt.mpr h1)
  exact ⟨k, (nI_leI hk hn).mp h2, rfl⟩
